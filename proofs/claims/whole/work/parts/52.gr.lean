/-! what every state of the graph keeps -/
def GI (n : Nat) (ns : Nat → Int64) : Prop := (∀ v, n ≤ v → ns v = 0) ∧ ∀ v k, k < 64 → gb (ns v) k = true → k < n ∧ k ≠ v
theorem GI.zero : GI 0 (fun _ => 0) := ⟨fun _ _ => rfl, fun v k _ h => by rw [gb_0] at h; cases h⟩
theorem GI.mono {n m : Nat} {ns : Nat → Int64} (h : GI n ns) (hm : n ≤ m) : GI m ns := ⟨fun v hv => h.1 v (by omega), fun v k hk e => by
  have := h.2 v k hk e
  exact ⟨by omega, this.2⟩⟩
theorem GI.cut {n : Nat} {ns : Nat → Int64} (hn : n ≤ 48) (h : GI n ns) : cut0 ns 48 = fun _ => 0 := by
  funext v
  unfold cut0
  by_cases c : v < 48
  · rw [if_pos c]
  · rw [if_neg c]; exact h.1 v (by omega)
theorem GI.cutn {n : Nat} {ns : Nat → Int64} (h : GI n ns) : cut0 ns n = fun _ => 0 := by
  funext v
  unfold cut0
  by_cases c : v < n
  · rw [if_pos c]
  · rw [if_neg c]; exact h.1 v (by omega)
theorem GI.none (n : Nat) : GI n (fun _ => 0) := GI.zero.mono (Nat.zero_le n)
theorem GI.deg {n v : Nat} {ns : Nat → Int64} (hn : n ≤ 48) (h : GI n ns) : fb_ct (gb (ns v)) 64 = fb_ct (gb (ns v)) n := deg_48 hn fun k h1 h2 => by
  cases e : gb (ns v) k with
  | false => rfl
  | true => have := (h.2 v k h2 e).1; omega
theorem GI.deg_lt {n v : Nat} {ns : Nat → Int64} (hn : n ≤ 48) (h : GI n ns) (hv : v < n) : fb_ct (gb (ns v)) 64 < 48 := by
  rw [h.deg hn]
  have h1 : fb_ct (gb (ns v)) n + 1 ≤ fb_ct (fun _ => true) n := fb_ct_lt (k := v) (fun _ _ _ => rfl) hv (by
    cases e : gb (ns v) v with
    | false => rfl
    | true => exact absurd rfl (h.2 v v (by omega) e).2) rfl
  have h2 := fb_ct_le (fun _ => true) n
  omega
theorem GI.jn {n a b : Nat} {ns : Nat → Int64} (hn : n ≤ 48) (h : GI n ns) (ha : a < n) (hb : b < n) (hab : a ≠ b) : GI n (jn ns a b) := by
  have s1 : GI n (vp_updL ns a (ns a ||| ((1 : Int64) <<< ((nI b).toInt64 &&& 63)))) := by
    refine ⟨fun v hv => ?_, fun v k hk e => ?_⟩
    · unfold vp_updL
      rw [if_neg (by omega)]
      exact h.1 v hv
    · unfold vp_updL at e
      by_cases c : v = a
      · rw [if_pos c] at e
        rw [gb_put (ns a) (k := b) (by omega) hk _ rfl] at e
        by_cases c2 : k = b
        · rw [c2, c]; exact ⟨hb, fun z => hab z.symm⟩
        · rw [if_neg c2] at e
          rw [c]; exact h.2 a k hk e
      · rw [if_neg c] at e
        exact h.2 v k hk e
  generalize hm : vp_updL ns a (ns a ||| ((1 : Int64) <<< ((nI b).toInt64 &&& 63))) = ms at s1
  have e0 : Jvm.Pilot.CLandmarkLeaLaw_law_r5280_bb4bc7.jn ns a b = vp_updL ms b (ms b ||| ((1 : Int64) <<< ((nI a).toInt64 &&& 63))) := by rw [← hm]; rfl
  rw [e0]
  refine ⟨fun v hv => ?_, fun v k hk e => ?_⟩
  · unfold vp_updL
    rw [if_neg (by omega)]
    exact s1.1 v hv
  · unfold vp_updL at e
    by_cases c : v = b
    · rw [if_pos c] at e
      rw [gb_put (ms b) (k := a) (by omega) hk _ rfl] at e
      by_cases c2 : k = a
      · rw [c2, c]; exact ⟨ha, hab⟩
      · rw [if_neg c2] at e
        rw [c]; exact s1.2 b k hk e
    · rw [if_neg c] at e
      exact s1.2 v k hk e
/-- hubs are apart -/
theorem hbf_inj {dg : Nat → Nat} {n : Nat} : ∀ i j, i < n → j < n → hbf dg n i = hbf dg n j → i = j := fun i j hi hj e => by
  have h1 := (hbf_ok (dg := dg) hi).2
  have h2 := (hbf_ok (dg := dg) hj).2
  rw [e] at h1
  exact h1.symm.trans h2
