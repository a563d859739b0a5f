/-! RANKS: by falling degrees, the same by rising numbers: how many go ahead -/
def bef (dg : Nat → Nat) (j k w : Nat) : Bool := decide (j ≤ dg w) || (decide (dg w + 1 = j) && decide (w < k))
def ahd (dg : Nat → Nat) (n v : Nat) : Nat := fb_ct (bef dg (dg v + 1) v) n
theorem bef_iff {dg : Nat → Nat} {j k w : Nat} : bef dg j k w = true ↔ (j ≤ dg w ∨ (dg w + 1 = j ∧ w < k)) := by
  unfold bef
  simp
theorem bef_no {dg : Nat → Nat} {j k w : Nat} : bef dg j k w = false ↔ ¬ (j ≤ dg w ∨ (dg w + 1 = j ∧ w < k)) := by
  rw [← bef_iff]; simp
theorem bef_eq {dg : Nat → Nat} {j k j2 k2 w : Nat} (h : (j ≤ dg w ∨ (dg w + 1 = j ∧ w < k)) ↔ (j2 ≤ dg w ∨ (dg w + 1 = j2 ∧ w < k2))) : bef dg j k w = bef dg j2 k2 w := by
  cases e : bef dg j2 k2 w with
  | true => exact bef_iff.mpr (h.mpr (bef_iff.mp e))
  | false => exact bef_no.mpr (fun q => bef_no.mp e (h.mp q))
theorem bef_self {dg : Nat → Nat} {i k : Nat} (h : dg k = i) : bef dg (i + 1) k k = false := bef_no.mpr (by omega)
theorem bef_put {dg : Nat → Nat} {i k : Nat} (h : dg k = i) (w : Nat) : bef dg (i + 1) (k + 1) w = if w = k then true else bef dg (i + 1) k w := by
  by_cases e : w = k
  · rw [if_pos e, e]; exact bef_iff.mpr (by omega)
  · rw [if_neg e]; exact bef_eq (by omega)
theorem bef_skip {dg : Nat → Nat} {i k : Nat} (h : dg k ≠ i) (w : Nat) : bef dg (i + 1) (k + 1) w = bef dg (i + 1) k w := by
  by_cases e : w = k
  · rw [e]; exact bef_eq (by omega)
  · exact bef_eq (by omega)
theorem bef_down {dg : Nat → Nat} {i n w : Nat} (h : w < n) : bef dg (i + 1) n w = bef dg i 0 w := bef_eq (by omega)
def cnt (dg : Nat → Nat) (n j k : Nat) : Nat := fb_ct (bef dg j k) n
theorem cnt_put {dg : Nat → Nat} {n i k : Nat} (h : dg k = i) (hk : k < n) : cnt dg n (i + 1) (k + 1) = cnt dg n (i + 1) k + 1 := by
  have e := fb_ct_upd (bef dg (i + 1) k) true hk
  rw [bef_self h] at e
  have e2 : cnt dg n (i + 1) (k + 1) = fb_ct (fun w => if w = k then true else bef dg (i + 1) k w) n := fb_ct_cong fun w _ => bef_put h w
  rw [e2, ← show fb_ct (bef dg (i + 1) k) n = cnt dg n (i + 1) k from rfl]
  simpa using e
theorem cnt_skip {dg : Nat → Nat} {n i k : Nat} (h : dg k ≠ i) : cnt dg n (i + 1) (k + 1) = cnt dg n (i + 1) k := fb_ct_cong fun w _ => bef_skip h w
theorem cnt_down {dg : Nat → Nat} {n i : Nat} : cnt dg n (i + 1) n = cnt dg n i 0 := fb_ct_cong fun _ h => bef_down h
theorem cnt_lt {dg : Nat → Nat} {n i k : Nat} (h : dg k = i) (hk : k < n) : cnt dg n (i + 1) k < n := by
  rcases Nat.lt_or_ge (cnt dg n (i + 1) k) n with g | g
  · exact g
  · have e : cnt dg n (i + 1) k = n := Nat.le_antisymm (fb_ct_le _ _) g
    have := fb_ct_all.mp e k hk
    rw [bef_self h] at this
    cases this
theorem cnt_0 {dg : Nat → Nat} {n : Nat} (hd : ∀ v, v < n → dg v < 48) : cnt dg n 48 0 = 0 := fb_ct_zero.mpr fun v hv => bef_no.mpr (by have := hd v hv; omega)
theorem cnt_n {dg : Nat → Nat} {n : Nat} : cnt dg n 0 0 = n := fb_ct_all.mpr fun v _ => bef_iff.mpr (Or.inl (Nat.zero_le _))
theorem ahd_eq {dg : Nat → Nat} {n i k : Nat} (h : dg k = i) : ahd dg n k = cnt dg n (i + 1) k := by rw [← h]; rfl
theorem ahd_lt {dg : Nat → Nat} {n v k : Nat} (hv : v < n) (h : bef dg (dg k + 1) k v = true) : ahd dg n v < ahd dg n k := by
  have e := fb_ct_upd (bef dg (dg v + 1) v) true hv
  rw [bef_self rfl] at e
  have e2 : fb_ct (fun w => if w = v then true else bef dg (dg v + 1) v w) n = ahd dg n v + 1 := by simpa [ahd] using e
  have hle : fb_ct (fun w => if w = v then true else bef dg (dg v + 1) v w) n ≤ ahd dg n k := by
    refine fb_ct_sub fun w hw hp => ?_
    by_cases ew : w = v
    · rw [ew]; exact h
    · rw [if_neg ew] at hp
      have h1 := bef_iff.mp h
      have h2 := bef_iff.mp hp
      exact bef_iff.mpr (by omega)
  omega
theorem ahd_n {dg : Nat → Nat} {n v : Nat} (hv : v < n) : ahd dg n v < n := by rw [ahd_eq rfl]; exact cnt_lt rfl hv
theorem ahd_inj {dg : Nat → Nat} {n v k : Nat} (hv : v < n) (hk : k < n) (h : ahd dg n v = ahd dg n k) : v = k := by
  rcases Nat.lt_trichotomy v k with g | g | g
  · rcases Nat.lt_or_ge (dg v) (dg k) with q | q
    · have := ahd_lt (dg := dg) hk (k := v) (bef_iff.mpr (by omega)); omega
    · have := ahd_lt (dg := dg) hv (k := k) (bef_iff.mpr (by omega)); omega
  · exact g
  · rcases Nat.lt_or_ge (dg k) (dg v) with q | q
    · have := ahd_lt (dg := dg) hv (k := k) (bef_iff.mpr (by omega)); omega
    · have := ahd_lt (dg := dg) hk (k := v) (bef_iff.mpr (by omega)); omega
/-- what is ranked so far stands in both rows -/
def RI (dg : Nat → Nat) (n j k : Nat) (rk vb : Nat → Int32) : Prop := ∀ v, v < n → bef dg j k v = true → rk v = nI (ahd dg n v) ∧ vb (ahd dg n v) = nI v
theorem RI.start {dg : Nat → Nat} {n : Nat} {rk vb : Nat → Int32} (hd : ∀ v, v < n → dg v < 48) : RI dg n 48 0 rk vb := fun v hv h => by
  have h1 := bef_iff.mp h
  have h2 := hd v hv
  omega
theorem RI.put {dg : Nat → Nat} {n i k : Nat} {rk vb : Nat → Int32} (h : RI dg n (i + 1) k rk vb) (hk : k < n) (hd : dg k = i) : RI dg n (i + 1) (k + 1) (upd rk k (nI (cnt dg n (i + 1) k))) (upd vb (cnt dg n (i + 1) k) (nI k)) := by
  intro v hv hb
  rw [← ahd_eq hd]
  by_cases e : v = k
  · subst e
    exact ⟨if_pos rfl, if_pos rfl⟩
  · rw [bef_put hd, if_neg e] at hb
    have h0 := h v hv hb
    have h1 : ahd dg n v < ahd dg n k := ahd_lt hv (by rw [hd]; exact hb)
    exact ⟨by rw [← h0.1]; exact if_neg e, by rw [← h0.2]; exact if_neg (by omega)⟩
theorem RI.skip {dg : Nat → Nat} {n i k : Nat} {rk vb : Nat → Int32} (h : RI dg n (i + 1) k rk vb) (hd : dg k ≠ i) : RI dg n (i + 1) (k + 1) rk vb := fun v hv hb => h v hv (by rw [← bef_skip hd]; exact hb)
theorem RI.down {dg : Nat → Nat} {n i : Nat} {rk vb : Nat → Int32} (h : RI dg n (i + 1) n rk vb) : RI dg n i 0 rk vb := fun v hv hb => h v hv (by rw [bef_down hv]; exact hb)
theorem RI.all {dg : Nat → Nat} {n : Nat} {rk vb : Nat → Int32} (h : RI dg n 0 0 rk vb) : ∀ v, v < n → rk v = nI (ahd dg n v) ∧ vb (ahd dg n v) = nI v := fun v hv => h v hv (bef_iff.mpr (Or.inl (Nat.zero_le _)))
/-- a number that counts down to -1 -/
def dI (j : Nat) : Int32 := nI j + (-1)
theorem dI_0 : dI 0 = -1 := by decide
theorem dI_s (j : Nat) : dI (j + 1) = nI j := pk_m1 j
theorem dI_i (i : Nat) : nI i + Int32.ofInt (-1) = dI i := congrArg (nI i + ·) (by decide)
theorem RepL.put {L P : Nat → Nat → Option Nat} {hs : Nat → Int64} {D Pp : Nat → Int32} (h : RepL L P hs D Pp) {v r d : Nat} {p : Option Nat} (hv : v < 48) (hr : r < 48) :
    RepL (up2 L v r (some d)) (up2 P v r p) (vp_updL hs v (hs v ||| ((1 : Int64) <<< ((nI r).toInt64 &&& 63)))) (upd D (v * 48 + r) (nI d)) (upd Pp (v * 48 + r) (eN p)) := by
  obtain ⟨h1, h2, h3⟩ := h
  refine ⟨fun v' r' hv' hr' => ?_, fun v' r' d' hv' hr' e => ?_, fun v' k hv' hk => ?_⟩
  · by_cases e : v' = v
    · subst e
      rw [pk_uLs]
      rw [gb_set _ (by omega) (by omega), h1 v' r' hv' hr']
      by_cases e2 : r' = r
      · subst e2; simp [up2]
      · simp [up2, e2]
    · rw [pk_uLn e, h1 v' r' hv' hr']
      simp [up2, e]
  · by_cases e1 : v' = v ∧ r' = r
    · obtain ⟨rfl, rfl⟩ := e1
      have e0 : d = d' := by simpa [up2] using e
      subst e0
      exact ⟨pk_us, by rw [pk_us]; simp [up2]⟩
    · have hne : v' * 48 + r' ≠ v * 48 + r := fun q => e1 (by omega)
      have e0 : L v' r' = some d' := by simpa [up2, e1] using e
      have := h2 v' r' d' hv' hr' e0
      exact ⟨by rw [pk_un hne]; exact this.1, by rw [pk_un hne]; simpa [up2, e1] using this.2⟩
  · by_cases e : v' = v
    · subst e
      rw [pk_uLs]
      rcases Nat.lt_or_ge k 64 with g | g
      · rw [gb_set _ (by omega) g, h3 v' k hv' hk]
        simp; omega
      · exact gb_big g
    · rw [pk_uLn e]; exact h3 v' k hv' hk
theorem RepL.zero {P : Nat → Nat → Option Nat} {hs : Nat → Int64} {D Pp : Nat → Int32} (h : ∀ v, v < 48 → hs v = 0) : RepL (fun _ _ => none) P hs D Pp := by
  refine ⟨fun v r hv _ => ?_, fun v r d _ _ e => ?_, fun v k hv _ => ?_⟩
  · rw [h v hv, gb_0]; rfl
  · cases e
  · rw [h v hv, gb_0]
