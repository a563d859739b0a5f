/-! what every state of the labels keeps: hubs, ranges, parents that are nearer -/
def IL (n : Nat) (hb : Nat → Nat) (K : Nat) (L P : Nat → Nat → Option Nat) : Prop :=
  (∀ v r d, L v r = some d → v < n ∧ r < K) ∧ (∀ r, r < K → L (hb r) r = some 0 ∧ P (hb r) r = none) ∧
  (∀ v r d, L v r = some d → v ≠ hb r → ∃ q d', P v r = some q ∧ L q r = some d' ∧ d' < d)
/-- what waits in the queue from t on has a parent that is nearer -/
def IQ (r : Nat) (L : Nat → Nat → Option Nat) (t : Nat) (T : SQ) : Prop := ∀ i, t ≤ i → i < qn T → ∃ q d', T.2.2.1 i = some q ∧ L q r = some d' ∧ d' < T.2.1 i
def ML (L L' : Nat → Nat → Option Nat) : Prop := ∀ v r d, L v r = some d → ∃ e, L' v r = some e ∧ e ≤ d
theorem ML.rfl' {L : Nat → Nat → Option Nat} : ML L L := fun _ _ d e => ⟨d, e, Nat.le_refl _⟩
theorem ML.tr {L M N : Nat → Nat → Option Nat} (h : ML L M) (k : ML M N) : ML L N := fun v r d e => by
  obtain ⟨x, ex, hx⟩ := h v r d e
  obtain ⟨y, ey, hy⟩ := k v r x ex
  exact ⟨y, ey, Nat.le_trans hy hx⟩
theorem up2_s {α : Type} {L : Nat → Nat → α} {v r : Nat} {x : α} : up2 L v r x v r = x := if_pos ⟨rfl, rfl⟩
theorem up2_n {α : Type} {L : Nat → Nat → α} {v r v' r' : Nat} {x : α} (h : ¬ (v' = v ∧ r' = r)) : up2 L v r x v' r' = L v' r' := if_neg h
theorem QI_q00 (n : Nat) : QI n q00 := ⟨(fb_ct_zero.mpr fun k _ => gb_0 k).symm, fun i hi => absurd hi (Nat.not_lt_zero i)⟩
theorem QI_start {n s d : Nat} {p : Option Nat} (hn : n ≤ 48) (hs : s < n) : QI n (qpush q00 s d p) := (QI_q00 n).push hn hs (gb_0 s)
theorem QI_vst {ns : Nat → Int64} {n h r v d : Nat} {p : Option Nat} {S : ST} (hn : n ≤ 48) (hQ : QI n S.2.2.1) : QI n (vst ns n h r v d p S).2.2.1 := by
  unfold vst
  split
  · exact hQ
  · exact QI_enq hQ hn n (Nat.le_refl _)
theorem IL_vst {ns : Nat → Int64} {n r t K : Nat} {hb : Nat → Nat} {S : ST} (h : IL n hb K S.1 S.2.1) (hr : r < K) (hQ : QI n S.2.2.1) (hq : IQ r S.1 t S.2.2.1) (ht : t < qn S.2.2.1) :
    IL n hb K (vst ns n (hb r) r (S.2.2.1.1 t) (S.2.2.1.2.1 t) (S.2.2.1.2.2.1 t) S).1 (vst ns n (hb r) r (S.2.2.1.1 t) (S.2.2.1.2.1 t) (S.2.2.1.2.2.1 t) S).2.1 ∧
    IQ r (vst ns n (hb r) r (S.2.2.1.1 t) (S.2.2.1.2.1 t) (S.2.2.1.2.2.1 t) S).1 (t + 1) (vst ns n (hb r) r (S.2.2.1.1 t) (S.2.2.1.2.1 t) (S.2.2.1.2.2.1 t) S).2.2.1 ∧
    ML S.1 (vst ns n (hb r) r (S.2.2.1.1 t) (S.2.2.1.2.1 t) (S.2.2.1.2.2.1 t) S).1 := by
  obtain ⟨L, P, Q, vi, cu, pu⟩ := S
  dsimp only at h hQ hq ht ⊢
  obtain ⟨q, d', ep, eL, hd⟩ := hq t (Nat.le_refl _) ht
  have hv : Q.1 t < n := hQ.2 t ht
  generalize Q.1 t = v at hv ⊢
  generalize Q.2.1 t = d at hd ⊢
  rw [ep]
  unfold vst
  dsimp only
  split
  · exact ⟨h, fun i hi hj => hq i (by omega) hj, ML.rfl'⟩
  · rename_i hf
    show IL n hb K (up2 L v r (some d)) (up2 P v r (some q)) ∧ IQ r (up2 L v r (some d)) (t + 1) (enq ns v d Q n) ∧ ML L (up2 L v r (some d))
    obtain ⟨h1, h2, h3⟩ := h
    have hh := h2 r hr
    have hlt : ∀ x, L v r = some x → d < x := fun x e => by
      rcases Nat.lt_or_ge d x with g | g
      · exact g
      · exact absurd (rch_yes (by rw [hh.1, e]; rfl) (show lsm L (hb r) v r ≤ d by unfold lsm; rw [hh.1, e]; simpa using g)) hf
    have hvh : v ≠ hb r := fun e => by
      have := hlt 0 (by rw [e]; exact hh.1)
      omega
    have hqv : q ≠ v := fun e => by
      have := hlt d' (by rw [← e]; exact eL)
      omega
    refine ⟨⟨fun v' r' x e => ?_, fun r' hr' => ?_, fun v' r' x e hne => ?_⟩, fun i hi hj => ?_, fun v' r' x e => ?_⟩
    · by_cases c : v' = v ∧ r' = r
      · rw [c.1, c.2]; exact ⟨hv, hr⟩
      · rw [up2_n c] at e; exact h1 v' r' x e
    · have c : ¬ (hb r' = v ∧ r' = r) := fun c => hvh (by rw [← c.1, c.2])
      rw [up2_n c, up2_n c]; exact h2 r' hr'
    · by_cases c : v' = v ∧ r' = r
      · obtain ⟨rfl, rfl⟩ := c
        rw [up2_s] at e
        cases e
        exact ⟨q, d', up2_s, by rw [up2_n (fun z => hqv z.1)]; exact eL, hd⟩
      · rw [up2_n c] at e
        obtain ⟨q2, d2, e1, e2, e3⟩ := h3 v' r' x e hne
        by_cases c2 : q2 = v ∧ r' = r
        · obtain ⟨rfl, rfl⟩ := c2
          exact ⟨q2, d, by rw [up2_n c]; exact e1, up2_s, by have := hlt d2 e2; omega⟩
        · exact ⟨q2, d2, by rw [up2_n c]; exact e1, by rw [up2_n c2]; exact e2, e3⟩
    · have o := (enq_old (ns := ns) (v := v) (d := d) (T := Q) n).2 i hj
      rcases Nat.lt_or_ge i (qn Q) with g | g
      · obtain ⟨o1, o2, o3⟩ := o.1 g
        obtain ⟨q2, d2, e1, e2, e3⟩ := hq i (by omega) g
        by_cases c2 : q2 = v
        · subst c2
          exact ⟨q2, d, by rw [o3]; exact e1, up2_s, by rw [o2]; have := hlt d2 e2; omega⟩
        · exact ⟨q2, d2, by rw [o3]; exact e1, by rw [up2_n (fun z => c2 z.1)]; exact e2, by rw [o2]; exact e3⟩
      · obtain ⟨o2, o3⟩ := o.2 g
        exact ⟨v, d, o3, up2_s, by rw [o2]; omega⟩
    · by_cases c : v' = v ∧ r' = r
      · obtain ⟨rfl, rfl⟩ := c
        exact ⟨d, up2_s, Nat.le_of_lt (hlt x e)⟩
      · exact ⟨x, by rw [up2_n c]; exact e, Nat.le_refl _⟩
theorem IL_run {ns : Nat → Int64} {n r K : Nat} {hb : Nat → Nat} (hn : n ≤ 48) (hr : r < K) : ∀ (f t : Nat) (S : ST), IL n hb K S.1 S.2.1 → QI n S.2.2.1 → IQ r S.1 t S.2.2.1 →
    IL n hb K (srun ns n (hb r) r f t S).1 (srun ns n (hb r) r f t S).2.1 ∧ ML S.1 (srun ns n (hb r) r f t S).1
  | 0, t, S, h, _, _ => ⟨h, ML.rfl'⟩
  | f + 1, t, S, h, hQ, hq => by
    unfold srun
    split
    · rename_i ht
      have k := IL_vst (ns := ns) h hr hQ hq ht
      have z := IL_run (ns := ns) hn hr f (t + 1) _ k.1 (QI_vst hn hQ) k.2.1
      exact ⟨z.1, k.2.2.tr z.2⟩
    · exact ⟨h, ML.rfl'⟩
/-- a search from a parent that has an entry -/
theorem IL_more {ns : Nat → Int64} {n r K s d a x : Nat} {hb : Nat → Nat} {S : BT} (hn : n ≤ 48) (hr : r < K) (hs : s < n) (h : IL n hb K S.1 S.2.1) (ea : S.1 a r = some x) (hx : x < d) :
    IL n hb K (sr1 ns n (hb r) r s d (some a) S).1 (sr1 ns n (hb r) r s d (some a) S).2.1 ∧ ML S.1 (sr1 ns n (hb r) r s d (some a) S).1 := by
  refine IL_run (ns := ns) hn hr 48 0 (S.1, S.2.1, qpush q00 s d (some a), S.2.2.1, S.2.2.2.1, S.2.2.2.2) h (QI_start hn hs) (fun i _ hi => ?_)
  have e0 : i = 0 := by
    have hi : i < 1 := hi
    omega
  subst e0
  exact ⟨a, x, rfl, ea, hx⟩
theorem rch_off {L : Nat → Nat → Option Nat} {h v d : Nat} : ∀ {m : Nat}, (∀ j, j < m → ((L h j).isSome && (L v j).isSome) = true → d < lsm L h v j) → rch L h v d m = false
  | 0, _ => rfl
  | m + 1, hj => by
    have ih := rch_off (m := m) (fun j h1 h2 => hj j (by omega) h2)
    cases c : ((L h m).isSome && (L v m).isSome) with
    | false => exact rch_no ih c
    | true => exact rch_gt ih (hj m (Nat.lt_succ_self m) c)
/-- a building's search -/
theorem IL_first {ns : Nat → Int64} {n k : Nat} {hb : Nat → Nat} {S : BT} (hn : n ≤ 48) (hk : k < n) (hk2 : hb k < n) (hinj : ∀ j, j < k → hb j ≠ hb k) (h : IL n hb k S.1 S.2.1) :
    IL n hb (k + 1) (sr1 ns n (hb k) k (hb k) 0 none S).1 (sr1 ns n (hb k) k (hb k) 0 none S).2.1 := by
  obtain ⟨L, P, vi, cu, pu⟩ := S
  dsimp only at h
  obtain ⟨h1, h2, h3⟩ := h
  have hf : rch L (hb k) (hb k) 0 (k + 1) = false := rch_off fun j hj hc => by
    obtain ⟨x, ex⟩ := Option.isSome_iff_exists.mp (Bool.and_eq_true_iff.mp hc).1
    have hjk := (h1 _ _ _ ex).2
    obtain ⟨q, d', -, -, hd⟩ := h3 _ _ _ ex (fun e => hinj j hjk e.symm)
    unfold lsm
    rw [ex]
    simp
    omega
  have hQ0 := QI_start (d := 0) (p := none) hn hk2
  have e1 : sr1 ns n (hb k) k (hb k) 0 none (L, P, vi, cu, pu) = cutq (srun ns n (hb k) k 47 1 (vst ns n (hb k) k (hb k) 0 none (L, P, qpush q00 (hb k) 0 none, vi, cu, pu))) := rfl
  have e2 : vst ns n (hb k) k (hb k) 0 none (L, P, qpush q00 (hb k) 0 none, vi, cu, pu) = (up2 L (hb k) k (some 0), up2 P (hb k) k none, enq ns (hb k) 0 (qpush q00 (hb k) 0 none) n, vi + 1, cu, pu + 1) := if_neg (by rw [hf]; decide)
  rw [e1, e2]
  have hP : ∀ q d, L q k = some d → False := fun q d e => absurd (h1 q k d e).2 (Nat.lt_irrefl k)
  refine (IL_run hn (Nat.lt_succ_self k) 47 1 _ ⟨fun v r d e => ?_, fun r hr => ?_, fun v r d e hne => ?_⟩ (QI_enq hQ0 hn n (Nat.le_refl _)) (fun i hi hj => ?_)).1
  · by_cases c : v = hb k ∧ r = k
    · rw [c.1, c.2]; exact ⟨hk2, Nat.lt_succ_self k⟩
    · have e : up2 L (hb k) k (some 0) v r = some d := e
      rw [up2_n c] at e
      have := h1 v r d e
      exact ⟨this.1, by omega⟩
  · show up2 L (hb k) k (some 0) (hb r) r = some 0 ∧ up2 P (hb k) k none (hb r) r = none
    by_cases c : r = k
    · subst c; exact ⟨up2_s, up2_s⟩
    · rw [up2_n (fun z => c z.2), up2_n (fun z => c z.2)]; exact h2 r (by omega)
  · have e : up2 L (hb k) k (some 0) v r = some d := e
    have c : ¬ (v = hb k ∧ r = k) := fun c => hne (by rw [c.1, c.2])
    rw [up2_n c] at e
    obtain ⟨q, d', e1, e2, e3⟩ := h3 v r d e hne
    have c2 : ¬ (q = hb k ∧ r = k) := fun z => hP q d' (by rw [← z.2]; exact e2)
    exact ⟨q, d', (up2_n c).trans e1, (up2_n c2).trans e2, e3⟩
  · have o := ((enq_old (ns := ns) (v := hb k) (d := 0) (T := qpush q00 (hb k) 0 none) n).2 i hj).2 hi
    exact ⟨hb k, 0, o.2, up2_s, by rw [show (enq ns (hb k) 0 (qpush q00 (hb k) 0 none) n).2.1 i = 0 + 1 from o.1]; exact Nat.zero_lt_one⟩
theorem IL_bl {ns : Nat → Int64} {n : Nat} {hb : Nat → Nat} (hn : n ≤ 48) (hh : ∀ k, k < n → hb k < n) (hinj : ∀ i j, i < n → j < n → hb i = hb j → i = j) : ∀ k, k ≤ n → IL n hb k (bl ns n hb k).1 (bl ns n hb k).2.1
  | 0, _ => by
    show IL n hb 0 (fun _ _ => none) (fun _ _ => none)
    exact ⟨fun v r d e => (nomatch e), fun r hr => absurd hr (Nat.not_lt_zero r), fun v r d e => (nomatch e)⟩
  | k + 1, hk => IL_first hn (by omega) (hh k (by omega)) (fun j hj e => by have := hinj j k (by omega) (by omega) e; omega) (IL_bl hn hh hinj k (by omega))
theorem IL_ex {ns : Nat → Int64} {n a b : Nat} {hb : Nat → Nat} {L P : Nat → Nat → Option Nat} (hn : n ≤ 48) (ha : a < n) (hb0 : b < n) (h : IL n hb n L P) : ∀ k, k ≤ n → IL n hb n (ex ns n hb a b L P k).1 (ex ns n hb a b L P k).2.1
  | 0, _ => h
  | k + 1, hk => by
    have ih := IL_ex (ns := ns) hn ha hb0 h k (by omega)
    have h1 : IL n hb n (ex1 ns n hb a b k (ex ns n hb a b L P k)).1 (ex1 ns n hb a b k (ex ns n hb a b L P k)).2.1 ∧ ML (ex ns n hb a b L P k).1 (ex1 ns n hb a b k (ex ns n hb a b L P k)).1 := by
      unfold ex1
      split
      · rename_i x e
        exact IL_more hn (by omega) hb0 ih e (Nat.lt_succ_self x)
      · exact ⟨ih, ML.rfl'⟩
    show IL n hb n (ex2 ns n hb a b k ((ex ns n hb a b L P k).1 b k) (ex1 ns n hb a b k (ex ns n hb a b L P k))).1 (ex2 ns n hb a b k ((ex ns n hb a b L P k).1 b k) (ex1 ns n hb a b k (ex ns n hb a b L P k))).2.1
    cases e : (ex ns n hb a b L P k).1 b k with
    | none => exact h1.1
    | some y =>
      obtain ⟨z, ez, hz⟩ := h1.2 b k y e
      exact (IL_more (d := y + 1) hn (by omega) ha h1.1 ez (by omega)).1
/-- a vertex more -/
def hbu (hb : Nat → Nat) (n k : Nat) : Nat := if k = n then n else hb k
theorem hbu_n {hb : Nat → Nat} {n : Nat} : hbu hb n n = n := if_pos rfl
theorem hbu_o {hb : Nat → Nat} {n k : Nat} (h : ¬ k = n) : hbu hb n k = hb k := if_neg h
theorem IL_up {n : Nat} {hb : Nat → Nat} {L P : Nat → Nat → Option Nat} (h : IL n hb n L P) : IL (n + 1) (hbu hb n) (n + 1) (up2 L n n (some 0)) (up2 P n n none) := by
  obtain ⟨h1, h2, h3⟩ := h
  refine ⟨fun v r d e => ?_, fun r hr => ?_, fun v r d e hne => ?_⟩
  · by_cases c : v = n ∧ r = n
    · rw [c.1, c.2]; exact ⟨Nat.lt_succ_self n, Nat.lt_succ_self n⟩
    · rw [up2_n c] at e
      have := h1 v r d e
      omega
  · by_cases c : r = n
    · subst c
      rw [hbu_n]; exact ⟨up2_s, up2_s⟩
    · rw [hbu_o c, up2_n (fun z => c z.2), up2_n (fun z => c z.2)]; exact h2 r (by omega)
  · by_cases c : r = n
    · subst c
      have hne : v ≠ r := fun z => hne (by rw [hbu_n]; exact z)
      rw [up2_n (fun z => hne z.1)] at e
      exact absurd (h1 v r d e).2 (Nat.lt_irrefl _)
    · have hne : v ≠ hb r := fun z => hne (by rw [hbu_o c]; exact z)
      rw [up2_n (fun z => c z.2)] at e
      obtain ⟨q, d', e1, e2, e3⟩ := h3 v r d e hne
      exact ⟨q, d', by rw [up2_n (fun z => c z.2)]; exact e1, by rw [up2_n (fun z => c z.2)]; exact e2, e3⟩
/-- the way by parents ends at the hub, soon -/
theorem cl_head {P : Nat → Nat → Option Nat} {r v q : Nat} (e : P v r = some q) : ∀ i, cl P r v (i + 1) = cl P r q i
  | 0 => by show (P v r).getD 0 = q; rw [e]; rfl
  | i + 1 => by
    show (P (cl P r v (i + 1)) r).getD 0 = (P (cl P r q i) r).getD 0
    rw [cl_head e i]
theorem fb_ct_lt {p q : Nat → Bool} {n k : Nat} (h : ∀ j, j < n → p j = true → q j = true) (hk : k < n) (hp : p k = false) (hq : q k = true) : fb_ct p n + 1 ≤ fb_ct q n := by
  have h1 := fb_ct_upd p true hk
  rw [hp] at h1
  have h2 : fb_ct (fun j => if j = k then true else p j) n ≤ fb_ct q n := fb_ct_sub fun j hj e => by
    by_cases c : j = k
    · rw [c]; exact hq
    · rw [if_neg c] at e; exact h j hj e
  have h3 : fb_ct (fun j => if j = k then true else p j) n + 0 = fb_ct p n + 1 := h1
  omega
def nearer (L : Nat → Nat → Option Nat) (r d : Nat) : Nat → Bool := fun w => match L w r with
  | none => false
  | some x => decide (x < d)
theorem IL_way {n : Nat} {hb : Nat → Nat} {L P : Nat → Nat → Option Nat} (hn : n ≤ 48) (h : IL n hb n L P) (r : Nat) : ∀ (d v : Nat), L v r = some d → ∃ t, t ≤ fb_ct (nearer L r d) n ∧ Chain L P r (hb r) v t := by
  intro d
  induction d using Nat.strongRecOn with
  | ind d ih =>
    intro v e
    by_cases c : v = hb r
    · exact ⟨0, Nat.zero_le _, c, fun i hi => absurd hi (Nat.not_lt_zero i)⟩
    · obtain ⟨q, d', e1, e2, e3⟩ := h.2.2 v r d e c
      obtain ⟨t, ht, hc1, hc2⟩ := ih d' e3 q e2
      have hq := (h.1 q r d' e2).1
      have hv := (h.1 v r d e).1
      have hl : fb_ct (nearer L r d') n + 1 ≤ fb_ct (nearer L r d) n := fb_ct_lt (k := q) (fun j _ hj => by
        unfold nearer at hj ⊢
        cases ej : L j r with
        | none => rw [ej] at hj; cases hj
        | some x =>
          rw [ej] at hj
          have := of_decide_eq_true hj
          exact decide_eq_true (by omega)) hq (by unfold nearer; rw [e2]; exact decide_eq_false (Nat.lt_irrefl _)) (by unfold nearer; rw [e2]; exact decide_eq_true e3)
      refine ⟨t + 1, by omega, by rw [cl_head e1]; exact hc1, fun i hi => ?_⟩
      cases i with
      | zero => exact ⟨c, by show v < 48; omega, by show (L v r).isSome = true; rw [e]; rfl, q, e1, by omega⟩
      | succ i => rw [cl_head e1]; exact hc2 i (by omega)
theorem IL_chain {n : Nat} {hb : Nat → Nat} {L P : Nat → Nat → Option Nat} (hn : n ≤ 48) (h : IL n hb n L P) {r v d : Nat} (e : L v r = some d) : ∃ t, t < 48 ∧ Chain L P r (hb r) v t := by
  obtain ⟨t, ht, hc⟩ := IL_way hn h r d v e
  have hv := (h.1 v r d e).1
  have h1 : fb_ct (nearer L r d) n + 1 ≤ fb_ct (fun _ => true) n := fb_ct_lt (k := v) (fun _ _ _ => rfl) hv (by unfold nearer; rw [e]; exact decide_eq_false (Nat.lt_irrefl _)) rfl
  have h2 := fb_ct_le (fun _ => true) n
  exact ⟨t, by omega, hc⟩
