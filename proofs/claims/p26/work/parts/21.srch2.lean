/-! SEARCHES: the whole of one, of a building, of an extension -/
theorem SI_run {ns : Nat → Int64} {n h r d0 B : Nat} (hn : n ≤ 48) (hB : d0 + 48 ≤ B) : ∀ (f t : Nat) (S : ST), SI n d0 B S → SI n d0 B (srun ns n h r f t S)
  | 0, _, _, q => q
  | f + 1, t, S, q => by
    show SI n d0 B (if _ then _ else _)
    by_cases e : t < qn S.2.2.1
    · rw [if_pos e]; exact SI_run hn hB f (t + 1) _ (SI_vst q hn e hB)
    · rw [if_neg e]; exact q
/-- labels and counts -/
abbrev BT : Type := (Nat → Nat → Option Nat) × (Nat → Nat → Option Nat) × Nat × Nat × Nat
def cutq (F : ST) : BT := (F.1, F.2.1, F.2.2.2.1, F.2.2.2.2.1, F.2.2.2.2.2)
def sr0 (ns : Nat → Int64) (n h r s d : Nat) (p : Option Nat) (S : BT) : ST := srch ns n h r s d p S.1 S.2.1 S.2.2.1 S.2.2.2.1 S.2.2.2.2
def sr1 (ns : Nat → Int64) (n h r s d : Nat) (p : Option Nat) (S : BT) : BT := cutq (sr0 ns n h r s d p S)
theorem sr1_lbd {ns : Nat → Int64} {n h r s d B : Nat} {p : Option Nat} {S : BT} (hs : s < n) (hn : n ≤ 48) (hL : LBd S.1 B) (hd : d + 48 ≤ B) : LBd (sr1 ns n h r s d p S).1 B :=
  (SI_run hn hd 48 0 _ (SI.start hs hn hL)).2.2
/-- a building: the searches of the ranks below k -/
def bl (ns : Nat → Int64) (n : Nat) (hb : Nat → Nat) : Nat → BT
  | 0 => (fun _ _ => none, fun _ _ => none, 0, 0, 0)
  | k + 1 => sr1 ns n (hb k) k (hb k) 0 none (bl ns n hb k)
theorem bl_lbd {ns : Nat → Int64} {n : Nat} {hb : Nat → Nat} (hn : n ≤ 48) (hh : ∀ k, k < n → hb k < n) : ∀ k, k ≤ n → LBd (bl ns n hb k).1 48
  | 0, _ => fun v r d e => by cases e
  | k + 1, hk => sr1_lbd (hh k hk) hn (bl_lbd hn hh k (by omega)) (by omega)
/-- an extension by the edge a b: the hubs of the ranks below k -/
def ex1 (ns : Nat → Int64) (n : Nat) (hb : Nat → Nat) (a b k : Nat) (S : BT) : BT := match S.1 a k with
  | some x => sr1 ns n (hb k) k b (x + 1) (some a) S
  | none => S
def ex2 (ns : Nat → Int64) (n : Nat) (hb : Nat → Nat) (a b k : Nat) (o : Option Nat) (S : BT) : BT := match o with
  | some y => sr1 ns n (hb k) k a (y + 1) (some b) S
  | none => S
def ex (ns : Nat → Int64) (n : Nat) (hb : Nat → Nat) (a b : Nat) (L P : Nat → Nat → Option Nat) : Nat → BT
  | 0 => (L, P, 0, 0, 0)
  | k + 1 => ex2 ns n hb a b k ((ex ns n hb a b L P k).1 b k) (ex1 ns n hb a b k (ex ns n hb a b L P k))
theorem ex1_lbd {ns : Nat → Int64} {n a b k B : Nat} {hb : Nat → Nat} {S : BT} (hb0 : b < n) (hn : n ≤ 48) (h : LBd S.1 B) : LBd (ex1 ns n hb a b k S).1 (B + 49) := by
  unfold ex1
  cases e : S.1 a k with
  | none => exact h.mono (by omega)
  | some x => exact sr1_lbd hb0 hn (h.mono (by omega)) (by have := h a k x e; omega)
theorem ex_lbd {ns : Nat → Int64} {n a b B : Nat} {hb : Nat → Nat} {L P : Nat → Nat → Option Nat} (ha : a < n) (hb0 : b < n) (hn : n ≤ 48) (h : LBd L B) : ∀ k, LBd (ex ns n hb a b L P k).1 (B + 98 * k)
  | 0 => h
  | k + 1 => by
    have ih := ex_lbd (ns := ns) (hb := hb) (P := P) ha hb0 hn h k
    have h1 := ex1_lbd (ns := ns) (a := a) (k := k) (hb := hb) hb0 hn ih
    show LBd (ex2 ns n hb a b k ((ex ns n hb a b L P k).1 b k) (ex1 ns n hb a b k (ex ns n hb a b L P k))).1 _
    unfold ex2
    cases e : (ex ns n hb a b L P k).1 b k with
    | none => exact h1.mono (by omega)
    | some y => exact sr1_lbd ha hn (h1.mono (by omega)) (by have := ih b k y e; omega)
/-- the vertex of a rank -/
noncomputable def hbf (dg : Nat → Nat) (n k : Nat) : Nat := if h : ∃ v, v < n ∧ ahd dg n v = k then Classical.choose h else 0
theorem hbf_ok {dg : Nat → Nat} {n k : Nat} (hk : k < n) : hbf dg n k < n ∧ ahd dg n (hbf dg n k) = k := by
  have h : ∃ v, v < n ∧ ahd dg n v = k := by
    obtain ⟨i, h1, h2⟩ := fb_onto (n := n) (f := ahd dg n) (fun i hi => ahd_n hi) (fun i j hij hj e => by
      have := ahd_inj (Nat.lt_trans hij hj) hj e
      omega) hk
    exact ⟨i, h1, h2⟩
  unfold hbf
  rw [dif_pos h]
  exact Classical.choose_spec h
theorem hbf_ahd {dg : Nat → Nat} {n v : Nat} (hv : v < n) : hbf dg n (ahd dg n v) = v :=
  ahd_inj (hbf_ok (ahd_n hv)).1 hv (hbf_ok (ahd_n hv)).2
theorem RI.hub {dg : Nat → Nat} {n : Nat} {rk vb : Nat → Int32} (h : RI dg n 0 0 rk vb) {k : Nat} (hk : k < n) : vb k = nI (hbf dg n k) := by
  have h1 := hbf_ok (dg := dg) hk
  have h2 := (h.all _ h1.1).2
  rw [h1.2] at h2
  exact h2
