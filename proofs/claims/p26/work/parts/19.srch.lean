/-! SEARCHES, as numbers: the queue (vertices, distances, parents, length, the set of what has been in it), the labels, the three counts -/
abbrev SQ : Type := (Nat → Nat) × (Nat → Nat) × (Nat → Option Nat) × Nat × Int64
abbrev ST : Type := (Nat → Nat → Option Nat) × (Nat → Nat → Option Nat) × SQ × Nat × Nat × Nat
abbrev qn (Q : SQ) : Nat := Q.2.2.2.1
abbrev qb9 (Q : SQ) : Int64 := Q.2.2.2.2
def qpush (T : SQ) (v d : Nat) (p : Option Nat) : SQ := (va_up T.1 (qn T) v, va_up T.2.1 (qn T) d, va_up T.2.2.1 (qn T) p, qn T + 1, qb9 T ||| ((1 : Int64) <<< ((nI v).toInt64 &&& 63)))
def enq (ns : Nat → Int64) (v d : Nat) (T : SQ) : Nat → SQ
  | 0 => T
  | k + 1 => if (gb (ns v) k && !gb (qb9 (enq ns v d T k)) k) = true then qpush (enq ns v d T k) k (d + 1) (some v) else enq ns v d T k
def vst (ns : Nat → Int64) (n h r v d : Nat) (p : Option Nat) (S : ST) : ST :=
  if rch S.1 h v d (r + 1) = true then (S.1, S.2.1, S.2.2.1, S.2.2.2.1 + 1, S.2.2.2.2.1 + 1, S.2.2.2.2.2)
  else (up2 S.1 v r (some d), up2 S.2.1 v r p, enq ns v d S.2.2.1 n, S.2.2.2.1 + 1, S.2.2.2.2.1, S.2.2.2.2.2 + 1)
def srun (ns : Nat → Int64) (n h r : Nat) : Nat → Nat → ST → ST
  | 0, _, S => S
  | f + 1, t, S => if t < qn S.2.2.1 then srun ns n h r f (t + 1) (vst ns n h r (S.2.2.1.1 t) (S.2.2.1.2.1 t) (S.2.2.1.2.2.1 t) S) else S
def q00 : SQ := (fun _ => 0, fun _ => 0, fun _ => none, 0, 0)
/-- a whole search, from the labels and counts before it -/
def srch (ns : Nat → Int64) (n h r s d : Nat) (p : Option Nat) (L P : Nat → Nat → Option Nat) (vi cu pu : Nat) : ST := srun ns n h r 48 0 (L, P, qpush q00 s d p, vi, cu, pu)
theorem gb_put (x : Int64) {k : Nat} (hk : k < 64) {j : Nat} (hj : j < 64) (w : Int64) (hw : w = x ||| ((1 : Int64) <<< ((nI k).toInt64 &&& 63))) : gb w j = if j = k then true else gb x j := by
  rw [hw, gb_set x hk hj]
  by_cases e : j = k
  · rw [if_pos e, decide_eq_true e]; simp
  · rw [if_neg e, decide_eq_false e]; simp
/-- the queue holds as many as its set has, all of them vertices -/
def QI (n : Nat) (T : SQ) : Prop := qn T = fb_ct (gb (qb9 T)) n ∧ ∀ i, i < qn T → T.1 i < n
theorem QI.le {n : Nat} {T : SQ} (h : QI n T) : qn T ≤ n := by rw [h.1]; exact fb_ct_le _ _
theorem QI.lt {n k : Nat} {T : SQ} (h : QI n T) (hk : k < n) (hb : gb (qb9 T) k = false) : qn T < n := by
  rcases Nat.lt_or_ge (qn T) n with g | g
  · exact g
  · have e : fb_ct (gb (qb9 T)) n = n := by rw [← h.1]; exact Nat.le_antisymm h.le g
    rw [fb_ct_all.mp e k hk] at hb
    cases hb
theorem QI.push {n k d : Nat} {p : Option Nat} {T : SQ} (h : QI n T) (hn : n ≤ 48) (hk : k < n) (hb : gb (qb9 T) k = false) : QI n (qpush T k d p) := by
  refine ⟨?_, fun i hi => ?_⟩
  · have e := fb_ct_upd (gb (qb9 T)) true hk
    rw [hb] at e
    have e2 : fb_ct (gb (qb9 (qpush T k d p))) n = fb_ct (fun w => if w = k then true else gb (qb9 T) w) n := fb_ct_cong fun w hw => gb_put (qb9 T) (k := k) (by omega) (by omega) _ rfl
    show qn T + 1 = fb_ct (gb (qb9 (qpush T k d p))) n
    rw [e2, h.1]
    simpa using e.symm
  · have hi : i < qn T + 1 := hi
    show va_up T.1 (qn T) k i < n
    by_cases e : i = qn T
    · rw [show va_up T.1 (qn T) k i = k from if_pos e]; exact hk
    · rw [show va_up T.1 (qn T) k i = T.1 i from if_neg e]; exact h.2 i (by omega)
theorem enq_been {ns : Nat → Int64} {v d : Nat} {T : SQ} : ∀ (k : Nat), k ≤ 48 → ∀ j, k ≤ j → j < 64 → gb (qb9 (enq ns v d T k)) j = gb (qb9 T) j
  | 0, _, _, _, _ => rfl
  | k + 1, hk, j, h1, h2 => by
    have ih := enq_been (ns := ns) (v := v) (d := d) (T := T) k (by omega) j (by omega) h2
    show gb (qb9 (if _ then _ else _)) j = _
    split
    · rw [← ih, gb_put (qb9 (enq ns v d T k)) (k := k) (by omega) h2 (qb9 (qpush (enq ns v d T k) k (d + 1) (some v))) rfl, if_neg (by omega)]
    · exact ih
theorem enq_yes {ns : Nat → Int64} {v d k : Nat} {T : SQ} (hk : k < 48) (h : (gb (ns v) k && !gb (qb9 T) k) = true) : enq ns v d T (k + 1) = qpush (enq ns v d T k) k (d + 1) (some v) := by
  show (if _ then _ else _) = _
  rw [enq_been k (by omega) k (Nat.le_refl _) (by omega)]
  exact if_pos h
theorem enq_no {ns : Nat → Int64} {v d k : Nat} {T : SQ} (hk : k < 48) (h : (gb (ns v) k && !gb (qb9 T) k) = false) : enq ns v d T (k + 1) = enq ns v d T k := by
  show (if _ then _ else _) = _
  rw [enq_been k (by omega) k (Nat.le_refl _) (by omega), h]
  rfl
theorem enq_free {ns : Nat → Int64} {v d k : Nat} {T : SQ} (hk : k < 48) (h : (gb (ns v) k && !gb (qb9 T) k) = true) : gb (qb9 (enq ns v d T k)) k = false := by
  rw [enq_been k (by omega) k (Nat.le_refl _) (by omega)]
  simpa using (Bool.and_eq_true_iff.mp h).2
theorem QI_enq {ns : Nat → Int64} {n v d : Nat} {T : SQ} (h : QI n T) (hn : n ≤ 48) : ∀ (k : Nat), k ≤ n → QI n (enq ns v d T k)
  | 0, _ => h
  | k + 1, hk => by
    have ih := QI_enq (ns := ns) (v := v) (d := d) h hn k (by omega)
    cases e : (gb (ns v) k && !gb (qb9 T) k) with
    | true => rw [enq_yes (by omega) e]; exact ih.push hn (by omega) (enq_free (by omega) e)
    | false => rw [enq_no (by omega) e]; exact ih
/-- what the queue had stays; what comes has the distance d + 1 -/
theorem enq_old {ns : Nat → Int64} {v d : Nat} {T : SQ} : ∀ (k : Nat), qn T ≤ qn (enq ns v d T k) ∧ ∀ i, i < qn (enq ns v d T k) → (i < qn T → (enq ns v d T k).1 i = T.1 i ∧ (enq ns v d T k).2.1 i = T.2.1 i ∧ (enq ns v d T k).2.2.1 i = T.2.2.1 i) ∧ (qn T ≤ i → (enq ns v d T k).2.1 i = d + 1 ∧ (enq ns v d T k).2.2.1 i = some v)
  | 0 => ⟨Nat.le_refl _, fun i hi => ⟨fun _ => ⟨rfl, rfl, rfl⟩, fun h => absurd hi (Nat.not_lt.mpr h)⟩⟩
  | k + 1 => by
    obtain ⟨i1, i2⟩ := enq_old (ns := ns) (v := v) (d := d) (T := T) k
    by_cases e : (gb (ns v) k && !gb (qb9 (enq ns v d T k)) k) = true
    · rw [show enq ns v d T (k + 1) = qpush (enq ns v d T k) k (d + 1) (some v) from if_pos e]
      refine ⟨Nat.le_succ_of_le i1, fun i hi => ?_⟩
      have hi : i < qn (enq ns v d T k) + 1 := hi
      by_cases e2 : i = qn (enq ns v d T k)
      · exact ⟨fun h => absurd h (by omega), fun _ => ⟨if_pos e2, if_pos e2⟩⟩
      · have q := i2 i (by omega)
        exact ⟨fun h => ⟨(if_neg e2 : va_up _ _ _ i = _).trans (q.1 h).1, (if_neg e2 : va_up _ _ _ i = _).trans (q.1 h).2.1, (if_neg e2 : va_up _ _ _ i = _).trans (q.1 h).2.2⟩, fun h => ⟨(if_neg e2 : va_up _ _ _ i = _).trans (q.2 h).1, (if_neg e2 : va_up _ _ _ i = _).trans (q.2 h).2⟩⟩
    · rw [show enq ns v d T (k + 1) = enq ns v d T k from if_neg e]
      exact ⟨i1, i2⟩
/-- the arrays hold the queue -/
def QR (a b c : Nat → Int32) (T : SQ) : Prop := ∀ i, i < qn T → a i = nI (T.1 i) ∧ b i = nI (T.2.1 i) ∧ c i = eN (T.2.2.1 i)
theorem QR.push {a b c : Nat → Int32} {T : SQ} (h : QR a b c T) (v d : Nat) (p : Option Nat) : QR (upd a (qn T) (nI v)) (upd b (qn T) (nI d)) (upd c (qn T) (eN p)) (qpush T v d p) := by
  intro i hi
  have hi : i < qn T + 1 := hi
  by_cases e : i = qn T
  · refine ⟨?_, ?_, ?_⟩
    · rw [show upd a (qn T) (nI v) i = nI v from if_pos e]; exact congrArg nI (if_pos e : va_up T.1 (qn T) v i = v).symm
    · rw [show upd b (qn T) (nI d) i = nI d from if_pos e]; exact congrArg nI (if_pos e : va_up T.2.1 (qn T) d i = d).symm
    · rw [show upd c (qn T) (eN p) i = eN p from if_pos e]; exact congrArg eN (if_pos e : va_up T.2.2.1 (qn T) p i = p).symm
  · have q := h i (by omega)
    refine ⟨?_, ?_, ?_⟩
    · rw [show upd a (qn T) (nI v) i = a i from if_neg e, q.1]; exact congrArg nI (if_neg e : va_up T.1 (qn T) v i = T.1 i).symm
    · rw [show upd b (qn T) (nI d) i = b i from if_neg e, q.2.1]; exact congrArg nI (if_neg e : va_up T.2.1 (qn T) d i = T.2.1 i).symm
    · rw [show upd c (qn T) (eN p) i = c i from if_neg e, q.2.2]; exact congrArg eN (if_neg e : va_up T.2.2.1 (qn T) p i = T.2.2.1 i).symm
/-- what a search keeps: the queue's count, its distances, the labels' bound -/
def SI (n d0 B : Nat) (S : ST) : Prop := QI n S.2.2.1 ∧ (∀ i, i < qn S.2.2.1 → S.2.2.1.2.1 i ≤ d0 + i) ∧ LBd S.1 B
theorem LBd.up {L : Nat → Nat → Option Nat} {B v r d : Nat} (h : LBd L B) (hd : d < B) : LBd (up2 L v r (some d)) B := by
  intro v' r' d' e
  by_cases e1 : v' = v ∧ r' = r
  · have : d = d' := by simpa [up2, e1] using e
    omega
  · exact h v' r' d' (by simpa [up2, e1] using e)
theorem LBd.mono {L : Nat → Nat → Option Nat} {B C : Nat} (h : LBd L B) (hd : B ≤ C) : LBd L C := fun v r d e => Nat.lt_of_lt_of_le (h v r d e) hd
theorem SI_vst {ns : Nat → Int64} {n h r d0 B t : Nat} {S : ST} (q : SI n d0 B S) (hn : n ≤ 48) (ht : t < qn S.2.2.1) (hB : d0 + 48 ≤ B) : SI n d0 B (vst ns n h r (S.2.2.1.1 t) (S.2.2.1.2.1 t) (S.2.2.1.2.2.1 t) S) := by
  obtain ⟨q1, q2, q3⟩ := q
  have hd := q2 t ht
  have hl := q1.le
  by_cases e : rch S.1 h (S.2.2.1.1 t) (S.2.2.1.2.1 t) (r + 1) = true
  · rw [show vst ns n h r (S.2.2.1.1 t) (S.2.2.1.2.1 t) (S.2.2.1.2.2.1 t) S = _ from if_pos e]
    exact ⟨q1, q2, q3⟩
  · rw [show vst ns n h r (S.2.2.1.1 t) (S.2.2.1.2.1 t) (S.2.2.1.2.2.1 t) S = _ from if_neg e]
    refine ⟨QI_enq q1 hn n (Nat.le_refl _), fun i hi => ?_, q3.up (by omega)⟩
    have o := (enq_old (ns := ns) (v := S.2.2.1.1 t) (d := S.2.2.1.2.1 t) (T := S.2.2.1) n).2 i hi
    rcases Nat.lt_or_ge i (qn S.2.2.1) with g | g
    · rw [show (enq ns (S.2.2.1.1 t) (S.2.2.1.2.1 t) S.2.2.1 n).2.1 i = _ from (o.1 g).2.1]; exact q2 i g
    · rw [show (enq ns (S.2.2.1.1 t) (S.2.2.1.2.1 t) S.2.2.1 n).2.1 i = _ from (o.2 g).1]; omega
theorem SI.start {L P : Nat → Nat → Option Nat} {n s d B vi cu pu : Nat} {p : Option Nat} (hs : s < n) (hn : n ≤ 48) (hB : LBd L B) : SI n d B (L, P, qpush q00 s d p, vi, cu, pu) := by
  have z : QI n q00 := ⟨(fb_ct_zero.mpr fun k _ => gb_0 k).symm, fun i hi => absurd hi (Nat.not_lt_zero i)⟩
  refine ⟨z.push hn hs (gb_0 s), fun i hi => ?_, hB⟩
  have hi : i < 0 + 1 := hi
  have e : i = 0 := by omega
  subst e
  show va_up q00.2.1 (qn q00) d 0 ≤ d + 0
  exact Nat.le_of_eq (if_pos rfl)
theorem srun_go {ns : Nat → Int64} {n h r k : Nat} {S F : ST} (hk : k < 48) (hq : k < qn S.2.2.1) (e : srun ns n h r (48 - k) k S = F) : srun ns n h r (48 - (k + 1)) (k + 1) (vst ns n h r (S.2.2.1.1 k) (S.2.2.1.2.1 k) (S.2.2.1.2.2.1 k) S) = F := by
  rw [show 48 - k = (48 - (k + 1)) + 1 by omega] at e
  rw [← e]
  exact (if_pos hq).symm
theorem srun_end {ns : Nat → Int64} {n h r k : Nat} {S F : ST} (hq : qn S.2.2.1 ≤ k) (e : srun ns n h r (48 - k) k S = F) : F = S := by
  cases f : 48 - k with
  | zero => rw [f] at e; exact e.symm
  | succ f2 =>
    rw [f] at e
    rw [← e]
    exact if_neg (Nat.not_lt.mpr hq)
