/-! LABELS, as numbers: L v r is the distance of v's entry for the hub of rank r, P v r its parent -/
def up2 {α : Type} (L : Nat → Nat → α) (v r : Nat) (x : α) : Nat → Nat → α := fun v' r' => if v' = v ∧ r' = r then x else L v' r'
def LBd (L : Nat → Nat → Option Nat) (B : Nat) : Prop := ∀ v r d, L v r = some d → d < B
/-- the arrays hold the labels -/
def RepL (L : Nat → Nat → Option Nat) (P : Nat → Nat → Option Nat) (hs : Nat → Int64) (D Pp : Nat → Int32) : Prop :=
  (∀ v r, v < 48 → r < 48 → gb (hs v) r = (L v r).isSome) ∧ (∀ v r d, v < 48 → r < 48 → L v r = some d → D (v * 48 + r) = nI d ∧ Pp (v * 48 + r) = eN (P v r)) ∧ ∀ v k, v < 48 → 48 ≤ k → gb (hs v) k = false
theorem eN_no {o : Option Nat} (h : o.isSome = false) : eN o = -1 := by
  cases o with
  | none => rfl
  | some n => cases h
theorem RepL.d {L P : Nat → Nat → Option Nat} {hs : Nat → Int64} {D Pp : Nat → Int32} (h : RepL L P hs D Pp) {v r : Nat} (hv : v < 48) (hr : r < 48) (q : (L v r).isSome = true) : D (v * 48 + r) = eN (L v r) := by
  obtain ⟨d, e⟩ := Option.isSome_iff_exists.mp q
  rw [(h.2.1 v r d hv hr e).1, e]; rfl
theorem RepL.p {L P : Nat → Nat → Option Nat} {hs : Nat → Int64} {D Pp : Nat → Int32} (h : RepL L P hs D Pp) {v r : Nat} (hv : v < 48) (hr : r < 48) (q : (L v r).isSome = true) : Pp (v * 48 + r) = eN (P v r) := by
  obtain ⟨d, e⟩ := Option.isSome_iff_exists.mp q
  exact (h.2.1 v r d hv hr e).2
theorem RepL.com {L P : Nat → Nat → Option Nat} {hs : Nat → Int64} {D Pp : Nat → Int32} (h : RepL L P hs D Pp) {u v k : Nat} (hu : u < 48) (hv : v < 48) (hk : k < 48) : gb (hs u &&& hs v) k = ((L u k).isSome && (L v k).isSome) := by
  rw [gb_and, h.1 u k hu hk, h.1 v k hv hk]
def lsm (L : Nat → Nat → Option Nat) (u v r : Nat) : Nat := (L u r).getD 0 + (L v r).getD 0
theorem LBd.get {L : Nat → Nat → Option Nat} {B : Nat} (hB : LBd L B) (h0 : 0 < B) (v r : Nat) : (L v r).getD 0 < B := by
  cases e : L v r with
  | none => exact h0
  | some d => exact hB v r d e
theorem lsm_lt {L : Nat → Nat → Option Nat} (hB : LBd L (2 ^ 30)) (u v r : Nat) : lsm L u v r < 2 ^ 31 := by
  have h1 := hB.get (by decide) u r
  have h2 := hB.get (by decide) v r
  unfold lsm
  omega
theorem RepL.sum {L P : Nat → Nat → Option Nat} {hs : Nat → Int64} {D Pp : Nat → Int32} (h : RepL L P hs D Pp) {v r : Nat} (hv : v < 48) (hr : r < 48) (q : (L v r).isSome = true) : D (v * 48 + r) = nI ((L v r).getD 0) := by
  obtain ⟨d, e⟩ := Option.isSome_iff_exists.mp q
  rw [(h.2.1 v r d hv hr e).1, e]; rfl
/-- the least rank, of those below k, whose sum is least -/
def mr (L : Nat → Nat → Option Nat) (u v : Nat) : Nat → Option Nat
  | 0 => none
  | k + 1 => if ((L u k).isSome && (L v k).isSome) = true then (match mr L u v k with
    | none => some k
    | some r => if lsm L u v k < lsm L u v r then some k else some r) else mr L u v k
theorem mr_no {L : Nat → Nat → Option Nat} {u v k : Nat} (h : ((L u k).isSome && (L v k).isSome) = false) : mr L u v (k + 1) = mr L u v k := by
  show (if ((L u k).isSome && (L v k).isSome) = true then _ else _) = _
  rw [h]; rfl
theorem mr_first {L : Nat → Nat → Option Nat} {u v k : Nat} (h : ((L u k).isSome && (L v k).isSome) = true) (hm : mr L u v k = none) : mr L u v (k + 1) = some k := by
  show (if ((L u k).isSome && (L v k).isSome) = true then _ else _) = _
  rw [if_pos h, hm]
theorem mr_less {L : Nat → Nat → Option Nat} {u v k r : Nat} (h : ((L u k).isSome && (L v k).isSome) = true) (hm : mr L u v k = some r) (hl : lsm L u v k < lsm L u v r) : mr L u v (k + 1) = some k := by
  show (if ((L u k).isSome && (L v k).isSome) = true then _ else _) = _
  rw [if_pos h, hm]
  exact if_pos hl
theorem mr_keep {L : Nat → Nat → Option Nat} {u v k r : Nat} (h : ((L u k).isSome && (L v k).isSome) = true) (hm : mr L u v k = some r) (hl : lsm L u v r ≤ lsm L u v k) : mr L u v (k + 1) = some r := by
  show (if ((L u k).isSome && (L v k).isSome) = true then _ else _) = _
  rw [if_pos h, hm]
  exact if_neg (Nat.not_lt.mpr hl)
theorem mr_ok {L : Nat → Nat → Option Nat} {u v : Nat} : ∀ {k r : Nat}, mr L u v k = some r → r < k ∧ (L u r).isSome = true ∧ (L v r).isSome = true := by
  intro k
  induction k with
  | zero => intro r h; cases h
  | succ k ih =>
    intro r h
    cases hc : ((L u k).isSome && (L v k).isSome) with
    | false =>
      rw [mr_no hc] at h
      have := ih h
      exact ⟨by omega, this.2⟩
    | true =>
      have hc2 := Bool.and_eq_true_iff.mp hc
      cases hm : mr L u v k with
      | none =>
        rw [mr_first hc hm] at h
        cases h
        exact ⟨by omega, hc2⟩
      | some q =>
        have hq := ih hm
        rcases Nat.lt_or_ge (lsm L u v k) (lsm L u v q) with g | g
        · rw [mr_less hc hm g] at h
          cases h
          exact ⟨by omega, hc2⟩
        · rw [mr_keep hc hm g] at h
          cases h
          exact ⟨by omega, hq.2⟩
/-- the estimate, of ranks below k -/
def es (L : Nat → Nat → Option Nat) (u v k : Nat) : Option Nat := (mr L u v k).map (lsm L u v)
/-- some rank below k whose sum is at most d -/
def rch (L : Nat → Nat → Option Nat) (h v d : Nat) : Nat → Bool
  | 0 => false
  | k + 1 => rch L h v d k || (((L h k).isSome && (L v k).isSome) && decide (lsm L h v k ≤ d))
theorem rch_no {L : Nat → Nat → Option Nat} {h v d k : Nat} (h0 : rch L h v d k = false) (h1 : ((L h k).isSome && (L v k).isSome) = false) : rch L h v d (k + 1) = false := by
  show (rch L h v d k || _) = false
  rw [h0, h1]; rfl
theorem rch_gt {L : Nat → Nat → Option Nat} {h v d k : Nat} (h0 : rch L h v d k = false) (h1 : d < lsm L h v k) : rch L h v d (k + 1) = false := by
  show (rch L h v d k || _) = false
  rw [h0, decide_eq_false (Nat.not_le.mpr h1)]; simp
theorem rch_yes {L : Nat → Nat → Option Nat} {h v d k : Nat} (h1 : ((L h k).isSome && (L v k).isSome) = true) (h2 : lsm L h v k ≤ d) : rch L h v d (k + 1) = true := by
  show (rch L h v d k || _) = true
  rw [h1, decide_eq_true h2]; simp
theorem rch_mono {L : Nat → Nat → Option Nat} {h v d k : Nat} (h0 : rch L h v d k = true) : ∀ {j : Nat}, k ≤ j → rch L h v d j = true := by
  intro j
  induction j with
  | zero => intro hk; rw [Nat.le_zero.mp hk] at h0; exact h0
  | succ j ih =>
    intro hk
    rcases Nat.lt_or_ge k (j + 1) with g | g
    · show (rch L h v d j || _) = true
      rw [ih (by omega)]; rfl
    · rw [show j + 1 = k by omega]; exact h0
/-- how many entries a label has, and all -/
def lct (L : Nat → Nat → Option Nat) (v : Nat) : Nat := fb_ct (fun k => (L v k).isSome) 48
/-- the way by parents -/
def cl (P : Nat → Nat → Option Nat) (r v : Nat) : Nat → Nat
  | 0 => v
  | i + 1 => (P (cl P r v i) r).getD 0
def Chain (L P : Nat → Nat → Option Nat) (r h v t : Nat) : Prop := cl P r v t = h ∧ ∀ i, i < t → cl P r v i ≠ h ∧ cl P r v i < 48 ∧ (L (cl P r v i) r).isSome = true ∧ ∃ q, P (cl P r v i) r = some q ∧ q < 48
