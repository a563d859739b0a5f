/-! the class counts to 48, the reference to n: the same -/
theorem mr_out {L : Nat → Nat → Option Nat} {u v n : Nat} (h : ∀ r, n ≤ r → L u r = none) : ∀ k, mr L u v (n + k) = mr L u v n
  | 0 => rfl
  | k + 1 => by
    rw [show n + (k + 1) = (n + k) + 1 from rfl, mr_no (by rw [h (n + k) (Nat.le_add_right n k)]; rfl)]
    exact mr_out h k
theorem mr_48 {L : Nat → Nat → Option Nat} {u v n : Nat} (hn : n ≤ 48) (h : ∀ r, n ≤ r → L u r = none) : mr L u v 48 = mr L u v n := by
  obtain ⟨k, e⟩ := Nat.le.dest hn
  rw [← e]
  exact mr_out h k
theorem es_48 {L : Nat → Nat → Option Nat} {u v n : Nat} (hn : n ≤ 48) (h : ∀ r, n ≤ r → L u r = none) : es L u v 48 = es L u v n := by
  unfold es
  rw [mr_48 hn h]
theorem wi_48 {L : Nat → Nat → Option Nat} {u n d : Nat} (hn : n ≤ 48) (h : ∀ r, n ≤ r → L u r = none) : ∀ k, wi L u 48 d k = wi L u n d k
  | 0 => rfl
  | k + 1 => by
    show (match es L u k 48 with | some q => _ | none => _) = (match es L u k n with | some q => _ | none => _)
    rw [es_48 hn h, wi_48 hn h k]
theorem ecc_48 {L : Nat → Nat → Option Nat} {u n : Nat} (hn : n ≤ 48) (h : ∀ r, n ≤ r → L u r = none) : ∀ k, ecc L u 48 k = ecc L u n k
  | 0 => rfl
  | k + 1 => by
    show (match es L u k 48 with | some q => _ | none => _) = (match es L u k n with | some q => _ | none => _)
    rw [es_48 hn h, ecc_48 hn h k]
theorem fb_ct_o {p : Nat → Bool} {n : Nat} (h : ∀ k, n ≤ k → p k = false) : ∀ k, fb_ct p (n + k) = fb_ct p n
  | 0 => rfl
  | k + 1 => by
    rw [show n + (k + 1) = (n + k) + 1 from rfl, fb_ct_succ, h (n + k) (Nat.le_add_right n k), fb_ct_o h k]
    rfl
theorem lct_48 {L : Nat → Nat → Option Nat} {v n : Nat} (hn : n ≤ 48) (h : ∀ r, n ≤ r → L v r = none) : lct L v = fb_ct (fun k => (L v k).isSome) n := by
  obtain ⟨k, e⟩ := Nat.le.dest hn
  unfold lct
  rw [← e]
  exact fb_ct_o (fun j hj => by rw [h j hj]; rfl) k
theorem fb_sm_o {f : Nat → Nat} {n : Nat} (h : ∀ k, n ≤ k → f k = 0) : ∀ k, fb_sm f (n + k) = fb_sm f n
  | 0 => rfl
  | k + 1 => by
    rw [show n + (k + 1) = (n + k) + 1 from rfl, fb_sm_succ, h (n + k) (Nat.le_add_right n k), fb_sm_o h k]
    rfl
theorem all_48 {L : Nat → Nat → Option Nat} {n : Nat} (hn : n ≤ 48) (h : ∀ v r, n ≤ v ∨ n ≤ r → L v r = none) : fb_sm (lct L) 48 = fb_sm (fun v => fb_ct (fun k => (L v k).isSome) n) n := by
  obtain ⟨k, e⟩ := Nat.le.dest hn
  rw [← e, fb_sm_o (fun v hv => ?_) k]
  · exact fb_sm_cong fun v _ => lct_48 hn fun r hr => h v r (Or.inr hr)
  · rw [lct_48 hn fun r hr => h v r (Or.inr hr)]
    exact fb_ct_zero.mpr fun k _ => by rw [h v k (Or.inl hv)]; rfl
theorem fnd_ex {p : Nat → Bool} {y : Int32} {i : Nat} (hp : p i = true) (e : nI (fb_ct p i) = y) : ∀ {n : Nat}, i < n → fnd p y n ≠ none
  | 0, h => absurd h (Nat.not_lt_zero i)
  | n + 1, h => by
    show (if p n = true ∧ nI (fb_ct p n) = y then some n else fnd p y n) ≠ none
    split
    · exact fun z => nomatch z
    · rename_i c
      rcases Nat.lt_or_ge i n with g | g
      · exact fnd_ex hp e g
      · have : i = n := by omega
        subst this
        exact absurd ⟨hp, e⟩ c
theorem fnd_none {p : Nat → Bool} {y : Int32} {n : Nat} (hn : n ≤ 48) (h : fnd p y n = none) : y < 0 ∨ nI (fb_ct p n) ≤ y := by
  have hc := fb_ct_le p n
  by_cases h1 : y < 0
  · exact Or.inl h1
  · by_cases h2 : nI (fb_ct p n) ≤ y
    · exact Or.inr h2
    · obtain ⟨j, hj, rfl⟩ := inV_of (n := fb_ct p n) (by omega) (inV_in (by omega) h1 h2)
      obtain ⟨i, hi, hp, e⟩ := fb_ct_kth hj
      exact absurd h (fnd_ex hp (by rw [e]) hi)
theorem fnd_some {p : Nat → Bool} {y : Int32} {n q : Nat} (h : fnd p y n = some q) : q < n ∧ p q = true ∧ y = nI (fb_ct p q) ∧ fb_ct p q < fb_ct p n := by
  obtain ⟨h1, h2, h3⟩ := fnd_lt h
  refine ⟨h1, h2, h3.symm, ?_⟩
  have a := fb_ct_succ p q
  rw [h2] at a
  have b := fb_ct_mono p (show q + 1 ≤ n from h1)
  have a2 : fb_ct p (q + 1) = fb_ct p q + 1 := a
  omega
theorem IL.out {n : Nat} {hb : Nat → Nat} {L P : Nat → Nat → Option Nat} (h : IL n hb n L P) : ∀ v r, n ≤ v ∨ n ≤ r → L v r = none := fun v r hv => by
  cases e : L v r with
  | none => rfl
  | some d =>
    have := h.1 v r d e
    omega
/-- degrees -/
theorem deg_48 {x : Int64} {n : Nat} (hn : n ≤ 48) (h : ∀ k, n ≤ k → k < 64 → gb x k = false) : fb_ct (gb x) 64 = fb_ct (gb x) n := by
  obtain ⟨k, e⟩ := Nat.le.dest (show n ≤ 64 by omega)
  have : ∀ j, j ≤ k → fb_ct (gb x) (n + j) = fb_ct (gb x) n := fun j => by
    induction j with
    | zero => exact fun _ => rfl
    | succ j ih =>
      intro hj
      rw [show n + (j + 1) = (n + j) + 1 from rfl, fb_ct_succ, h (n + j) (Nat.le_add_right n j) (by omega), ih (by omega)]
      rfl
  rw [← e]
  exact this k (Nat.le_refl k)
