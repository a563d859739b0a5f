/-! vertices more, when the labels are built -/
theorem IL.hbs {n K : Nat} {hb hc : Nat → Nat} {L P : Nat → Nat → Option Nat} (h : IL n hb K L P) (e : ∀ k, k < K → hb k = hc k) : IL n hc K L P := by
  refine ⟨h.1, fun r hr => by rw [← e r hr]; exact h.2.1 r hr, fun v r d ed hne => h.2.2 v r d ed (by rw [e r (h.1 v r d ed).2]; exact hne)⟩
def hbA (hb : Nat → Nat) (n k : Nat) : Nat := if k < n then hb k else k
theorem IL_ad {n : Nat} {hb : Nat → Nat} {L P : Nat → Nat → Option Nat} (h : IL n hb n L P) : ∀ c, IL (n + c) (hbA hb n) (n + c) (adL L n c) (adP P n c)
  | 0 => h.hbs fun k hk => (if_pos hk).symm
  | c + 1 => (IL_up (IL_ad h c)).hbs fun k hk => by
    unfold hbu
    by_cases e : k = n + c
    · rw [if_pos e]
      unfold hbA
      rw [if_neg (by omega), e]
    · rw [if_neg e]
theorem adH_in {f : Nat → Int32} {n : Nat} : ∀ (c k : Nat), k < n → adH f n c k = f k
  | 0, _, _ => rfl
  | c + 1, k, h => by
    show upd (adH f n c) (n + c) (nI (n + c)) k = f k
    rw [pk_un (by omega)]
    exact adH_in c k h
theorem adH_new {f : Nat → Int32} {n : Nat} : ∀ (c k : Nat), n ≤ k → k < n + c → adH f n c k = nI k
  | 0, k, h, h2 => by omega
  | c + 1, k, h, h2 => by
    show upd (adH f n c) (n + c) (nI (n + c)) k = nI k
    by_cases e : k = n + c
    · rw [e, pk_us]
    · rw [pk_un e]
      exact adH_new c k h (by omega)
theorem adH_hb {f : Nat → Int32} {hb : Nat → Nat} {n c : Nat} (h : ∀ k, k < n → f k = nI (hb k)) : ∀ k, k < n + c → adH f n c k = nI (hbA hb n k) := fun k hk => by
  unfold hbA
  by_cases e : k < n
  · rw [if_pos e, adH_in c k e]; exact h k e
  · rw [if_neg e, adH_new c k (by omega) hk]
theorem hbA_lt {hb : Nat → Nat} {n c : Nat} (h : ∀ k, k < n → hb k < n) : ∀ k, k < n + c → hbA hb n k < n + c := fun k hk => by
  unfold hbA
  by_cases e : k < n
  · rw [if_pos e]; have := h k e; omega
  · rw [if_neg e]; exact hk
theorem adH_eq {f g : Nat → Int32} {n c : Nat} (h : ∀ v, v < n → f v = g v) : ∀ v, v < n + c → adH f n c v = adH g n c v := fun v hv => by
  by_cases e : v < n
  · rw [adH_in c v e, adH_in c v e]; exact h v e
  · rw [adH_new c v (by omega) hv, adH_new c v (by omega) hv]
theorem adL_bd {L : Nat → Nat → Option Nat} {n B : Nat} (h : LBd L B) (hB : 0 < B) : ∀ c, LBd (adL L n c) B
  | 0 => h
  | c + 1 => (adL_bd h hB c).up hB
