/-! for the cases -/
theorem LB30 {turn : Nat} (h : turn < 512) : 48 + 4704 * turn ≤ 2 ^ 30 := by
  have e : (2 : Nat) ^ 30 = 1073741824 := by decide
  omega
theorem LB30b {turn : Nat} (h : turn < 512) : 48 + 4704 * turn + 4704 ≤ 2 ^ 30 := by
  have e : (2 : Nat) ^ 30 = 1073741824 := by decide
  omega
theorem lct31 (L : Nat → Nat → Option Nat) (u : Nat) : lct L u < 2 ^ 31 := by
  have h := fb_ct_le (fun k => (L u k).isSome) 48
  have e : lct L u = fb_ct (fun k => (L u k).isSome) 48 := rfl
  have e2 : (2 : Nat) ^ 31 = 2147483648 := by decide
  omega
theorem lct_n {L : Nat → Nat → Option Nat} {n : Nat} (hn : n ≤ 48) (ho : ∀ v r, n ≤ v ∨ n ≤ r → L v r = none) (u : Nat) : nI (lct L u) = nI (fb_ct (fun k => (L u k).isSome) n) := congrArg nI (lct_48 hn fun r hr => ho u r (Or.inr hr))
theorem fnd_get {L : Nat → Nat → Option Nat} {n u q : Nat} {y : Int32} (hn : n ≤ 48) (ho : ∀ v r, n ≤ v ∨ n ≤ r → L v r = none) (h : fnd (fun k => (L u k).isSome) y n = some q) : ∃ e0, y = nI e0 ∧ q < n ∧ (L u q).isSome = true ∧ e0 < lct L u ∧ e0 < 2 ^ 31 ∧ fb_ct (fun k => (L u k).isSome) q = e0 := by
  obtain ⟨h1, h2, h3, h4⟩ := fnd_some h
  have h5 := lct_48 (v := u) hn fun r hr => ho u r (Or.inr hr)
  have h6 := lct31 L u
  exact ⟨_, h3, h1, h2, by omega, by omega, rfl⟩
theorem fnd_bad {L : Nat → Nat → Option Nat} {n u : Nat} {y : Int32} (hn : n ≤ 48) (ho : ∀ v r, n ≤ v ∨ n ≤ r → L v r = none) (h : fnd (fun k => (L u k).isSome) y n = none) : y < 0 ∨ nI (lct L u) ≤ y := by
  rw [lct_n hn ho u]
  exact fnd_none hn h
theorem LB9_add {turn n c : Nat} {rk vb hubs rnks D1 Pp1 dis1 par1 : Nat → Int32} {hs1 : Nat → Int64} {L P : Nat → Nat → Option Nat} {hb : Nat → Nat} (hIL : IL n hb n L P) (hLB : LBd L (48 + 4704 * turn)) (hhb : ∀ k, k < n → hb k < n ∧ vb k = nI (hb k) ∧ hubs k = nI (hb k)) (hrk : ∀ v, v < n → rk v = rnks v)
    (hR : RepL (adL L n c) (adP P n c) hs1 D1 Pp1) (hRM : RepM 0 (adL L n c) (adP P n c) dis1 par1) : LB9 (turn + 1) (n + c) (adH rk n c) (adH vb n c) (nI (n + c)) hs1 D1 Pp1 dis1 par1 (adH hubs n c) (adH rnks n c) :=
  ⟨adL L n c, adP P n c, hbA hb n, IL_ad hIL c, hR, hRM, adL_bd (hLB.mono (by omega)) (by omega) c, fun k hk => ⟨hbA_lt (fun k hk => (hhb k hk).1) k hk, adH_hb (fun k hk => (hhb k hk).2.1) k hk, adH_hb (fun k hk => (hhb k hk).2.2) k hk⟩, rfl, adH_eq hrk⟩
theorem LB9_add1 {turn n : Nat} {rk vb hubs rnks D1 Pp1 dis1 par1 : Nat → Int32} {hs1 : Nat → Int64} {L P : Nat → Nat → Option Nat} {hb : Nat → Nat} (hIL : IL n hb n L P) (hLB : LBd L (48 + 4704 * turn)) (hhb : ∀ k, k < n → hb k < n ∧ vb k = nI (hb k) ∧ hubs k = nI (hb k)) (hrk : ∀ v, v < n → rk v = rnks v)
    (hR : RepL (up2 L n n (some 0)) (up2 P n n none) hs1 D1 Pp1) (hRM : RepM 0 (up2 L n n (some 0)) (up2 P n n none) dis1 par1) : LB9 (turn + 1) (n + 1) (upd rk n (nI n)) (upd vb n (nI n)) (nI (n + 1)) hs1 D1 Pp1 dis1 par1 (upd hubs n (nI n)) (upd rnks n (nI n)) :=
  LB9_add (c := 1) hIL hLB hhb hrk hR hRM
theorem LB9_ex {turn n a b : Nat} {ns : Nat → Int64} {rk vb hubs rnks D1 Pp1 dis1 par1 : Nat → Int32} {rc : Int32} {hs1 : Nat → Int64} {L P : Nat → Nat → Option Nat} {hb : Nat → Nat} {F : BT} (hn : n ≤ 48) (ha : a < n) (hb0 : b < n) (hIL : IL n hb n L P) (hLB : LBd L (48 + 4704 * turn)) (hhb : ∀ k, k < n → hb k < n ∧ vb k = nI (hb k) ∧ hubs k = nI (hb k)) (hrc : rc = nI n) (hrk : ∀ v, v < n → rk v = rnks v)
    (hF : ex ns n hb a b L P n = F) (hR : RepL F.1 F.2.1 hs1 D1 Pp1) (hRM : RepM 0 F.1 F.2.1 dis1 par1) : LB9 (turn + 1) n rk vb rc hs1 D1 Pp1 dis1 par1 hubs rnks :=
  ⟨F.1, F.2.1, hb, by rw [← hF]; exact IL_ex hn ha hb0 hIL n (Nat.le_refl n), hR, hRM, by rw [← hF]; exact (ex_lbd ha hb0 hn hLB n).mono (by omega), hhb, hrc, hrk⟩
theorem IL_hbf {n : Nat} {ns : Nat → Int64} {dg : Nat → Nat} {F : BT} (hn : n ≤ 48) (hF : bl ns n (hbf dg n) n = F) : IL n (hbf dg n) n F.1 F.2.1 ∧ LBd F.1 48 := by
  rw [← hF]
  exact ⟨IL_bl hn (fun k hk => (hbf_ok hk).1) hbf_inj n (Nat.le_refl n), bl_lbd hn (fun k hk => (hbf_ok hk).1) n (Nat.le_refl n)⟩
theorem LB9_build {turn n : Nat} {ns : Nat → Int64} {dg : Nat → Nat} {rk1 vb1 hubs1 rnks1 D1 Pp1 dis1 par1 : Nat → Int32} {hs1 : Nat → Int64} {F : BT} (hn : n ≤ 48) (hF : bl ns n (hbf dg n) n = F) (hRI : RI dg n 0 0 rk1 vb1) (hR : RepL F.1 F.2.1 hs1 D1 Pp1) (hRM : RepM 0 F.1 F.2.1 dis1 par1) (hRK : RKM 0 dg n n hubs1 rnks1) : LB9 (turn + 1) n rk1 vb1 (nI n) hs1 D1 Pp1 dis1 par1 hubs1 rnks1 :=
  ⟨F.1, F.2.1, hbf dg n, (IL_hbf hn hF).1, hR, hRM, (IL_hbf hn hF).2.mono (by omega), fun k hk => ⟨(hbf_ok hk).1, hRI.hub hk, by
    have h := hRK.hub hk
    rwa [show 48 * 0 + k = k by omega] at h⟩, rfl, fun v hv => by
    have h := (hRK v hv).1
    rw [show 48 * 0 + v = v by omega] at h
    rw [h]
    exact (hRI.all v hv).1⟩
theorem LB9.fr {turn n : Nat} {rk vb : Nat → Int32} {rc : Int32} {hs : Nat → Int64} {D Pp dis par hubs rnks dis1 par1 hubs1 rnks1 : Nat → Int32} (hn : n ≤ 48) (h : LB9 turn n rk vb rc hs D Pp dis par hubs rnks) (a : Fr (2304 * 1) 2304 dis dis1) (b : Fr (2304 * 1) 2304 par par1) (c : Fr (48 * 1) 48 hubs hubs1) (d : Fr (48 * 1) 48 rnks rnks1) : LB9 turn n rk vb rc hs D Pp dis1 par1 hubs1 rnks1 := by
  obtain ⟨L, P, hb, h1, h2, h3, h4, h5, h6, h7⟩ := h
  exact ⟨L, P, hb, h1, h2, h3.fr (by decide) a b, h4, fun k hk => ⟨(h5 k hk).1, (h5 k hk).2.1, (c k (by omega)).trans (h5 k hk).2.2⟩, h6, fun v hv => (h7 v hv).trans (d v (by omega)).symm⟩
theorem cnt_of {x : Int32} (h : ¬ (x < nI 1 ∨ nI 48 < x)) : ∃ c0, 1 ≤ c0 ∧ c0 ≤ 48 ∧ x = nI c0 := by
  have h1 : ¬ x.toInt < 1 := fun q => h (Or.inl (Int32.lt_iff_toInt_lt.mpr (by rw [nI_toInt (n := 1) (by omega)]; exact q)))
  have h2 : ¬ 48 < x.toInt := fun q => h (Or.inr (Int32.lt_iff_toInt_lt.mpr (by rw [nI_toInt (n := 48) (by omega)]; exact q)))
  obtain ⟨j, hj, e⟩ := inV_of (n := 49) (by omega) (show inV x 49 = true from decide_eq_true (by omega))
  refine ⟨j, ?_, by omega, e⟩
  rw [e, nI_toInt (by omega)] at h1
  omega
theorem mr_lt {L : Nat → Nat → Option Nat} {u v r : Nat} : ∀ {k : Nat}, mr L u v k = some r → r < k
  | 0, h => nomatch h
  | k + 1, h => by
    cases hq : ((L u k).isSome && (L v k).isSome) with
    | false => rw [mr_no hq] at h; exact Nat.lt_succ_of_lt (mr_lt h)
    | true =>
      cases hm : mr L u v k with
      | none => rw [mr_first hq hm] at h; cases h; exact Nat.lt_succ_self _
      | some q =>
        rcases Nat.lt_or_ge (lsm L u v k) (lsm L u v q) with g | g
        · rw [mr_less hq hm g] at h; cases h; exact Nat.lt_succ_self _
        · rw [mr_keep hq hm g] at h; cases h; exact Nat.lt_succ_of_lt (mr_lt hm)
theorem mr_both {L : Nat → Nat → Option Nat} {u v r : Nat} : ∀ {k : Nat}, mr L u v k = some r → (∃ d, L u r = some d) ∧ ∃ d, L v r = some d
  | 0, h => nomatch h
  | k + 1, h => by
    have hs : ∀ q, ((L u q).isSome && (L v q).isSome) = true → (∃ d, L u q = some d) ∧ ∃ d, L v q = some d := fun q hq => ⟨Option.isSome_iff_exists.mp (Bool.and_eq_true_iff.mp hq).1, Option.isSome_iff_exists.mp (Bool.and_eq_true_iff.mp hq).2⟩
    cases hq : ((L u k).isSome && (L v k).isSome) with
    | false => rw [mr_no hq] at h; exact mr_both h
    | true =>
      cases hm : mr L u v k with
      | none => rw [mr_first hq hm] at h; cases h; exact hs _ hq
      | some q =>
        rcases Nat.lt_or_ge (lsm L u v k) (lsm L u v q) with g | g
        · rw [mr_less hq hm g] at h; cases h; exact hs _ hq
        · rw [mr_keep hq hm g] at h; cases h; exact mr_both hm
theorem bt_ft (b : Bool) : b = false ∨ b = true := by
  cases b
  · exact Or.inl rfl
  · exact Or.inr rfl
theorem rad_of {x : Int32} (h : ¬ (x < 0 ∨ nI 48 ≤ x)) : ∃ d, d < 48 ∧ x = nI d := inV_of (by omega) (inV_in (n := 48) (by omega) (fun q => h (Or.inl q)) (fun q => h (Or.inr q)))
theorem plc_of {x : Int32} (h : ¬ x < 0) : ∃ d, d < 2 ^ 31 ∧ x = nI d := by
  have h0 : ¬ x.toInt < 0 := fun q => h (Int32.lt_iff_toInt_lt.mpr (by simpa using q))
  have h1 := (fb_rng x).2
  have e2 : (2 : Nat) ^ 31 = 2147483648 := by decide
  refine ⟨x.toInt.toNat, by omega, Int32.toInt_inj.mp ?_⟩
  rw [nI_toInt (by omega)]
  omega
