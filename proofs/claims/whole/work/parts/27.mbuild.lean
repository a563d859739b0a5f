/-! the reference: building, adding, extending -/
theorem RepM.row {L P : Nat → Nat → Option Nat} {dis par : Nat → Int32} {n k : Nat} (h : RepM 0 L P dis par) (hn : n < 48) (hk : k < 48) (hL : ∀ r, L n r = none) : RepM 0 L P (upd dis (2304 * 0 + 48 * n + k) (-1)) (upd par (2304 * 0 + 48 * n + k) (-1)) := by
  intro v r hv hr
  by_cases e : v = n ∧ r = k
  · obtain ⟨rfl, rfl⟩ := e
    rw [pk_us, hL]
    exact ⟨rfl, fun d q => by cases q⟩
  · have hne : 2304 * 0 + 48 * v + r ≠ 2304 * 0 + 48 * n + k := fun q => e (by omega)
    rw [pk_un hne, pk_un hne]
    exact h v r hv hr
theorem row_m1 {par : Nat → Int32} {n k j : Nat} (h : ∀ j, j < k → par (2304 * 0 + 48 * n + j) = -1) (hj : j < k + 1) : upd par (2304 * 0 + 48 * n + k) (-1) (2304 * 0 + 48 * n + j) = -1 := by
  by_cases e : j = k
  · subst e; exact pk_us
  · rw [pk_un (by omega)]; exact h j (by omega)
theorem RepM.one {L P : Nat → Nat → Option Nat} {dis par : Nat → Int32} {n : Nat} (h : RepM 0 L P dis par) (hn : n < 48) (h4 : ∀ j, j < 48 → par (2304 * 0 + 48 * n + j) = -1) : RepM 0 (up2 L n n (some 0)) (up2 P n n none) (upd dis (2304 * 0 + 48 * n + n) (nI 0)) par := by
  intro v r hv hr
  by_cases e : v = n ∧ r = n
  · obtain ⟨rfl, rfl⟩ := e
    rw [pk_us, h4 r hr]
    exact ⟨by simp [up2, eN], fun d _ => by simp [up2, eN]⟩
  · have hne : 2304 * 0 + 48 * v + r ≠ 2304 * 0 + 48 * n + n := fun q => e (by omega)
    rw [pk_un hne]
    have e2 : up2 L n n (some 0) v r = L v r := if_neg e
    have e3 : up2 P n n none v r = P v r := if_neg e
    rw [e2, e3]
    exact h v r hv hr
set_option maxHeartbeats 4000000 in
set_option maxRecDepth 100000 in
/-- reference: builds -/
theorem m_builds (l : Launch) (dG : va_G) (cI cJ : ClassId) (A : Nat → Prop) (mo mN mD mP mH mR mQ mF mO : Nat) (near : Nat → Int64) (n ec : Nat) (bt : Bool) (dis par hubs rnks que far frm : Nat → Int32) (vi cu pu pn wn : Nat) (th : Int32) (tb : Nat) (htb : tb < 2) (hn : n ≤ 48) (dg : Nat → Nat) (hdg : ∀ v, v < n → dg v = fb_ct (gb (near v)) n) (F : BT) (hF : bl near n (hbf dg n) n = F) (X : va_W) : Met l yX4_builds wsX4_builds ({ frames := 4, cells := 0, slots := 0, locals := 108 } : Room) (WPc dG cI cJ [.ref mo, .int (nI tb)] (MW cI cJ mo mN mD mP mH mR mQ mF mO near (nI n) (nI ec) (bI bt) dis par hubs rnks que far frm (nI vi) (nI cu) (nI pu) (nI pn) (nI wn) th ++ X) A) (va_Qv (S := (Nat → Int32) × (Nat → Int32) × (Nat → Int32) × (Nat → Int32) × (Nat → Int32) × (Nat → Int32) × (Nat → Int32)) (fun u => RepM tb F.1 F.2.1 u.1 u.2.1 ∧ RKM tb dg n n u.2.2.2.2.2.1 u.2.2.2.2.2.2 ∧ Fr (2304 * tb) 2304 dis u.1 ∧ Fr (2304 * tb) 2304 par u.2.1 ∧ Fr (48 * tb) 48 hubs u.2.2.2.2.2.1 ∧ Fr (48 * tb) 48 rnks u.2.2.2.2.2.2) (fun u => WB dG A (MW cI cJ mo mN mD mP mH mR mQ mF mO near (nI n) (nI ec) (bI bt) u.1 u.2.1 u.2.2.2.2.2.1 u.2.2.2.2.2.2 u.2.2.1 u.2.2.2.1 u.2.2.2.2.1 (nI F.2.2.1) (nI F.2.2.2.1) (nI F.2.2.2.2) (nI pn) (nI wn) th ++ X)) A) 0 0 A := by
  refine Met.ofW (cc := cX4_builds) (maxL := 3) (ret := none) (by decide) rfl ?_
  intro p e s m args below meth c s₁ B9 hml hv
  obtain ⟨rfl, hP, hK, hD⟩ := hv
  have hx := B9.exec
  have hb := B9.bytes
  have hr := B9.returns
  have hts := atoms_spec (ws := wsX4_builds) B9.pre
  have hown : s.vm.findClass RX4 = some m.cls := findClass_of_methodNamed B9.named
  have hlocks := B9.notSynchronized
  have hS : va_S A s.heap s.heap [] := va_S.rf
  have hl := lv_entry ([.ref mo, .int (nI tb)]) (n := 3) (Nat.le_of_ble_eq_true rfl)
  rw [lg_entry_eq]
  generalize (lg_sl ([.ref mo, .int (nI tb)]) ++ List.replicate (3 - (lg_sl ([.ref mo, .int (nI tb)])).length) Slot.unset).toArray = ls at hl ⊢
  have hl : lv_has ls 3 [(0, .ref mo), (1, .int (nI tb))] := hl
  have hiX4 : ∀ w ∈ wsX40, w ∈ wsX4_builds := by decide +kernel
  have hf20 := hts (.fieldLink RX4 20 "LandmarkLeaModel" "hubs" "[I") (by decide +kernel)
  have hf39 := hts (.fieldLink RX4 39 "LandmarkLeaModel" "many" "I") (by decide +kernel)
  refine lv_aload_n hx hb dX4_builds_0 rfl (lv_at hl 0 rfl) ?_
  refine lv_iload_n hx hb dX4_builds_1 rfl (lv_at hl 1 rfl) ?_
  obtain ⟨dis0, edis0⟩ : ∃ z, z = dis := ⟨_, rfl⟩
  obtain ⟨par0, epar0⟩ : ∃ z, z = par := ⟨_, rfl⟩
  obtain ⟨hub0, ehub0⟩ : ∃ z, z = hubs := ⟨_, rfl⟩
  obtain ⟨rnk0, ernk0⟩ : ∃ z, z = rnks := ⟨_, rfl⟩
  have hPc : va_P dG vwCl (MW cI cJ mo mN mD mP mH mR mQ mF mO near (nI n) (nI ec) (bI bt) dis par hubs rnks que far frm (nI vi) (nI cu) (nI pu) (nI pn) (nI wn) th ++ X) s.heap := hP
  have hDc : va_D A (MW cI cJ mo mN mD mP mH mR mQ mF mO near (nI n) (nI ec) (bI bt) dis par hubs rnks que far frm (nI vi) (nI cu) (nI pu) (nI pn) (nI wn) th ++ X) := hD
  refine va_callv (va_runV (As := [.int (nI tb)]) (rest := []) ⟨hx, hb, hml, hown, hts⟩ (m_empties l dG cI cJ A mo mN mD mP mH mR mQ mF mO near n ec bt dis par hubs rnks que far frm vi cu pu pn wn th tb htb _) (cwV 1 hts gX4_builds_X4_empties rfl rfl rfl (by decide +kernel) ⟨Nat.le_of_ble_eq_true rfl, Nat.le_of_ble_eq_true rfl⟩) (WPc.pre hPc hDc hK (va_recv hK.1 hPc (ci := 4) (q0 := 0) rfl rfl)) rfl rfl hl.1 rfl (lv_room (Nat.le_of_ble_eq_true rfl)) dX4_builds_2 ⟨Nat.zero_le _, Nat.zero_le _⟩) hS (fun q _ h => h) (fun q h => h) (fun u9 t H locs ht hvm hw hB hz1 hk1 hS => ?_)
  obtain ⟨hP, hD⟩ := hB
  rw [ht] at hP
  have hP : va_P dG vwCl (MW cI cJ mo mN mD mP mH mR mQ mF mO near (nI n) (nI ec) (bI bt) (fl dis (2304 * tb) 2304) (fl par (2304 * tb) 2304) hubs rnks que far frm (nI vi) (nI cu) (nI pu) (nI pn) (nI wn) th ++ X) H := hP
  have hD : va_D A (MW cI cJ mo mN mD mP mH mR mQ mF mO near (nI n) (nI ec) (bI bt) (fl dis (2304 * tb) 2304) (fl par (2304 * tb) 2304) hubs rnks que far frm (nI vi) (nI cu) (nI pu) (nI pn) (nI wn) th ++ X) := hD
  refine lv_aload_n hx hb dX4_builds_5 rfl (lv_at hl 0 rfl) ?_
  refine lv_iload_n hx hb dX4_builds_6 rfl (lv_at hl 1 rfl) ?_
  have hPc : va_P dG vwCl (MW cI cJ mo mN mD mP mH mR mQ mF mO near (nI n) (nI ec) (bI bt) (fl dis (2304 * tb) 2304) (fl par (2304 * tb) 2304) hubs rnks que far frm (nI vi) (nI cu) (nI pu) (nI pn) (nI wn) th ++ X) H := hP
  have hDc : va_D A (MW cI cJ mo mN mD mP mH mR mQ mF mO near (nI n) (nI ec) (bI bt) (fl dis (2304 * tb) 2304) (fl par (2304 * tb) 2304) hubs rnks que far frm (nI vi) (nI cu) (nI pu) (nI pn) (nI wn) th ++ X) := hD
  refine va_callv (va_runV (As := [.int (nI tb)]) (rest := []) ⟨hx, hb, hml, hown, hts⟩ (m_givesRanks l dG cI cJ A mo mN mD mP mH mR mQ mF mO near n ec bt (fl dis (2304 * tb) 2304) (fl par (2304 * tb) 2304) hubs rnks que far frm vi cu pu pn wn th tb htb hn dg hdg _) (cwV 1 hts gX4_builds_X4_givesRanks rfl rfl rfl (by decide +kernel) ⟨Nat.le_of_ble_eq_true rfl, Nat.le_of_ble_eq_true rfl⟩) (WPc.pre hPc hDc hK (va_recv hK.1 hPc (ci := 4) (q0 := 0) rfl rfl)) rfl rfl hl.1 rfl (lv_room (Nat.le_of_ble_eq_true rfl)) dX4_builds_7 ⟨Nat.zero_le _, Nat.zero_le _⟩) hS (fun q _ h => h) (fun q h => h) (fun u t H locs ht hvm hw hB hz1 hk1 hS => ?_)
  obtain ⟨hubs, rnks⟩ := u
  obtain ⟨hP, hD⟩ := hB
  rw [ht] at hP
  have hP : va_P dG vwCl (MW cI cJ mo mN mD mP mH mR mQ mF mO near (nI n) (nI ec) (bI bt) (fl dis (2304 * tb) 2304) (fl par (2304 * tb) 2304) hubs rnks que far frm (nI vi) (nI cu) (nI pu) (nI pn) (nI wn) th ++ X) H := hP
  have hD : va_D A (MW cI cJ mo mN mD mP mH mR mQ mF mO near (nI n) (nI ec) (bI bt) (fl dis (2304 * tb) 2304) (fl par (2304 * tb) 2304) hubs rnks que far frm (nI vi) (nI cu) (nI pu) (nI pn) (nI wn) th ++ X) := hD
  have hg : RKM tb dg n n hubs rnks ∧ Fr (48 * tb) 48 hub0 hubs ∧ Fr (48 * tb) 48 rnk0 rnks := ⟨hw.1, by rw [ehub0]; exact hw.2.1, by rw [ernk0]; exact hw.2.2⟩
  refine lv_aload_n hx hb dX4_builds_10 rfl (lv_at hl 0 rfl) ?_
  have hPc : va_P dG vwCl (MW cI cJ mo mN mD mP mH mR mQ mF mO near (nI n) (nI ec) (bI bt) (fl dis (2304 * tb) 2304) (fl par (2304 * tb) 2304) hubs rnks que far frm (nI vi) (nI cu) (nI pu) (nI pn) (nI wn) th ++ X) H := hP
  have hDc : va_D A (MW cI cJ mo mN mD mP mH mR mQ mF mO near (nI n) (nI ec) (bI bt) (fl dis (2304 * tb) 2304) (fl par (2304 * tb) 2304) hubs rnks que far frm (nI vi) (nI cu) (nI pu) (nI pn) (nI wn) th ++ X) := hD
  refine va_callv (va_runV (As := []) (rest := []) ⟨hx, hb, hml, hown, hts⟩ (m_counts l dG cI cJ A mo mN mD mP mH mR mQ mF mO near n ec bt (fl dis (2304 * tb) 2304) (fl par (2304 * tb) 2304) hubs rnks que far frm vi cu pu pn wn th _) (cwV 0 hts gX4_builds_X4_counts rfl rfl rfl (by decide +kernel) ⟨Nat.le_of_ble_eq_true rfl, Nat.le_of_ble_eq_true rfl⟩) (WPc.pre hPc hDc hK (va_recv hK.1 hPc (ci := 4) (q0 := 0) rfl rfl)) rfl rfl hl.1 rfl (lv_room (Nat.le_of_ble_eq_true rfl)) dX4_builds_11 ⟨Nat.zero_le _, Nat.zero_le _⟩) hS (fun q _ h => h) (fun q h => h) (fun u9 t H locs ht hvm hw hB hz1 hk1 hS => ?_)
  obtain ⟨hP, hD⟩ := hB
  rw [ht] at hP
  have hP : va_P dG vwCl (MW cI cJ mo mN mD mP mH mR mQ mF mO near (nI n) (nI ec) (bI bt) (fl dis (2304 * tb) 2304) (fl par (2304 * tb) 2304) hubs rnks que far frm (nI 0) (nI 0) (nI 0) (nI pn) (nI wn) th ++ X) H := hP
  have hD : va_D A (MW cI cJ mo mN mD mP mH mR mQ mF mO near (nI n) (nI ec) (bI bt) (fl dis (2304 * tb) 2304) (fl par (2304 * tb) 2304) hubs rnks que far frm (nI 0) (nI 0) (nI 0) (nI pn) (nI wn) th ++ X) := hD
  refine lv_iconst (v := (nI 0)) hx hb dX4_builds_14 (by decide) ?_
  refine lv_istore_n (lv' := [(2, .int (nI 0)), (0, .ref mo), (1, .int (nI tb))]) hx hb dX4_builds_15 rfl hl (by decide) rfl (fun ls hl => ?_)
  have hP : va_P dG vwCl (MW cI cJ mo mN mD mP mH mR mQ mF mO near (nI n) (nI ec) (bI bt) (fl dis (2304 * tb) 2304) (fl par (2304 * tb) 2304) hubs rnks que far frm (nI ((bl near n (hbf dg n) 0).2.2.1)) (nI ((bl near n (hbf dg n) 0).2.2.2.1)) (nI ((bl near n (hbf dg n) 0).2.2.2.2)) (nI pn) (nI wn) th ++ X) H := hP
  have hD : va_D A (MW cI cJ mo mN mD mP mH mR mQ mF mO near (nI n) (nI ec) (bI bt) (fl dis (2304 * tb) 2304) (fl par (2304 * tb) 2304) hubs rnks que far frm (nI ((bl near n (hbf dg n) 0).2.2.1)) (nI ((bl near n (hbf dg n) 0).2.2.2.1)) (nI ((bl near n (hbf dg n) 0).2.2.2.2)) (nI pn) (nI wn) th ++ X) := hD
  have loop : ∀ (QQ : State → Prop) (n1 : Nat) (k : Nat) (que far frm dis par : Nat → Int32), n < k + n1 → k ≤ n → RepM tb (bl near n (hbf dg n) k).1 (bl near n (hbf dg n) k).2.1 dis par → Fr (2304 * tb) 2304 dis0 dis → Fr (2304 * tb) 2304 par0 par → (∀ (que far frm dis par : Nat → Int32) (_ : RepM tb (bl near n (hbf dg n) n).1 (bl near n (hbf dg n) n).2.1 dis par) (_ : Fr (2304 * tb) 2304 dis0 dis) (_ : Fr (2304 * tb) 2304 par0 par), ∀ (H : Heap) (locs : List Loc), va_P dG vwCl (MW cI cJ mo mN mD mP mH mR mQ mF mO near (nI n) (nI ec) (bI bt) dis par hubs rnks que far frm (nI ((bl near n (hbf dg n) n).2.2.1)) (nI ((bl near n (hbf dg n) n).2.2.2.1)) (nI ((bl near n (hbf dg n) n).2.2.2.2)) (nI pn) (nI wn) th ++ X) H → va_D A (MW cI cJ mo mN mD mP mH mR mQ mF mO near (nI n) (nI ec) (bI bt) dis par hubs rnks que far frm (nI ((bl near n (hbf dg n) n).2.2.1)) (nI ((bl near n (hbf dg n) n).2.2.2.1)) (nI ((bl near n (hbf dg n) n).2.2.2.2)) (nI pn) (nI wn) th ++ X) → va_S A s.heap H locs → ∀ ls : Array Slot, lv_has ls 3 [(0, .ref mo), (1, .int (nI tb)), (2, .int (nI n))] → W p l e ({ frames := 4, cells := 0, slots := 0, locals := 108 } : Room) s m ([.ref mo, .int (nI tb)] : List Value).toArray below meth c H locs 0 0 QQ (F0 m 49 ls [])) → ∀ (H : Heap) (locs : List Loc), va_P dG vwCl (MW cI cJ mo mN mD mP mH mR mQ mF mO near (nI n) (nI ec) (bI bt) dis par hubs rnks que far frm (nI ((bl near n (hbf dg n) k).2.2.1)) (nI ((bl near n (hbf dg n) k).2.2.2.1)) (nI ((bl near n (hbf dg n) k).2.2.2.2)) (nI pn) (nI wn) th ++ X) H → va_D A (MW cI cJ mo mN mD mP mH mR mQ mF mO near (nI n) (nI ec) (bI bt) dis par hubs rnks que far frm (nI ((bl near n (hbf dg n) k).2.2.1)) (nI ((bl near n (hbf dg n) k).2.2.2.1)) (nI ((bl near n (hbf dg n) k).2.2.2.2)) (nI pn) (nI wn) th ++ X) → va_S A s.heap H locs → ∀ ls : Array Slot, lv_has ls 3 [(0, .ref mo), (1, .int (nI tb)), (2, .int (nI k))] → W p l e ({ frames := 4, cells := 0, slots := 0, locals := 108 } : Room) s m ([.ref mo, .int (nI tb)] : List Value).toArray below meth c H locs 0 0 QQ (F0 m 16 ls []) := by
    intro QQ n1
    induction n1 with
    | zero => intro k que far frm dis par h1 h2 hR f1 f2; exact absurd h1 (by omega)
    | succ n1 ih =>
      intro k que far frm dis par h1 h2 hR f1 f2 kx H locs hP hD hS ls hl
      refine lv_iload_n hx hb dX4_builds_16 rfl (lv_at hl 2 rfl) ?_
      refine lv_aload_n hx hb dX4_builds_17 rfl (lv_at hl 0 rfl) ?_
      refine va_get (D := dG) (ci := 4) (v := .int (nI n)) (C := RX4) (T := TX4) (N := 17) hx hb hts hiX4 hown hK.1 hP 0 rfl rfl 1 (by decide) hf39 (fun _ h9 => h9) rfl dX4_builds_18 ?_
      refine x_icmp_geN (i := k) (j := n) (tgt := 49) hx hb (by omega) (by omega) dX4_builds_21 (by decide) (fun c21 => ?_) (fun c21 => ?_)
      · skip
        have ek : k = n := by omega
        subst ek
        exact kx (que) (far) (frm) (dis) (par) (hR) (f1) (f2) H locs hP hD hS ls (lv_sub hl [0, 1, 2] rfl)
      · skip
        refine lv_aload_n hx hb dX4_builds_24 rfl (lv_at hl 0 rfl) ?_
        refine lv_iload_n hx hb dX4_builds_25 rfl (lv_at hl 1 rfl) ?_
        refine lv_iload_n hx hb dX4_builds_26 rfl (lv_at hl 2 rfl) ?_
        refine lv_aload_n hx hb dX4_builds_27 rfl (lv_at hl 0 rfl) ?_
        refine va_get (D := dG) (ci := 4) (v := .ref mH) (C := RX4) (T := TX4) (N := 17) hx hb hts hiX4 hown hK.1 hP 0 rfl rfl 6 (by decide) hf20 (fun _ h9 => h9) rfl dX4_builds_28 ?_
        refine lv_bipush (v := (nI 48)) hx hb dX4_builds_31 (by decide) ?_
        refine lv_iload_n hx hb dX4_builds_33 rfl (lv_at hl 1 rfl) ?_
        refine x_mulN (i := 48) (j := tb) hx hb dX4_builds_34 ?_
        refine lv_iload_n hx hb dX4_builds_35 rfl (lv_at hl 2 rfl) ?_
        refine x_addN (i := (48 * tb)) (j := k) hx hb dX4_builds_36 ?_
        refine x_iald (f := hubs) hx hb hK hP 4 rfl (by omega) (by decide) dX4_builds_37 ?_
        rw [show hubs ((48 * tb) + k) = (nI (hbf dg n k)) from hg.1.hub c21]
        refine lv_iconst (v := (nI 0)) hx hb dX4_builds_38 (by decide) ?_
        refine lv_iconst (v := (-1)) hx hb dX4_builds_39 (by decide) ?_
        obtain ⟨F2, hF2⟩ : ∃ F2, sr0 near n (hbf dg n k) k (hbf dg n k) 0 none (bl near n (hbf dg n) k) = F2 := ⟨_, rfl⟩
        have hPc : va_P dG vwCl (MW cI cJ mo mN mD mP mH mR mQ mF mO near (nI n) (nI ec) (bI bt) dis par hubs rnks que far frm (nI ((bl near n (hbf dg n) k).2.2.1)) (nI ((bl near n (hbf dg n) k).2.2.2.1)) (nI ((bl near n (hbf dg n) k).2.2.2.2)) (nI pn) (nI wn) th ++ X) H := hP
        have hDc : va_D A (MW cI cJ mo mN mD mP mH mR mQ mF mO near (nI n) (nI ec) (bI bt) dis par hubs rnks que far frm (nI ((bl near n (hbf dg n) k).2.2.1)) (nI ((bl near n (hbf dg n) k).2.2.2.1)) (nI ((bl near n (hbf dg n) k).2.2.2.2)) (nI pn) (nI wn) th ++ X) := hD
        refine va_callv (va_runV (As := [.int (nI tb), .int (nI k), .int (nI (hbf dg n k)), .int (nI 0), .int (-1)]) (rest := []) ⟨hx, hb, hml, hown, hts⟩ (m_searches l dG cI cJ A mo mN mD mP mH mR mQ mF mO near n ec bt dis par hubs rnks que far frm ((bl near n (hbf dg n) k).2.2.1) ((bl near n (hbf dg n) k).2.2.2.1) ((bl near n (hbf dg n) k).2.2.2.2) pn wn th tb htb (bl near n (hbf dg n) k).1 (bl near n (hbf dg n) k).2.1 48 hR (bl_lbd hn (fun k hk => (hbf_ok hk).1) k h2) (by decide) hn k (hbf dg n k) 0 (hbf dg n k) none (by omega) (hbf_ok c21).1 (by omega) (by have := (hbf_ok (dg := dg) c21).1; omega) (hg.1.hub c21) F2 hF2 _) (cwV 5 hts gX4_builds_X4_searches rfl rfl rfl (by decide +kernel) ⟨Nat.le_of_ble_eq_true rfl, Nat.le_of_ble_eq_true rfl⟩) (WPc.pre hPc hDc hK (va_recv hK.1 hPc (ci := 4) (q0 := 0) rfl rfl)) rfl rfl hl.1 rfl (lv_room (Nat.le_of_ble_eq_true rfl)) dX4_builds_40 ⟨Nat.zero_le _, Nat.zero_le _⟩) hS (fun q _ h => h) (fun q h => h) (fun u t H locs ht hvm hw hB hz1 hk1 hS => ?_)
        obtain ⟨dis1, par1, que, far, frm⟩ := u
        obtain ⟨hP, hD⟩ := hB
        rw [ht] at hP
        have hP : va_P dG vwCl (MW cI cJ mo mN mD mP mH mR mQ mF mO near (nI n) (nI ec) (bI bt) dis1 par1 hubs rnks que far frm (nI ((cutq F2).2.2.1)) (nI ((cutq F2).2.2.2.1)) (nI ((cutq F2).2.2.2.2)) (nI pn) (nI wn) th ++ X) H := hP
        have hD : va_D A (MW cI cJ mo mN mD mP mH mR mQ mF mO near (nI n) (nI ec) (bI bt) dis1 par1 hubs rnks que far frm (nI ((cutq F2).2.2.1)) (nI ((cutq F2).2.2.2.1)) (nI ((cutq F2).2.2.2.2)) (nI pn) (nI wn) th ++ X) := hD
        refine x_iincN (lv' := [(2, .int (nI (k + 1))), (0, .ref mo), (1, .int (nI tb))]) hx hb dX4_builds_43 hl (k := 2) rfl (by decide) rfl (fun ls hl => ?_)
        refine lv_goto (tgt := 16) hx hb dX4_builds_46 (by decide) ?_
        have eS : cutq F2 = bl near n (hbf dg n) (k + 1) := by rw [← hF2]; rfl
        rw [eS] at hP hD
        exact ih (k + 1) que far frm dis1 par1 (by omega) (by omega) (by rw [← eS]; exact hw.1) (f1.tr hw.2.1) (f2.tr hw.2.2) kx H locs hP hD hS ls (lv_sub hl [1, 2, 0] rfl)
  refine loop _ 49 0 que far frm (fl dis (2304 * tb) 2304) (fl par (2304 * tb) 2304) (by omega) (by omega) (RepM.zero) (by rw [edis0]; exact fl_fr _ _ _) (by rw [epar0]; exact fl_fr _ _ _) (fun que far frm dis par hR f1 f2 H locs hP hD hS ls hl => ?_) H locs hP hD hS ls (lv_sub hl [1, 2, 0] rfl)
  rw [hF] at hP hD hR
  exact W.vret hx hb hr (fun t ht hW => ⟨⟨(dis, par, que, far, frm, hubs, rnks), rfl, ⟨hR, hg.1, by rw [← edis0]; exact f1, by rw [← epar0]; exact f2, by rw [← ehub0]; exact hg.2.1, by rw [← ernk0]; exact hg.2.2⟩, by rw [ht]; exact hP, hD⟩, hS.F ht⟩) hS.2.2 dX4_builds_49

set_option maxHeartbeats 4000000 in
set_option maxRecDepth 100000 in
/-- reference: adds -/
theorem m_addsU (l : Launch) (dG : va_G) (cI cJ : ClassId) (A : Nat → Prop) (mo mN mD mP mH mR mQ mF mO : Nat) (near : Nat → Int64) (n ec : Nat) (bt : Bool) (dis par hubs rnks que far frm : Nat → Int32) (vi cu pu pn wn : Nat) (th : Int32) (hn : n < 48) (hbt : bt = false) (X : va_W) : Met l yX4_adds wsX4_adds ({ frames := 0, cells := 0, slots := 0, locals := 0 } : Room) (WPc dG cI cJ [.ref mo] (MW cI cJ mo mN mD mP mH mR mQ mF mO near (nI n) (nI ec) (bI bt) dis par hubs rnks que far frm (nI vi) (nI cu) (nI pu) (nI pn) (nI wn) th ++ X) A) (va_Qv (S := Unit) (fun _ => True) (fun _ => WB dG A (MW cI cJ mo mN mD mP mH mR mQ mF mO (vp_updL near n 0) (nI (n + 1)) (nI ec) (bI bt) dis par hubs rnks que far frm (nI vi) (nI cu) (nI pu) (nI pn) (nI wn) th ++ X)) A) 0 0 A := by
  refine Met.ofW (cc := cX4_adds) (maxL := 2) (ret := none) (by decide) rfl ?_
  intro p e s m args below meth c s₁ B9 hml hv
  obtain ⟨rfl, hP, hK, hD⟩ := hv
  have hx := B9.exec
  have hb := B9.bytes
  have hr := B9.returns
  have hts := atoms_spec (ws := wsX4_adds) B9.pre
  have hown : s.vm.findClass RX4 = some m.cls := findClass_of_methodNamed B9.named
  have hlocks := B9.notSynchronized
  have hS : va_S A s.heap s.heap [] := va_S.rf
  have hl := lv_entry ([.ref mo]) (n := 2) (Nat.le_of_ble_eq_true rfl)
  rw [lg_entry_eq]
  generalize (lg_sl ([.ref mo]) ++ List.replicate (2 - (lg_sl ([.ref mo])).length) Slot.unset).toArray = ls at hl ⊢
  have hl : lv_has ls 2 [(0, .ref mo)] := hl
  have hiX4 : ∀ w ∈ wsX40, w ∈ wsX4_adds := by decide +kernel
  have hf7 := hts (.fieldLink RX4 7 "LandmarkLeaModel" "near" "[J") (by decide +kernel)
  have hf13 := hts (.fieldLink RX4 13 "LandmarkLeaModel" "distances" "[I") (by decide +kernel)
  have hf17 := hts (.fieldLink RX4 17 "LandmarkLeaModel" "parents" "[I") (by decide +kernel)
  have hf20 := hts (.fieldLink RX4 20 "LandmarkLeaModel" "hubs" "[I") (by decide +kernel)
  have hf23 := hts (.fieldLink RX4 23 "LandmarkLeaModel" "ranks" "[I") (by decide +kernel)
  have hf39 := hts (.fieldLink RX4 39 "LandmarkLeaModel" "many" "I") (by decide +kernel)
  have hf91 := hts (.fieldLink RX4 91 "LandmarkLeaModel" "isBuilt" "Z") (by decide +kernel)
  refine lv_aload_n hx hb dX4_adds_0 rfl (lv_at hl 0 rfl) ?_
  refine va_get (D := dG) (ci := 4) (v := .ref mN) (C := RX4) (T := TX4) (N := 17) hx hb hts hiX4 hown hK.1 hP 0 rfl rfl 0 (by decide) hf7 (fun _ h9 => h9) rfl dX4_adds_1 ?_
  refine lv_aload_n hx hb dX4_adds_4 rfl (lv_at hl 0 rfl) ?_
  refine va_get (D := dG) (ci := 4) (v := .int (nI n)) (C := RX4) (T := TX4) (N := 17) hx hb hts hiX4 hown hK.1 hP 0 rfl rfl 1 (by decide) hf39 (fun _ h9 => h9) rfl dX4_adds_5 ?_
  refine lv_lconst (v := 0) hx hb dX4_adds_8 rfl ?_
  refine x_last (f := near) hx hb hK hP hD hS 1 rfl (by omega) (by decide) dX4_adds_9 (fun H locs hP hD hS => ?_)
  have hP : va_P dG vwCl (MW cI cJ mo mN mD mP mH mR mQ mF mO (vp_updL near n 0) (nI n) (nI ec) (bI bt) dis par hubs rnks que far frm (nI vi) (nI cu) (nI pu) (nI pn) (nI wn) th ++ X) H := hP
  have hD : va_D A (MW cI cJ mo mN mD mP mH mR mQ mF mO (vp_updL near n 0) (nI n) (nI ec) (bI bt) dis par hubs rnks que far frm (nI vi) (nI cu) (nI pu) (nI pn) (nI wn) th ++ X) := hD
  refine lv_aload_n hx hb dX4_adds_10 rfl (lv_at hl 0 rfl) ?_
  refine va_get (D := dG) (ci := 4) (v := .int (bI bt)) (C := RX4) (T := TX4) (N := 17) hx hb hts hiX4 hown hK.1 hP 0 rfl rfl 3 (by decide) hf91 (fun _ h9 => h9) rfl dX4_adds_11 ?_
  refine x_ifeqB (tgt := 105) hx hb dX4_adds_14 (by decide) (fun c14 => ?_) (fun c14 => ?_)
  · skip
    refine lv_aload_n hx hb dX4_adds_105 rfl (lv_at hl 0 rfl) ?_
    refine lv_dup hx hb dX4_adds_106 rfl ?_
    refine va_get (D := dG) (ci := 4) (v := .int (nI n)) (C := RX4) (T := TX4) (N := 17) hx hb hts hiX4 hown hK.1 hP 0 rfl rfl 1 (by decide) hf39 (fun _ h9 => h9) rfl dX4_adds_107 ?_
    refine lv_iconst (v := (nI 1)) hx hb dX4_adds_110 (by decide) ?_
    refine x_addN (i := n) (j := 1) hx hb dX4_adds_111 ?_
    refine va_put (D := dG) (ci := 4) (v := .int (nI (n + 1))) (ty := .int) (C := RX4) (T := TX4) (N := 17) hx hb hts hiX4 tyX4 tyX4_ok nmX4 hown hK.1 hP hD hS 0 rfl rfl 1 (by decide) hf39 (fun _ h9 => h9) rfl (by decide +kernel) rfl rfl (Nat.le_of_ble_eq_true rfl) dX4_adds_112 (fun H locs hP hD hS => ?_)
    have hP : va_P dG vwCl (MW cI cJ mo mN mD mP mH mR mQ mF mO (vp_updL near n 0) (nI (n + 1)) (nI ec) (bI bt) dis par hubs rnks que far frm (nI vi) (nI cu) (nI pu) (nI pn) (nI wn) th ++ X) H := hP
    have hD : va_D A (MW cI cJ mo mN mD mP mH mR mQ mF mO (vp_updL near n 0) (nI (n + 1)) (nI ec) (bI bt) dis par hubs rnks que far frm (nI vi) (nI cu) (nI pu) (nI pn) (nI wn) th ++ X) := hD
    exact W.vret hx hb hr (fun t ht hW => ⟨⟨(), rfl, trivial, by rw [ht]; exact hP, hD⟩, hS.F ht⟩) hS.2.2 dX4_adds_115
  · skip
    rw [hbt] at c14; cases c14

set_option maxHeartbeats 4000000 in
set_option maxRecDepth 100000 in
/-- reference: adds -/
theorem m_addsB (l : Launch) (dG : va_G) (cI cJ : ClassId) (A : Nat → Prop) (mo mN mD mP mH mR mQ mF mO : Nat) (near : Nat → Int64) (n ec : Nat) (bt : Bool) (dis par hubs rnks que far frm : Nat → Int32) (vi cu pu pn wn : Nat) (th : Int32) (hn : n < 48) (hbt : bt = true) (L P : Nat → Nat → Option Nat) (hR : RepM 0 L P dis par) (hL : ∀ r, L n r = none) (X : va_W) : Met l yX4_adds wsX4_adds ({ frames := 1, cells := 0, slots := 0, locals := 22 } : Room) (WPc dG cI cJ [.ref mo] (MW cI cJ mo mN mD mP mH mR mQ mF mO near (nI n) (nI ec) (bI bt) dis par hubs rnks que far frm (nI vi) (nI cu) (nI pu) (nI pn) (nI wn) th ++ X) A) (va_Qv (S := (Nat → Int32) × (Nat → Int32)) (fun u => RepM 0 (up2 L n n (some 0)) (up2 P n n none) u.1 u.2) (fun u => WB dG A (MW cI cJ mo mN mD mP mH mR mQ mF mO (vp_updL near n 0) (nI (n + 1)) (nI ec) (bI bt) u.1 u.2 (upd hubs n (nI n)) (upd rnks n (nI n)) que far frm (nI vi) (nI cu) (nI pu) (nI pn) (nI wn) th ++ X)) A) 0 0 A := by
  refine Met.ofW (cc := cX4_adds) (maxL := 2) (ret := none) (by decide) rfl ?_
  intro p e s m args below meth c s₁ B9 hml hv
  obtain ⟨rfl, hP, hK, hD⟩ := hv
  have hx := B9.exec
  have hb := B9.bytes
  have hr := B9.returns
  have hts := atoms_spec (ws := wsX4_adds) B9.pre
  have hown : s.vm.findClass RX4 = some m.cls := findClass_of_methodNamed B9.named
  have hlocks := B9.notSynchronized
  have hS : va_S A s.heap s.heap [] := va_S.rf
  have hl := lv_entry ([.ref mo]) (n := 2) (Nat.le_of_ble_eq_true rfl)
  rw [lg_entry_eq]
  generalize (lg_sl ([.ref mo]) ++ List.replicate (2 - (lg_sl ([.ref mo])).length) Slot.unset).toArray = ls at hl ⊢
  have hl : lv_has ls 2 [(0, .ref mo)] := hl
  have hiX4 : ∀ w ∈ wsX40, w ∈ wsX4_adds := by decide +kernel
  have hf7 := hts (.fieldLink RX4 7 "LandmarkLeaModel" "near" "[J") (by decide +kernel)
  have hf13 := hts (.fieldLink RX4 13 "LandmarkLeaModel" "distances" "[I") (by decide +kernel)
  have hf17 := hts (.fieldLink RX4 17 "LandmarkLeaModel" "parents" "[I") (by decide +kernel)
  have hf20 := hts (.fieldLink RX4 20 "LandmarkLeaModel" "hubs" "[I") (by decide +kernel)
  have hf23 := hts (.fieldLink RX4 23 "LandmarkLeaModel" "ranks" "[I") (by decide +kernel)
  have hf39 := hts (.fieldLink RX4 39 "LandmarkLeaModel" "many" "I") (by decide +kernel)
  have hf91 := hts (.fieldLink RX4 91 "LandmarkLeaModel" "isBuilt" "Z") (by decide +kernel)
  refine lv_aload_n hx hb dX4_adds_0 rfl (lv_at hl 0 rfl) ?_
  refine va_get (D := dG) (ci := 4) (v := .ref mN) (C := RX4) (T := TX4) (N := 17) hx hb hts hiX4 hown hK.1 hP 0 rfl rfl 0 (by decide) hf7 (fun _ h9 => h9) rfl dX4_adds_1 ?_
  refine lv_aload_n hx hb dX4_adds_4 rfl (lv_at hl 0 rfl) ?_
  refine va_get (D := dG) (ci := 4) (v := .int (nI n)) (C := RX4) (T := TX4) (N := 17) hx hb hts hiX4 hown hK.1 hP 0 rfl rfl 1 (by decide) hf39 (fun _ h9 => h9) rfl dX4_adds_5 ?_
  refine lv_lconst (v := 0) hx hb dX4_adds_8 rfl ?_
  refine x_last (f := near) hx hb hK hP hD hS 1 rfl (by omega) (by decide) dX4_adds_9 (fun H locs hP hD hS => ?_)
  have hP : va_P dG vwCl (MW cI cJ mo mN mD mP mH mR mQ mF mO (vp_updL near n 0) (nI n) (nI ec) (bI bt) dis par hubs rnks que far frm (nI vi) (nI cu) (nI pu) (nI pn) (nI wn) th ++ X) H := hP
  have hD : va_D A (MW cI cJ mo mN mD mP mH mR mQ mF mO (vp_updL near n 0) (nI n) (nI ec) (bI bt) dis par hubs rnks que far frm (nI vi) (nI cu) (nI pu) (nI pn) (nI wn) th ++ X) := hD
  refine lv_aload_n hx hb dX4_adds_10 rfl (lv_at hl 0 rfl) ?_
  refine va_get (D := dG) (ci := 4) (v := .int (bI bt)) (C := RX4) (T := TX4) (N := 17) hx hb hts hiX4 hown hK.1 hP 0 rfl rfl 3 (by decide) hf91 (fun _ h9 => h9) rfl dX4_adds_11 ?_
  refine x_ifeqB (tgt := 105) hx hb dX4_adds_14 (by decide) (fun c14 => ?_) (fun c14 => ?_)
  · skip
    rw [hbt] at c14; cases c14
  · skip
    refine lv_iconst (v := (nI 0)) hx hb dX4_adds_17 (by decide) ?_
    refine lv_istore_n (lv' := [(1, .int (nI 0)), (0, .ref mo)]) hx hb dX4_adds_18 rfl hl (by decide) rfl (fun ls hl => ?_)
    have loop : ∀ (QQ : State → Prop) (n1 : Nat) (k : Nat) (dis par : Nat → Int32), 48 < k + n1 → k ≤ 48 → RepM 0 L P dis par → (∀ j, j < k → par (2304 * 0 + 48 * n + j) = -1) → (∀ (dis par : Nat → Int32) (_ : RepM 0 L P dis par) (_ : ∀ j, j < 48 → par (2304 * 0 + 48 * n + j) = -1), ∀ (H : Heap) (locs : List Loc), va_P dG vwCl (MW cI cJ mo mN mD mP mH mR mQ mF mO (vp_updL near n 0) (nI n) (nI ec) (bI bt) dis par hubs rnks que far frm (nI vi) (nI cu) (nI pu) (nI pn) (nI wn) th ++ X) H → va_D A (MW cI cJ mo mN mD mP mH mR mQ mF mO (vp_updL near n 0) (nI n) (nI ec) (bI bt) dis par hubs rnks que far frm (nI vi) (nI cu) (nI pu) (nI pn) (nI wn) th ++ X) → va_S A s.heap H locs → ∀ ls : Array Slot, lv_has ls 2 [(0, .ref mo), (1, .int (nI 48))] → W p l e ({ frames := 1, cells := 0, slots := 0, locals := 22 } : Room) s m ([.ref mo] : List Value).toArray below meth c H locs 0 0 QQ (F0 m 61 ls [])) → ∀ (H : Heap) (locs : List Loc), va_P dG vwCl (MW cI cJ mo mN mD mP mH mR mQ mF mO (vp_updL near n 0) (nI n) (nI ec) (bI bt) dis par hubs rnks que far frm (nI vi) (nI cu) (nI pu) (nI pn) (nI wn) th ++ X) H → va_D A (MW cI cJ mo mN mD mP mH mR mQ mF mO (vp_updL near n 0) (nI n) (nI ec) (bI bt) dis par hubs rnks que far frm (nI vi) (nI cu) (nI pu) (nI pn) (nI wn) th ++ X) → va_S A s.heap H locs → ∀ ls : Array Slot, lv_has ls 2 [(0, .ref mo), (1, .int (nI k))] → W p l e ({ frames := 1, cells := 0, slots := 0, locals := 22 } : Room) s m ([.ref mo] : List Value).toArray below meth c H locs 0 0 QQ (F0 m 19 ls []) := by
      intro QQ n1
      induction n1 with
      | zero => intro k dis par h1 h2 h3 h4; exact absurd h1 (by omega)
      | succ n1 ih =>
        intro k dis par h1 h2 h3 h4 kx H locs hP hD hS ls hl
        refine lv_iload_n hx hb dX4_adds_19 rfl (lv_at hl 1 rfl) ?_
        refine lv_bipush (v := (nI 48)) hx hb dX4_adds_20 (by decide) ?_
        refine x_icmp_geN (i := k) (j := 48) (tgt := 61) hx hb (by omega) (by omega) dX4_adds_22 (by decide) (fun c22 => ?_) (fun c22 => ?_)
        · skip
          have ek : k = 48 := by omega
          subst ek
          exact kx (dis) (par) (h3) (h4) H locs hP hD hS ls (lv_sub hl [0, 1] rfl)
        · skip
          refine lv_aload_n hx hb dX4_adds_25 rfl (lv_at hl 0 rfl) ?_
          refine va_get (D := dG) (ci := 4) (v := .ref mD) (C := RX4) (T := TX4) (N := 17) hx hb hts hiX4 hown hK.1 hP 0 rfl rfl 4 (by decide) hf13 (fun _ h9 => h9) rfl dX4_adds_26 ?_
          refine lv_iconst (v := (nI 0)) hx hb dX4_adds_29 (by decide) ?_
          refine lv_aload_n hx hb dX4_adds_30 rfl (lv_at hl 0 rfl) ?_
          refine va_get (D := dG) (ci := 4) (v := .int (nI n)) (C := RX4) (T := TX4) (N := 17) hx hb hts hiX4 hown hK.1 hP 0 rfl rfl 1 (by decide) hf39 (fun _ h9 => h9) rfl dX4_adds_31 ?_
          refine lv_iload_n hx hb dX4_adds_34 rfl (lv_at hl 1 rfl) ?_
          have hPc : va_P dG vwCl [] H := fun k q h => by simp at h
          refine x_ri (W.runS (As := [.int (nI 0), .int (nI n), .int (nI k)]) (rest := [.ref mD]) ⟨hx, hb, hml, hown, hts⟩ (m_at l dG cI cJ 0 n k) (va_cwS 3 hts gX4_adds_X4_at rfl rfl rfl (by decide +kernel) ⟨Nat.le_of_ble_eq_true rfl, Nat.le_of_ble_eq_true rfl⟩) (RPc.preS hPc hK) rfl rfl hl.1 rfl (lv_room (Nat.le_of_ble_eq_true rfl)) dX4_adds_35 ⟨Nat.zero_le _, Nat.zero_le _⟩) ?_
          refine lv_iconst (v := (-1)) hx hb dX4_adds_38 (by decide) ?_
          refine x_iast (f := dis) hx hb hK hP hD hS 2 rfl (by omega) (by decide) dX4_adds_39 (fun H locs hP hD hS => ?_)
          have hP : va_P dG vwCl (MW cI cJ mo mN mD mP mH mR mQ mF mO (vp_updL near n 0) (nI n) (nI ec) (bI bt) (upd dis (2304 * 0 + 48 * n + k) (-1)) par hubs rnks que far frm (nI vi) (nI cu) (nI pu) (nI pn) (nI wn) th ++ X) H := hP
          have hD : va_D A (MW cI cJ mo mN mD mP mH mR mQ mF mO (vp_updL near n 0) (nI n) (nI ec) (bI bt) (upd dis (2304 * 0 + 48 * n + k) (-1)) par hubs rnks que far frm (nI vi) (nI cu) (nI pu) (nI pn) (nI wn) th ++ X) := hD
          refine lv_aload_n hx hb dX4_adds_40 rfl (lv_at hl 0 rfl) ?_
          refine va_get (D := dG) (ci := 4) (v := .ref mP) (C := RX4) (T := TX4) (N := 17) hx hb hts hiX4 hown hK.1 hP 0 rfl rfl 5 (by decide) hf17 (fun _ h9 => h9) rfl dX4_adds_41 ?_
          refine lv_iconst (v := (nI 0)) hx hb dX4_adds_44 (by decide) ?_
          refine lv_aload_n hx hb dX4_adds_45 rfl (lv_at hl 0 rfl) ?_
          refine va_get (D := dG) (ci := 4) (v := .int (nI n)) (C := RX4) (T := TX4) (N := 17) hx hb hts hiX4 hown hK.1 hP 0 rfl rfl 1 (by decide) hf39 (fun _ h9 => h9) rfl dX4_adds_46 ?_
          refine lv_iload_n hx hb dX4_adds_49 rfl (lv_at hl 1 rfl) ?_
          have hPc : va_P dG vwCl [] H := fun k q h => by simp at h
          refine x_ri (W.runS (As := [.int (nI 0), .int (nI n), .int (nI k)]) (rest := [.ref mP]) ⟨hx, hb, hml, hown, hts⟩ (m_at l dG cI cJ 0 n k) (va_cwS 3 hts gX4_adds_X4_at rfl rfl rfl (by decide +kernel) ⟨Nat.le_of_ble_eq_true rfl, Nat.le_of_ble_eq_true rfl⟩) (RPc.preS hPc hK) rfl rfl hl.1 rfl (lv_room (Nat.le_of_ble_eq_true rfl)) dX4_adds_50 ⟨Nat.zero_le _, Nat.zero_le _⟩) ?_
          refine lv_iconst (v := (-1)) hx hb dX4_adds_53 (by decide) ?_
          refine x_iast (f := par) hx hb hK hP hD hS 3 rfl (by omega) (by decide) dX4_adds_54 (fun H locs hP hD hS => ?_)
          have hP : va_P dG vwCl (MW cI cJ mo mN mD mP mH mR mQ mF mO (vp_updL near n 0) (nI n) (nI ec) (bI bt) (upd dis (2304 * 0 + 48 * n + k) (-1)) (upd par (2304 * 0 + 48 * n + k) (-1)) hubs rnks que far frm (nI vi) (nI cu) (nI pu) (nI pn) (nI wn) th ++ X) H := hP
          have hD : va_D A (MW cI cJ mo mN mD mP mH mR mQ mF mO (vp_updL near n 0) (nI n) (nI ec) (bI bt) (upd dis (2304 * 0 + 48 * n + k) (-1)) (upd par (2304 * 0 + 48 * n + k) (-1)) hubs rnks que far frm (nI vi) (nI cu) (nI pu) (nI pn) (nI wn) th ++ X) := hD
          refine x_iincN (lv' := [(1, .int (nI (k + 1))), (0, .ref mo)]) hx hb dX4_adds_55 hl (k := 1) rfl (by decide) rfl (fun ls hl => ?_)
          refine lv_goto (tgt := 19) hx hb dX4_adds_58 (by decide) ?_
          exact ih (k + 1) (upd dis (2304 * 0 + 48 * n + k) (-1)) (upd par (2304 * 0 + 48 * n + k) (-1)) (by omega) (by omega) (h3.row hn c22 hL) (fun j hj => row_m1 h4 hj) kx H locs hP hD hS ls (lv_sub hl [1, 0] rfl)
    refine loop _ 49 0 dis par (by omega) (by omega) (hR) (fun j hj => absurd hj (Nat.not_lt_zero j)) (fun dis par h3 h4 H locs hP hD hS ls hl => ?_) H locs hP hD hS ls (lv_sub hl [1, 0] rfl)
    refine lv_aload_n hx hb dX4_adds_61 rfl (lv_at hl 0 rfl) ?_
    refine va_get (D := dG) (ci := 4) (v := .ref mD) (C := RX4) (T := TX4) (N := 17) hx hb hts hiX4 hown hK.1 hP 0 rfl rfl 4 (by decide) hf13 (fun _ h9 => h9) rfl dX4_adds_62 ?_
    refine lv_iconst (v := (nI 0)) hx hb dX4_adds_65 (by decide) ?_
    refine lv_aload_n hx hb dX4_adds_66 rfl (lv_at hl 0 rfl) ?_
    refine va_get (D := dG) (ci := 4) (v := .int (nI n)) (C := RX4) (T := TX4) (N := 17) hx hb hts hiX4 hown hK.1 hP 0 rfl rfl 1 (by decide) hf39 (fun _ h9 => h9) rfl dX4_adds_67 ?_
    refine lv_aload_n hx hb dX4_adds_70 rfl (lv_at hl 0 rfl) ?_
    refine va_get (D := dG) (ci := 4) (v := .int (nI n)) (C := RX4) (T := TX4) (N := 17) hx hb hts hiX4 hown hK.1 hP 0 rfl rfl 1 (by decide) hf39 (fun _ h9 => h9) rfl dX4_adds_71 ?_
    have hPc : va_P dG vwCl [] H := fun k q h => by simp at h
    refine x_ri (W.runS (As := [.int (nI 0), .int (nI n), .int (nI n)]) (rest := [.ref mD]) ⟨hx, hb, hml, hown, hts⟩ (m_at l dG cI cJ 0 n n) (va_cwS 3 hts gX4_adds_X4_at rfl rfl rfl (by decide +kernel) ⟨Nat.le_of_ble_eq_true rfl, Nat.le_of_ble_eq_true rfl⟩) (RPc.preS hPc hK) rfl rfl hl.1 rfl (lv_room (Nat.le_of_ble_eq_true rfl)) dX4_adds_74 ⟨Nat.zero_le _, Nat.zero_le _⟩) ?_
    refine lv_iconst (v := (nI 0)) hx hb dX4_adds_77 (by decide) ?_
    refine x_iast (f := dis) hx hb hK hP hD hS 2 rfl (by omega) (by decide) dX4_adds_78 (fun H locs hP hD hS => ?_)
    have hP : va_P dG vwCl (MW cI cJ mo mN mD mP mH mR mQ mF mO (vp_updL near n 0) (nI n) (nI ec) (bI bt) (upd dis (2304 * 0 + 48 * n + n) (nI 0)) par hubs rnks que far frm (nI vi) (nI cu) (nI pu) (nI pn) (nI wn) th ++ X) H := hP
    have hD : va_D A (MW cI cJ mo mN mD mP mH mR mQ mF mO (vp_updL near n 0) (nI n) (nI ec) (bI bt) (upd dis (2304 * 0 + 48 * n + n) (nI 0)) par hubs rnks que far frm (nI vi) (nI cu) (nI pu) (nI pn) (nI wn) th ++ X) := hD
    refine lv_aload_n hx hb dX4_adds_79 rfl (lv_at hl 0 rfl) ?_
    refine va_get (D := dG) (ci := 4) (v := .ref mR) (C := RX4) (T := TX4) (N := 17) hx hb hts hiX4 hown hK.1 hP 0 rfl rfl 7 (by decide) hf23 (fun _ h9 => h9) rfl dX4_adds_80 ?_
    refine lv_aload_n hx hb dX4_adds_83 rfl (lv_at hl 0 rfl) ?_
    refine va_get (D := dG) (ci := 4) (v := .int (nI n)) (C := RX4) (T := TX4) (N := 17) hx hb hts hiX4 hown hK.1 hP 0 rfl rfl 1 (by decide) hf39 (fun _ h9 => h9) rfl dX4_adds_84 ?_
    refine lv_aload_n hx hb dX4_adds_87 rfl (lv_at hl 0 rfl) ?_
    refine va_get (D := dG) (ci := 4) (v := .int (nI n)) (C := RX4) (T := TX4) (N := 17) hx hb hts hiX4 hown hK.1 hP 0 rfl rfl 1 (by decide) hf39 (fun _ h9 => h9) rfl dX4_adds_88 ?_
    refine x_iast (f := rnks) hx hb hK hP hD hS 5 rfl (by omega) (by decide) dX4_adds_91 (fun H locs hP hD hS => ?_)
    have hP : va_P dG vwCl (MW cI cJ mo mN mD mP mH mR mQ mF mO (vp_updL near n 0) (nI n) (nI ec) (bI bt) (upd dis (2304 * 0 + 48 * n + n) (nI 0)) par hubs (upd rnks n (nI n)) que far frm (nI vi) (nI cu) (nI pu) (nI pn) (nI wn) th ++ X) H := hP
    have hD : va_D A (MW cI cJ mo mN mD mP mH mR mQ mF mO (vp_updL near n 0) (nI n) (nI ec) (bI bt) (upd dis (2304 * 0 + 48 * n + n) (nI 0)) par hubs (upd rnks n (nI n)) que far frm (nI vi) (nI cu) (nI pu) (nI pn) (nI wn) th ++ X) := hD
    refine lv_aload_n hx hb dX4_adds_92 rfl (lv_at hl 0 rfl) ?_
    refine va_get (D := dG) (ci := 4) (v := .ref mH) (C := RX4) (T := TX4) (N := 17) hx hb hts hiX4 hown hK.1 hP 0 rfl rfl 6 (by decide) hf20 (fun _ h9 => h9) rfl dX4_adds_93 ?_
    refine lv_aload_n hx hb dX4_adds_96 rfl (lv_at hl 0 rfl) ?_
    refine va_get (D := dG) (ci := 4) (v := .int (nI n)) (C := RX4) (T := TX4) (N := 17) hx hb hts hiX4 hown hK.1 hP 0 rfl rfl 1 (by decide) hf39 (fun _ h9 => h9) rfl dX4_adds_97 ?_
    refine lv_aload_n hx hb dX4_adds_100 rfl (lv_at hl 0 rfl) ?_
    refine va_get (D := dG) (ci := 4) (v := .int (nI n)) (C := RX4) (T := TX4) (N := 17) hx hb hts hiX4 hown hK.1 hP 0 rfl rfl 1 (by decide) hf39 (fun _ h9 => h9) rfl dX4_adds_101 ?_
    refine x_iast (f := hubs) hx hb hK hP hD hS 4 rfl (by omega) (by decide) dX4_adds_104 (fun H locs hP hD hS => ?_)
    have hP : va_P dG vwCl (MW cI cJ mo mN mD mP mH mR mQ mF mO (vp_updL near n 0) (nI n) (nI ec) (bI bt) (upd dis (2304 * 0 + 48 * n + n) (nI 0)) par (upd hubs n (nI n)) (upd rnks n (nI n)) que far frm (nI vi) (nI cu) (nI pu) (nI pn) (nI wn) th ++ X) H := hP
    have hD : va_D A (MW cI cJ mo mN mD mP mH mR mQ mF mO (vp_updL near n 0) (nI n) (nI ec) (bI bt) (upd dis (2304 * 0 + 48 * n + n) (nI 0)) par (upd hubs n (nI n)) (upd rnks n (nI n)) que far frm (nI vi) (nI cu) (nI pu) (nI pn) (nI wn) th ++ X) := hD
    refine lv_aload_n hx hb dX4_adds_105 rfl (lv_at hl 0 rfl) ?_
    refine lv_dup hx hb dX4_adds_106 rfl ?_
    refine va_get (D := dG) (ci := 4) (v := .int (nI n)) (C := RX4) (T := TX4) (N := 17) hx hb hts hiX4 hown hK.1 hP 0 rfl rfl 1 (by decide) hf39 (fun _ h9 => h9) rfl dX4_adds_107 ?_
    refine lv_iconst (v := (nI 1)) hx hb dX4_adds_110 (by decide) ?_
    refine x_addN (i := n) (j := 1) hx hb dX4_adds_111 ?_
    refine va_put (D := dG) (ci := 4) (v := .int (nI (n + 1))) (ty := .int) (C := RX4) (T := TX4) (N := 17) hx hb hts hiX4 tyX4 tyX4_ok nmX4 hown hK.1 hP hD hS 0 rfl rfl 1 (by decide) hf39 (fun _ h9 => h9) rfl (by decide +kernel) rfl rfl (Nat.le_of_ble_eq_true rfl) dX4_adds_112 (fun H locs hP hD hS => ?_)
    have hP : va_P dG vwCl (MW cI cJ mo mN mD mP mH mR mQ mF mO (vp_updL near n 0) (nI (n + 1)) (nI ec) (bI bt) (upd dis (2304 * 0 + 48 * n + n) (nI 0)) par (upd hubs n (nI n)) (upd rnks n (nI n)) que far frm (nI vi) (nI cu) (nI pu) (nI pn) (nI wn) th ++ X) H := hP
    have hD : va_D A (MW cI cJ mo mN mD mP mH mR mQ mF mO (vp_updL near n 0) (nI (n + 1)) (nI ec) (bI bt) (upd dis (2304 * 0 + 48 * n + n) (nI 0)) par (upd hubs n (nI n)) (upd rnks n (nI n)) que far frm (nI vi) (nI cu) (nI pu) (nI pn) (nI wn) th ++ X) := hD
    exact W.vret hx hb hr (fun t ht hW => ⟨⟨(upd dis (2304 * 0 + 48 * n + n) (nI 0), par), rfl, h3.one hn h4, by rw [ht]; exact hP, hD⟩, hS.F ht⟩) hS.2.2 dX4_adds_115

set_option maxHeartbeats 4000000 in
set_option maxRecDepth 100000 in
/-- reference: extendsBy -/
theorem m_extendsBy (l : Launch) (dG : va_G) (cI cJ : ClassId) (A : Nat → Prop) (mo mN mD mP mH mR mQ mF mO : Nat) (near : Nat → Int64) (n ec : Nat) (bt : Bool) (dis par hubs rnks que far frm : Nat → Int32) (vi cu pu pn wn : Nat) (th : Int32) (hn : n ≤ 48) (L P : Nat → Nat → Option Nat) (B : Nat) (hR : RepM 0 L P dis par) (hL : LBd L B) (hB3 : B + 4704 ≤ 2 ^ 30) (hb0 : Nat → Nat) (hhb : ∀ k, k < n → hb0 k < n ∧ hubs k = nI (hb0 k)) (a b : Nat) (ha : a < n) (hbn : b < n) (F : BT) (hF : ex near n hb0 a b L P n = F) (X : va_W) : Met l yX4_extendsBy wsX4_extendsBy ({ frames := 4, cells := 0, slots := 0, locals := 108 } : Room) (WPc dG cI cJ [.ref mo, .int (nI a), .int (nI b)] (MW cI cJ mo mN mD mP mH mR mQ mF mO near (nI n) (nI ec) (bI bt) dis par hubs rnks que far frm (nI vi) (nI cu) (nI pu) (nI pn) (nI wn) th ++ X) A) (va_Qv (S := (Nat → Int32) × (Nat → Int32) × (Nat → Int32) × (Nat → Int32) × (Nat → Int32)) (fun u => RepM 0 F.1 F.2.1 u.1 u.2.1) (fun u => WB dG A (MW cI cJ mo mN mD mP mH mR mQ mF mO near (nI n) (nI ec) (bI bt) u.1 u.2.1 hubs rnks u.2.2.1 u.2.2.2.1 u.2.2.2.2 (nI F.2.2.1) (nI F.2.2.2.1) (nI F.2.2.2.2) (nI F.2.2.2.1) (nI F.2.2.2.2) th ++ X)) A) 0 0 A := by
  refine Met.ofW (cc := cX4_extendsBy) (maxL := 6) (ret := none) (by decide) rfl ?_
  intro p e s m args below meth c s₁ B9 hml hv
  obtain ⟨rfl, hP, hK, hD⟩ := hv
  have hx := B9.exec
  have hb := B9.bytes
  have hr := B9.returns
  have hts := atoms_spec (ws := wsX4_extendsBy) B9.pre
  have hown : s.vm.findClass RX4 = some m.cls := findClass_of_methodNamed B9.named
  have hlocks := B9.notSynchronized
  have hS : va_S A s.heap s.heap [] := va_S.rf
  have hl := lv_entry ([.ref mo, .int (nI a), .int (nI b)]) (n := 6) (Nat.le_of_ble_eq_true rfl)
  rw [lg_entry_eq]
  generalize (lg_sl ([.ref mo, .int (nI a), .int (nI b)]) ++ List.replicate (6 - (lg_sl ([.ref mo, .int (nI a), .int (nI b)])).length) Slot.unset).toArray = ls at hl ⊢
  have hl : lv_has ls 6 [(0, .ref mo), (1, .int (nI a)), (2, .int (nI b))] := hl
  have hiX4 : ∀ w ∈ wsX40, w ∈ wsX4_extendsBy := by decide +kernel
  have hf13 := hts (.fieldLink RX4 13 "LandmarkLeaModel" "distances" "[I") (by decide +kernel)
  have hf39 := hts (.fieldLink RX4 39 "LandmarkLeaModel" "many" "I") (by decide +kernel)
  refine lv_aload_n hx hb dX4_extendsBy_0 rfl (lv_at hl 0 rfl) ?_
  have hPc : va_P dG vwCl (MW cI cJ mo mN mD mP mH mR mQ mF mO near (nI n) (nI ec) (bI bt) dis par hubs rnks que far frm (nI vi) (nI cu) (nI pu) (nI pn) (nI wn) th ++ X) s.heap := hP
  have hDc : va_D A (MW cI cJ mo mN mD mP mH mR mQ mF mO near (nI n) (nI ec) (bI bt) dis par hubs rnks que far frm (nI vi) (nI cu) (nI pu) (nI pn) (nI wn) th ++ X) := hD
  refine va_callv (va_runV (As := []) (rest := []) ⟨hx, hb, hml, hown, hts⟩ (m_counts l dG cI cJ A mo mN mD mP mH mR mQ mF mO near n ec bt dis par hubs rnks que far frm vi cu pu pn wn th _) (cwV 0 hts gX4_extendsBy_X4_counts rfl rfl rfl (by decide +kernel) ⟨Nat.le_of_ble_eq_true rfl, Nat.le_of_ble_eq_true rfl⟩) (WPc.pre hPc hDc hK (va_recv hK.1 hPc (ci := 4) (q0 := 0) rfl rfl)) rfl rfl hl.1 rfl (lv_room (Nat.le_of_ble_eq_true rfl)) dX4_extendsBy_1 ⟨Nat.zero_le _, Nat.zero_le _⟩) hS (fun q _ h => h) (fun q h => h) (fun u9 t H locs ht hvm hw hB hz1 hk1 hS => ?_)
  obtain ⟨hP, hD⟩ := hB
  rw [ht] at hP
  have hP : va_P dG vwCl (MW cI cJ mo mN mD mP mH mR mQ mF mO near (nI n) (nI ec) (bI bt) dis par hubs rnks que far frm (nI 0) (nI 0) (nI 0) (nI pn) (nI wn) th ++ X) H := hP
  have hD : va_D A (MW cI cJ mo mN mD mP mH mR mQ mF mO near (nI n) (nI ec) (bI bt) dis par hubs rnks que far frm (nI 0) (nI 0) (nI 0) (nI pn) (nI wn) th ++ X) := hD
  refine lv_iconst (v := (nI 0)) hx hb dX4_extendsBy_4 (by decide) ?_
  refine lv_istore_n (lv' := [(3, .int (nI 0)), (0, .ref mo), (1, .int (nI a)), (2, .int (nI b))]) hx hb dX4_extendsBy_5 rfl hl (by decide) rfl (fun ls hl => ?_)
  have hP : va_P dG vwCl (MW cI cJ mo mN mD mP mH mR mQ mF mO near (nI n) (nI ec) (bI bt) dis par hubs rnks que far frm (nI ((ex near n hb0 a b L P 0).2.2.1)) (nI ((ex near n hb0 a b L P 0).2.2.2.1)) (nI ((ex near n hb0 a b L P 0).2.2.2.2)) (nI pn) (nI wn) th ++ X) H := hP
  have hD : va_D A (MW cI cJ mo mN mD mP mH mR mQ mF mO near (nI n) (nI ec) (bI bt) dis par hubs rnks que far frm (nI ((ex near n hb0 a b L P 0).2.2.1)) (nI ((ex near n hb0 a b L P 0).2.2.2.1)) (nI ((ex near n hb0 a b L P 0).2.2.2.2)) (nI pn) (nI wn) th ++ X) := hD
  have loop : ∀ (QQ : State → Prop) (n1 : Nat) (k : Nat) (que far frm dis par : Nat → Int32), n < k + n1 → k ≤ n → RepM 0 (ex near n hb0 a b L P k).1 (ex near n hb0 a b L P k).2.1 dis par → (∀ (que far frm dis par : Nat → Int32) (_ : RepM 0 (ex near n hb0 a b L P n).1 (ex near n hb0 a b L P n).2.1 dis par), ∀ (H : Heap) (locs : List Loc), va_P dG vwCl (MW cI cJ mo mN mD mP mH mR mQ mF mO near (nI n) (nI ec) (bI bt) dis par hubs rnks que far frm (nI ((ex near n hb0 a b L P n).2.2.1)) (nI ((ex near n hb0 a b L P n).2.2.2.1)) (nI ((ex near n hb0 a b L P n).2.2.2.2)) (nI pn) (nI wn) th ++ X) H → va_D A (MW cI cJ mo mN mD mP mH mR mQ mF mO near (nI n) (nI ec) (bI bt) dis par hubs rnks que far frm (nI ((ex near n hb0 a b L P n).2.2.1)) (nI ((ex near n hb0 a b L P n).2.2.2.1)) (nI ((ex near n hb0 a b L P n).2.2.2.2)) (nI pn) (nI wn) th ++ X) → va_S A s.heap H locs → ∀ ls : Array Slot, lv_has ls 6 [(0, .ref mo), (1, .int (nI a)), (2, .int (nI b)), (3, .int (nI n))] → W p l e ({ frames := 4, cells := 0, slots := 0, locals := 108 } : Room) s m ([.ref mo, .int (nI a), .int (nI b)] : List Value).toArray below meth c H locs 0 0 QQ (F0 m 82 ls [])) → ∀ (H : Heap) (locs : List Loc), va_P dG vwCl (MW cI cJ mo mN mD mP mH mR mQ mF mO near (nI n) (nI ec) (bI bt) dis par hubs rnks que far frm (nI ((ex near n hb0 a b L P k).2.2.1)) (nI ((ex near n hb0 a b L P k).2.2.2.1)) (nI ((ex near n hb0 a b L P k).2.2.2.2)) (nI pn) (nI wn) th ++ X) H → va_D A (MW cI cJ mo mN mD mP mH mR mQ mF mO near (nI n) (nI ec) (bI bt) dis par hubs rnks que far frm (nI ((ex near n hb0 a b L P k).2.2.1)) (nI ((ex near n hb0 a b L P k).2.2.2.1)) (nI ((ex near n hb0 a b L P k).2.2.2.2)) (nI pn) (nI wn) th ++ X) → va_S A s.heap H locs → ∀ ls : Array Slot, lv_has ls 6 [(0, .ref mo), (1, .int (nI a)), (2, .int (nI b)), (3, .int (nI k))] → W p l e ({ frames := 4, cells := 0, slots := 0, locals := 108 } : Room) s m ([.ref mo, .int (nI a), .int (nI b)] : List Value).toArray below meth c H locs 0 0 QQ (F0 m 6 ls []) := by
    intro QQ n1
    induction n1 with
    | zero => intro k que far frm dis par h1 h2 hR; exact absurd h1 (by omega)
    | succ n1 ih =>
      intro k que far frm dis par h1 h2 hR kx H locs hP hD hS ls hl
      refine lv_iload_n hx hb dX4_extendsBy_6 rfl (lv_at hl 3 rfl) ?_
      refine lv_aload_n hx hb dX4_extendsBy_7 rfl (lv_at hl 0 rfl) ?_
      refine va_get (D := dG) (ci := 4) (v := .int (nI n)) (C := RX4) (T := TX4) (N := 17) hx hb hts hiX4 hown hK.1 hP 0 rfl rfl 1 (by decide) hf39 (fun _ h9 => h9) rfl dX4_extendsBy_8 ?_
      refine x_icmp_geN (i := k) (j := n) (tgt := 82) hx hb (by omega) (by omega) dX4_extendsBy_11 (by decide) (fun c11 => ?_) (fun c11 => ?_)
      · skip
        have ek : k = n := by omega
        subst ek
        exact kx (que) (far) (frm) (dis) (par) (hR) H locs hP hD hS ls (lv_sub hl [0, 1, 2, 3] rfl)
      · skip
        have hk := hhb k c11
        have hLk := ex_lbd (ns := near) (hb := hb0) (P := P) ha hbn hn hL k
        have hLk1 := ex1_lbd (ns := near) (a := a) (k := k) (hb := hb0) hbn hn hLk
        refine lv_aload_n hx hb dX4_extendsBy_14 rfl (lv_at hl 0 rfl) ?_
        refine va_get (D := dG) (ci := 4) (v := .ref mD) (C := RX4) (T := TX4) (N := 17) hx hb hts hiX4 hown hK.1 hP 0 rfl rfl 4 (by decide) hf13 (fun _ h9 => h9) rfl dX4_extendsBy_15 ?_
        refine lv_iconst (v := (nI 0)) hx hb dX4_extendsBy_18 (by decide) ?_
        refine lv_iload_n hx hb dX4_extendsBy_19 rfl (lv_at hl 1 rfl) ?_
        refine lv_iload_n hx hb dX4_extendsBy_20 rfl (lv_at hl 3 rfl) ?_
        have hPc : va_P dG vwCl [] H := fun k q h => by simp at h
        refine x_ri (W.runS (As := [.int (nI 0), .int (nI a), .int (nI k)]) (rest := [.ref mD]) ⟨hx, hb, hml, hown, hts⟩ (m_at l dG cI cJ 0 a k) (va_cwS 3 hts gX4_extendsBy_X4_at rfl rfl rfl (by decide +kernel) ⟨Nat.le_of_ble_eq_true rfl, Nat.le_of_ble_eq_true rfl⟩) (RPc.preS hPc hK) rfl rfl hl.1 rfl (lv_room (Nat.le_of_ble_eq_true rfl)) dX4_extendsBy_21 ⟨Nat.zero_le _, Nat.zero_le _⟩) ?_
        refine x_iald (f := dis) hx hb hK hP 2 rfl (by omega) (by decide) dX4_extendsBy_24 ?_
        rw [show dis (2304 * 0 + 48 * a + k) = (eN ((ex near n hb0 a b L P k).1 a k)) from (hR a k (by omega) (by omega)).1]
        refine lv_istore (lv' := [(4, .int (eN ((ex near n hb0 a b L P k).1 a k))), (0, .ref mo), (1, .int (nI a)), (2, .int (nI b)), (3, .int (nI k))]) hx hb dX4_extendsBy_25 hl (by decide) rfl (fun ls hl => ?_)
        refine lv_aload_n hx hb dX4_extendsBy_27 rfl (lv_at hl 1 rfl) ?_
        refine va_get (D := dG) (ci := 4) (v := .ref mD) (C := RX4) (T := TX4) (N := 17) hx hb hts hiX4 hown hK.1 hP 0 rfl rfl 4 (by decide) hf13 (fun _ h9 => h9) rfl dX4_extendsBy_28 ?_
        refine lv_iconst (v := (nI 0)) hx hb dX4_extendsBy_31 (by decide) ?_
        refine lv_iload_n hx hb dX4_extendsBy_32 rfl (lv_at hl 3 rfl) ?_
        refine lv_iload_n hx hb dX4_extendsBy_33 rfl (lv_at hl 4 rfl) ?_
        have hPc : va_P dG vwCl [] H := fun k q h => by simp at h
        refine x_ri (W.runS (As := [.int (nI 0), .int (nI b), .int (nI k)]) (rest := [.ref mD]) ⟨hx, hb, hml, hown, hts⟩ (m_at l dG cI cJ 0 b k) (va_cwS 3 hts gX4_extendsBy_X4_at rfl rfl rfl (by decide +kernel) ⟨Nat.le_of_ble_eq_true rfl, Nat.le_of_ble_eq_true rfl⟩) (RPc.preS hPc hK) rfl rfl hl.1 rfl (lv_room (Nat.le_of_ble_eq_true rfl)) dX4_extendsBy_34 ⟨Nat.zero_le _, Nat.zero_le _⟩) ?_
        refine x_iald (f := dis) hx hb hK hP 2 rfl (by omega) (by decide) dX4_extendsBy_37 ?_
        rw [show dis (2304 * 0 + 48 * b + k) = (eN ((ex near n hb0 a b L P k).1 b k)) from (hR b k (by omega) (by omega)).1]
        refine lv_istore (lv' := [(5, .int (eN ((ex near n hb0 a b L P k).1 b k))), (4, .int (eN ((ex near n hb0 a b L P k).1 a k))), (0, .ref mo), (1, .int (nI a)), (2, .int (nI b)), (3, .int (nI k))]) hx hb dX4_extendsBy_38 hl (by decide) rfl (fun ls hl => ?_)
        rcases ea : (ex near n hb0 a b L P k).1 a k with _ | x
        · skip
          rcases eb : (ex near n hb0 a b L P k).1 b k with _ | y
          · skip
            have hl : lv_has ls 6 [(5, .int (eN ((ex near n hb0 a b L P k).1 b k))), (4, .int (-1)), (0, .ref mo), (1, .int (nI a)), (2, .int (nI b)), (3, .int (nI k))] := by rw [ea] at hl; exact hl
            have hl : lv_has ls 6 [(5, .int (-1)), (4, .int (-1)), (0, .ref mo), (1, .int (nI a)), (2, .int (nI b)), (3, .int (nI k))] := by rw [eb] at hl; exact hl
            have e1 : ex1 near n hb0 a b k (ex near n hb0 a b L P k) = (ex near n hb0 a b L P k) := by unfold ex1; rw [ea]
            have e2 : ex near n hb0 a b L P (k + 1) = ex1 near n hb0 a b k (ex near n hb0 a b L P k) := by show ex2 _ _ _ _ _ _ _ _ = _; rw [eb]; rfl
            refine lv_iload hx hb dX4_extendsBy_40 (lv_at hl 1 rfl) ?_
            refine lv_iconst (v := (-1)) hx hb dX4_extendsBy_42 (by decide) ?_
            refine x_eqM_M (tgt := 58) hx hb dX4_extendsBy_43 (by decide) ?_
            rw [← e1] at hP hD hR
            refine lv_iload hx hb dX4_extendsBy_58 (lv_at hl 0 rfl) ?_
            refine lv_iconst (v := (-1)) hx hb dX4_extendsBy_60 (by decide) ?_
            refine x_eqM_M (tgt := 76) hx hb dX4_extendsBy_61 (by decide) ?_
            refine x_iincN (lv' := [(3, .int (nI (k + 1))), (5, .int (-1)), (4, .int (-1)), (0, .ref mo), (1, .int (nI a)), (2, .int (nI b))]) hx hb dX4_extendsBy_76 hl (k := 5) rfl (by decide) rfl (fun ls hl => ?_)
            refine lv_goto (tgt := 6) hx hb dX4_extendsBy_79 (by decide) ?_
            rw [← e2] at hP hD hR
            exact ih (k + 1) que far frm dis par (by omega) (by omega) (hR) kx H locs hP hD hS ls (lv_sub hl [3, 4, 5, 0] rfl)
          · skip
            have hl : lv_has ls 6 [(5, .int (eN ((ex near n hb0 a b L P k).1 b k))), (4, .int (-1)), (0, .ref mo), (1, .int (nI a)), (2, .int (nI b)), (3, .int (nI k))] := by rw [ea] at hl; exact hl
            have hl : lv_has ls 6 [(5, .int (nI y)), (4, .int (-1)), (0, .ref mo), (1, .int (nI a)), (2, .int (nI b)), (3, .int (nI k))] := by rw [eb] at hl; exact hl
            have e1 : ex1 near n hb0 a b k (ex near n hb0 a b L P k) = (ex near n hb0 a b L P k) := by unfold ex1; rw [ea]
            have e2 : ex near n hb0 a b L P (k + 1) = sr1 near n (hb0 k) k a (y + 1) (some b) (ex1 near n hb0 a b k (ex near n hb0 a b L P k)) := by show ex2 _ _ _ _ _ _ _ _ = _; rw [eb]; rfl
            have hy0 := hLk b k y eb
            refine lv_iload hx hb dX4_extendsBy_40 (lv_at hl 1 rfl) ?_
            refine lv_iconst (v := (-1)) hx hb dX4_extendsBy_42 (by decide) ?_
            refine x_eqM_M (tgt := 58) hx hb dX4_extendsBy_43 (by decide) ?_
            rw [← e1] at hP hD hR
            refine lv_iload hx hb dX4_extendsBy_58 (lv_at hl 0 rfl) ?_
            refine lv_iconst (v := (-1)) hx hb dX4_extendsBy_60 (by decide) ?_
            refine x_eqM_N (tgt := 76) hx hb (by omega) dX4_extendsBy_61 (by decide) ?_
            refine lv_aload_n hx hb dX4_extendsBy_64 rfl (lv_at hl 2 rfl) ?_
            refine lv_iconst (v := (nI 0)) hx hb dX4_extendsBy_65 (by decide) ?_
            refine lv_iload_n hx hb dX4_extendsBy_66 rfl (lv_at hl 5 rfl) ?_
            refine lv_iload_n hx hb dX4_extendsBy_67 rfl (lv_at hl 3 rfl) ?_
            refine lv_iload hx hb dX4_extendsBy_68 (lv_at hl 0 rfl) ?_
            refine lv_iconst (v := (nI 1)) hx hb dX4_extendsBy_70 (by decide) ?_
            refine x_addN (i := y) (j := 1) hx hb dX4_extendsBy_71 ?_
            refine lv_iload_n hx hb dX4_extendsBy_72 rfl (lv_at hl 4 rfl) ?_
            obtain ⟨F2, hF2⟩ : ∃ F2, sr0 near n (hb0 k) k a (y + 1) (some b) (ex1 near n hb0 a b k (ex near n hb0 a b L P k)) = F2 := ⟨_, rfl⟩
            have hPc : va_P dG vwCl (MW cI cJ mo mN mD mP mH mR mQ mF mO near (nI n) (nI ec) (bI bt) dis par hubs rnks que far frm (nI ((ex1 near n hb0 a b k (ex near n hb0 a b L P k)).2.2.1)) (nI ((ex1 near n hb0 a b k (ex near n hb0 a b L P k)).2.2.2.1)) (nI ((ex1 near n hb0 a b k (ex near n hb0 a b L P k)).2.2.2.2)) (nI pn) (nI wn) th ++ X) H := hP
            have hDc : va_D A (MW cI cJ mo mN mD mP mH mR mQ mF mO near (nI n) (nI ec) (bI bt) dis par hubs rnks que far frm (nI ((ex1 near n hb0 a b k (ex near n hb0 a b L P k)).2.2.1)) (nI ((ex1 near n hb0 a b k (ex near n hb0 a b L P k)).2.2.2.1)) (nI ((ex1 near n hb0 a b k (ex near n hb0 a b L P k)).2.2.2.2)) (nI pn) (nI wn) th ++ X) := hD
            refine va_callv (va_runV (As := [.int (nI 0), .int (nI k), .int (nI a), .int (nI (y + 1)), .int (nI b)]) (rest := []) ⟨hx, hb, hml, hown, hts⟩ (m_searches l dG cI cJ A mo mN mD mP mH mR mQ mF mO near n ec bt dis par hubs rnks que far frm ((ex1 near n hb0 a b k (ex near n hb0 a b L P k)).2.2.1) ((ex1 near n hb0 a b k (ex near n hb0 a b L P k)).2.2.2.1) ((ex1 near n hb0 a b k (ex near n hb0 a b L P k)).2.2.2.2) pn wn th 0 (by omega) (ex1 near n hb0 a b k (ex near n hb0 a b L P k)).1 (ex1 near n hb0 a b k (ex near n hb0 a b L P k)).2.1 (B + 98 * k + 49) hR hLk1 (by omega) hn k a (y + 1) (hb0 k) (some b) (by omega) ha (by omega) (by omega) (by rw [show 48 * 0 + k = k by omega]; exact hk.2) F2 hF2 _) (cwV 5 hts gX4_extendsBy_X4_searches rfl rfl rfl (by decide +kernel) ⟨Nat.le_of_ble_eq_true rfl, Nat.le_of_ble_eq_true rfl⟩) (WPc.pre hPc hDc hK (va_recv hK.1 hPc (ci := 4) (q0 := 0) rfl rfl)) rfl rfl hl.1 rfl (lv_room (Nat.le_of_ble_eq_true rfl)) dX4_extendsBy_73 ⟨Nat.zero_le _, Nat.zero_le _⟩) hS (fun q _ h => h) (fun q h => h) (fun u t H locs ht hvm hw hB hz1 hk1 hS => ?_)
            obtain ⟨dis, par, que, far, frm⟩ := u
            obtain ⟨hP, hD⟩ := hB
            rw [ht] at hP
            have hP : va_P dG vwCl (MW cI cJ mo mN mD mP mH mR mQ mF mO near (nI n) (nI ec) (bI bt) dis par hubs rnks que far frm (nI ((cutq F2).2.2.1)) (nI ((cutq F2).2.2.2.1)) (nI ((cutq F2).2.2.2.2)) (nI pn) (nI wn) th ++ X) H := hP
            have hD : va_D A (MW cI cJ mo mN mD mP mH mR mQ mF mO near (nI n) (nI ec) (bI bt) dis par hubs rnks que far frm (nI ((cutq F2).2.2.1)) (nI ((cutq F2).2.2.2.1)) (nI ((cutq F2).2.2.2.2)) (nI pn) (nI wn) th ++ X) := hD
            have eS : cutq F2 = (ex near n hb0 a b L P (k + 1)) := by rw [e2, ← hF2]; rfl
            rw [eS] at hP hD
            have hR : RepM 0 (ex near n hb0 a b L P (k + 1)).1 (ex near n hb0 a b L P (k + 1)).2.1 dis par := by rw [← eS]; exact hw.1
            refine x_iincN (lv' := [(3, .int (nI (k + 1))), (5, .int (nI y)), (4, .int (-1)), (0, .ref mo), (1, .int (nI a)), (2, .int (nI b))]) hx hb dX4_extendsBy_76 hl (k := 5) rfl (by decide) rfl (fun ls hl => ?_)
            refine lv_goto (tgt := 6) hx hb dX4_extendsBy_79 (by decide) ?_
            exact ih (k + 1) que far frm dis par (by omega) (by omega) (hR) kx H locs hP hD hS ls (lv_sub hl [3, 4, 5, 0] rfl)
        · skip
          rcases eb : (ex near n hb0 a b L P k).1 b k with _ | y
          · skip
            have hl : lv_has ls 6 [(5, .int (eN ((ex near n hb0 a b L P k).1 b k))), (4, .int (nI x)), (0, .ref mo), (1, .int (nI a)), (2, .int (nI b)), (3, .int (nI k))] := by rw [ea] at hl; exact hl
            have hl : lv_has ls 6 [(5, .int (-1)), (4, .int (nI x)), (0, .ref mo), (1, .int (nI a)), (2, .int (nI b)), (3, .int (nI k))] := by rw [eb] at hl; exact hl
            have e1 : ex1 near n hb0 a b k (ex near n hb0 a b L P k) = sr1 near n (hb0 k) k b (x + 1) (some a) (ex near n hb0 a b L P k) := by unfold ex1; rw [ea]
            have hx0 := hLk a k x ea
            have e2 : ex near n hb0 a b L P (k + 1) = ex1 near n hb0 a b k (ex near n hb0 a b L P k) := by show ex2 _ _ _ _ _ _ _ _ = _; rw [eb]; rfl
            refine lv_iload hx hb dX4_extendsBy_40 (lv_at hl 1 rfl) ?_
            refine lv_iconst (v := (-1)) hx hb dX4_extendsBy_42 (by decide) ?_
            refine x_eqM_N (tgt := 58) hx hb (by omega) dX4_extendsBy_43 (by decide) ?_
            refine lv_aload_n hx hb dX4_extendsBy_46 rfl (lv_at hl 2 rfl) ?_
            refine lv_iconst (v := (nI 0)) hx hb dX4_extendsBy_47 (by decide) ?_
            refine lv_iload_n hx hb dX4_extendsBy_48 rfl (lv_at hl 5 rfl) ?_
            refine lv_iload_n hx hb dX4_extendsBy_49 rfl (lv_at hl 4 rfl) ?_
            refine lv_iload hx hb dX4_extendsBy_50 (lv_at hl 1 rfl) ?_
            refine lv_iconst (v := (nI 1)) hx hb dX4_extendsBy_52 (by decide) ?_
            refine x_addN (i := x) (j := 1) hx hb dX4_extendsBy_53 ?_
            refine lv_iload_n hx hb dX4_extendsBy_54 rfl (lv_at hl 3 rfl) ?_
            obtain ⟨F2, hF2⟩ : ∃ F2, sr0 near n (hb0 k) k b (x + 1) (some a) (ex near n hb0 a b L P k) = F2 := ⟨_, rfl⟩
            have hPc : va_P dG vwCl (MW cI cJ mo mN mD mP mH mR mQ mF mO near (nI n) (nI ec) (bI bt) dis par hubs rnks que far frm (nI ((ex near n hb0 a b L P k).2.2.1)) (nI ((ex near n hb0 a b L P k).2.2.2.1)) (nI ((ex near n hb0 a b L P k).2.2.2.2)) (nI pn) (nI wn) th ++ X) H := hP
            have hDc : va_D A (MW cI cJ mo mN mD mP mH mR mQ mF mO near (nI n) (nI ec) (bI bt) dis par hubs rnks que far frm (nI ((ex near n hb0 a b L P k).2.2.1)) (nI ((ex near n hb0 a b L P k).2.2.2.1)) (nI ((ex near n hb0 a b L P k).2.2.2.2)) (nI pn) (nI wn) th ++ X) := hD
            refine va_callv (va_runV (As := [.int (nI 0), .int (nI k), .int (nI b), .int (nI (x + 1)), .int (nI a)]) (rest := []) ⟨hx, hb, hml, hown, hts⟩ (m_searches l dG cI cJ A mo mN mD mP mH mR mQ mF mO near n ec bt dis par hubs rnks que far frm ((ex near n hb0 a b L P k).2.2.1) ((ex near n hb0 a b L P k).2.2.2.1) ((ex near n hb0 a b L P k).2.2.2.2) pn wn th 0 (by omega) (ex near n hb0 a b L P k).1 (ex near n hb0 a b L P k).2.1 (B + 98 * k + 49) hR (hLk.mono (by omega)) (by omega) hn k b (x + 1) (hb0 k) (some a) (by omega) hbn (by omega) (by omega) (by rw [show 48 * 0 + k = k by omega]; exact hk.2) F2 hF2 _) (cwV 5 hts gX4_extendsBy_X4_searches rfl rfl rfl (by decide +kernel) ⟨Nat.le_of_ble_eq_true rfl, Nat.le_of_ble_eq_true rfl⟩) (WPc.pre hPc hDc hK (va_recv hK.1 hPc (ci := 4) (q0 := 0) rfl rfl)) rfl rfl hl.1 rfl (lv_room (Nat.le_of_ble_eq_true rfl)) dX4_extendsBy_55 ⟨Nat.zero_le _, Nat.zero_le _⟩) hS (fun q _ h => h) (fun q h => h) (fun u t H locs ht hvm hw hB hz1 hk1 hS => ?_)
            obtain ⟨dis, par, que, far, frm⟩ := u
            obtain ⟨hP, hD⟩ := hB
            rw [ht] at hP
            have hP : va_P dG vwCl (MW cI cJ mo mN mD mP mH mR mQ mF mO near (nI n) (nI ec) (bI bt) dis par hubs rnks que far frm (nI ((cutq F2).2.2.1)) (nI ((cutq F2).2.2.2.1)) (nI ((cutq F2).2.2.2.2)) (nI pn) (nI wn) th ++ X) H := hP
            have hD : va_D A (MW cI cJ mo mN mD mP mH mR mQ mF mO near (nI n) (nI ec) (bI bt) dis par hubs rnks que far frm (nI ((cutq F2).2.2.1)) (nI ((cutq F2).2.2.2.1)) (nI ((cutq F2).2.2.2.2)) (nI pn) (nI wn) th ++ X) := hD
            have eS : cutq F2 = (ex1 near n hb0 a b k (ex near n hb0 a b L P k)) := by rw [e1, ← hF2]; rfl
            rw [eS] at hP hD
            have hR : RepM 0 (ex1 near n hb0 a b k (ex near n hb0 a b L P k)).1 (ex1 near n hb0 a b k (ex near n hb0 a b L P k)).2.1 dis par := by rw [← eS]; exact hw.1
            refine lv_iload hx hb dX4_extendsBy_58 (lv_at hl 0 rfl) ?_
            refine lv_iconst (v := (-1)) hx hb dX4_extendsBy_60 (by decide) ?_
            refine x_eqM_M (tgt := 76) hx hb dX4_extendsBy_61 (by decide) ?_
            refine x_iincN (lv' := [(3, .int (nI (k + 1))), (5, .int (-1)), (4, .int (nI x)), (0, .ref mo), (1, .int (nI a)), (2, .int (nI b))]) hx hb dX4_extendsBy_76 hl (k := 5) rfl (by decide) rfl (fun ls hl => ?_)
            refine lv_goto (tgt := 6) hx hb dX4_extendsBy_79 (by decide) ?_
            rw [← e2] at hP hD hR
            exact ih (k + 1) que far frm dis par (by omega) (by omega) (hR) kx H locs hP hD hS ls (lv_sub hl [3, 4, 5, 0] rfl)
          · skip
            have hl : lv_has ls 6 [(5, .int (eN ((ex near n hb0 a b L P k).1 b k))), (4, .int (nI x)), (0, .ref mo), (1, .int (nI a)), (2, .int (nI b)), (3, .int (nI k))] := by rw [ea] at hl; exact hl
            have hl : lv_has ls 6 [(5, .int (nI y)), (4, .int (nI x)), (0, .ref mo), (1, .int (nI a)), (2, .int (nI b)), (3, .int (nI k))] := by rw [eb] at hl; exact hl
            have e1 : ex1 near n hb0 a b k (ex near n hb0 a b L P k) = sr1 near n (hb0 k) k b (x + 1) (some a) (ex near n hb0 a b L P k) := by unfold ex1; rw [ea]
            have hx0 := hLk a k x ea
            have e2 : ex near n hb0 a b L P (k + 1) = sr1 near n (hb0 k) k a (y + 1) (some b) (ex1 near n hb0 a b k (ex near n hb0 a b L P k)) := by show ex2 _ _ _ _ _ _ _ _ = _; rw [eb]; rfl
            have hy0 := hLk b k y eb
            refine lv_iload hx hb dX4_extendsBy_40 (lv_at hl 1 rfl) ?_
            refine lv_iconst (v := (-1)) hx hb dX4_extendsBy_42 (by decide) ?_
            refine x_eqM_N (tgt := 58) hx hb (by omega) dX4_extendsBy_43 (by decide) ?_
            refine lv_aload_n hx hb dX4_extendsBy_46 rfl (lv_at hl 2 rfl) ?_
            refine lv_iconst (v := (nI 0)) hx hb dX4_extendsBy_47 (by decide) ?_
            refine lv_iload_n hx hb dX4_extendsBy_48 rfl (lv_at hl 5 rfl) ?_
            refine lv_iload_n hx hb dX4_extendsBy_49 rfl (lv_at hl 4 rfl) ?_
            refine lv_iload hx hb dX4_extendsBy_50 (lv_at hl 1 rfl) ?_
            refine lv_iconst (v := (nI 1)) hx hb dX4_extendsBy_52 (by decide) ?_
            refine x_addN (i := x) (j := 1) hx hb dX4_extendsBy_53 ?_
            refine lv_iload_n hx hb dX4_extendsBy_54 rfl (lv_at hl 3 rfl) ?_
            obtain ⟨F2, hF2⟩ : ∃ F2, sr0 near n (hb0 k) k b (x + 1) (some a) (ex near n hb0 a b L P k) = F2 := ⟨_, rfl⟩
            have hPc : va_P dG vwCl (MW cI cJ mo mN mD mP mH mR mQ mF mO near (nI n) (nI ec) (bI bt) dis par hubs rnks que far frm (nI ((ex near n hb0 a b L P k).2.2.1)) (nI ((ex near n hb0 a b L P k).2.2.2.1)) (nI ((ex near n hb0 a b L P k).2.2.2.2)) (nI pn) (nI wn) th ++ X) H := hP
            have hDc : va_D A (MW cI cJ mo mN mD mP mH mR mQ mF mO near (nI n) (nI ec) (bI bt) dis par hubs rnks que far frm (nI ((ex near n hb0 a b L P k).2.2.1)) (nI ((ex near n hb0 a b L P k).2.2.2.1)) (nI ((ex near n hb0 a b L P k).2.2.2.2)) (nI pn) (nI wn) th ++ X) := hD
            refine va_callv (va_runV (As := [.int (nI 0), .int (nI k), .int (nI b), .int (nI (x + 1)), .int (nI a)]) (rest := []) ⟨hx, hb, hml, hown, hts⟩ (m_searches l dG cI cJ A mo mN mD mP mH mR mQ mF mO near n ec bt dis par hubs rnks que far frm ((ex near n hb0 a b L P k).2.2.1) ((ex near n hb0 a b L P k).2.2.2.1) ((ex near n hb0 a b L P k).2.2.2.2) pn wn th 0 (by omega) (ex near n hb0 a b L P k).1 (ex near n hb0 a b L P k).2.1 (B + 98 * k + 49) hR (hLk.mono (by omega)) (by omega) hn k b (x + 1) (hb0 k) (some a) (by omega) hbn (by omega) (by omega) (by rw [show 48 * 0 + k = k by omega]; exact hk.2) F2 hF2 _) (cwV 5 hts gX4_extendsBy_X4_searches rfl rfl rfl (by decide +kernel) ⟨Nat.le_of_ble_eq_true rfl, Nat.le_of_ble_eq_true rfl⟩) (WPc.pre hPc hDc hK (va_recv hK.1 hPc (ci := 4) (q0 := 0) rfl rfl)) rfl rfl hl.1 rfl (lv_room (Nat.le_of_ble_eq_true rfl)) dX4_extendsBy_55 ⟨Nat.zero_le _, Nat.zero_le _⟩) hS (fun q _ h => h) (fun q h => h) (fun u t H locs ht hvm hw hB hz1 hk1 hS => ?_)
            obtain ⟨dis, par, que, far, frm⟩ := u
            obtain ⟨hP, hD⟩ := hB
            rw [ht] at hP
            have hP : va_P dG vwCl (MW cI cJ mo mN mD mP mH mR mQ mF mO near (nI n) (nI ec) (bI bt) dis par hubs rnks que far frm (nI ((cutq F2).2.2.1)) (nI ((cutq F2).2.2.2.1)) (nI ((cutq F2).2.2.2.2)) (nI pn) (nI wn) th ++ X) H := hP
            have hD : va_D A (MW cI cJ mo mN mD mP mH mR mQ mF mO near (nI n) (nI ec) (bI bt) dis par hubs rnks que far frm (nI ((cutq F2).2.2.1)) (nI ((cutq F2).2.2.2.1)) (nI ((cutq F2).2.2.2.2)) (nI pn) (nI wn) th ++ X) := hD
            have eS : cutq F2 = (ex1 near n hb0 a b k (ex near n hb0 a b L P k)) := by rw [e1, ← hF2]; rfl
            rw [eS] at hP hD
            have hR : RepM 0 (ex1 near n hb0 a b k (ex near n hb0 a b L P k)).1 (ex1 near n hb0 a b k (ex near n hb0 a b L P k)).2.1 dis par := by rw [← eS]; exact hw.1
            refine lv_iload hx hb dX4_extendsBy_58 (lv_at hl 0 rfl) ?_
            refine lv_iconst (v := (-1)) hx hb dX4_extendsBy_60 (by decide) ?_
            refine x_eqM_N (tgt := 76) hx hb (by omega) dX4_extendsBy_61 (by decide) ?_
            refine lv_aload_n hx hb dX4_extendsBy_64 rfl (lv_at hl 2 rfl) ?_
            refine lv_iconst (v := (nI 0)) hx hb dX4_extendsBy_65 (by decide) ?_
            refine lv_iload_n hx hb dX4_extendsBy_66 rfl (lv_at hl 5 rfl) ?_
            refine lv_iload_n hx hb dX4_extendsBy_67 rfl (lv_at hl 3 rfl) ?_
            refine lv_iload hx hb dX4_extendsBy_68 (lv_at hl 0 rfl) ?_
            refine lv_iconst (v := (nI 1)) hx hb dX4_extendsBy_70 (by decide) ?_
            refine x_addN (i := y) (j := 1) hx hb dX4_extendsBy_71 ?_
            refine lv_iload_n hx hb dX4_extendsBy_72 rfl (lv_at hl 4 rfl) ?_
            obtain ⟨F2, hF2⟩ : ∃ F2, sr0 near n (hb0 k) k a (y + 1) (some b) (ex1 near n hb0 a b k (ex near n hb0 a b L P k)) = F2 := ⟨_, rfl⟩
            have hPc : va_P dG vwCl (MW cI cJ mo mN mD mP mH mR mQ mF mO near (nI n) (nI ec) (bI bt) dis par hubs rnks que far frm (nI ((ex1 near n hb0 a b k (ex near n hb0 a b L P k)).2.2.1)) (nI ((ex1 near n hb0 a b k (ex near n hb0 a b L P k)).2.2.2.1)) (nI ((ex1 near n hb0 a b k (ex near n hb0 a b L P k)).2.2.2.2)) (nI pn) (nI wn) th ++ X) H := hP
            have hDc : va_D A (MW cI cJ mo mN mD mP mH mR mQ mF mO near (nI n) (nI ec) (bI bt) dis par hubs rnks que far frm (nI ((ex1 near n hb0 a b k (ex near n hb0 a b L P k)).2.2.1)) (nI ((ex1 near n hb0 a b k (ex near n hb0 a b L P k)).2.2.2.1)) (nI ((ex1 near n hb0 a b k (ex near n hb0 a b L P k)).2.2.2.2)) (nI pn) (nI wn) th ++ X) := hD
            refine va_callv (va_runV (As := [.int (nI 0), .int (nI k), .int (nI a), .int (nI (y + 1)), .int (nI b)]) (rest := []) ⟨hx, hb, hml, hown, hts⟩ (m_searches l dG cI cJ A mo mN mD mP mH mR mQ mF mO near n ec bt dis par hubs rnks que far frm ((ex1 near n hb0 a b k (ex near n hb0 a b L P k)).2.2.1) ((ex1 near n hb0 a b k (ex near n hb0 a b L P k)).2.2.2.1) ((ex1 near n hb0 a b k (ex near n hb0 a b L P k)).2.2.2.2) pn wn th 0 (by omega) (ex1 near n hb0 a b k (ex near n hb0 a b L P k)).1 (ex1 near n hb0 a b k (ex near n hb0 a b L P k)).2.1 (B + 98 * k + 49) hR hLk1 (by omega) hn k a (y + 1) (hb0 k) (some b) (by omega) ha (by omega) (by omega) (by rw [show 48 * 0 + k = k by omega]; exact hk.2) F2 hF2 _) (cwV 5 hts gX4_extendsBy_X4_searches rfl rfl rfl (by decide +kernel) ⟨Nat.le_of_ble_eq_true rfl, Nat.le_of_ble_eq_true rfl⟩) (WPc.pre hPc hDc hK (va_recv hK.1 hPc (ci := 4) (q0 := 0) rfl rfl)) rfl rfl hl.1 rfl (lv_room (Nat.le_of_ble_eq_true rfl)) dX4_extendsBy_73 ⟨Nat.zero_le _, Nat.zero_le _⟩) hS (fun q _ h => h) (fun q h => h) (fun u t H locs ht hvm hw hB hz1 hk1 hS => ?_)
            obtain ⟨dis, par, que, far, frm⟩ := u
            obtain ⟨hP, hD⟩ := hB
            rw [ht] at hP
            have hP : va_P dG vwCl (MW cI cJ mo mN mD mP mH mR mQ mF mO near (nI n) (nI ec) (bI bt) dis par hubs rnks que far frm (nI ((cutq F2).2.2.1)) (nI ((cutq F2).2.2.2.1)) (nI ((cutq F2).2.2.2.2)) (nI pn) (nI wn) th ++ X) H := hP
            have hD : va_D A (MW cI cJ mo mN mD mP mH mR mQ mF mO near (nI n) (nI ec) (bI bt) dis par hubs rnks que far frm (nI ((cutq F2).2.2.1)) (nI ((cutq F2).2.2.2.1)) (nI ((cutq F2).2.2.2.2)) (nI pn) (nI wn) th ++ X) := hD
            have eS : cutq F2 = (ex near n hb0 a b L P (k + 1)) := by rw [e2, ← hF2]; rfl
            rw [eS] at hP hD
            have hR : RepM 0 (ex near n hb0 a b L P (k + 1)).1 (ex near n hb0 a b L P (k + 1)).2.1 dis par := by rw [← eS]; exact hw.1
            refine x_iincN (lv' := [(3, .int (nI (k + 1))), (5, .int (nI y)), (4, .int (nI x)), (0, .ref mo), (1, .int (nI a)), (2, .int (nI b))]) hx hb dX4_extendsBy_76 hl (k := 5) rfl (by decide) rfl (fun ls hl => ?_)
            refine lv_goto (tgt := 6) hx hb dX4_extendsBy_79 (by decide) ?_
            exact ih (k + 1) que far frm dis par (by omega) (by omega) (hR) kx H locs hP hD hS ls (lv_sub hl [3, 4, 5, 0] rfl)
  refine loop _ 49 0 que far frm dis par (by omega) (by omega) (hR) (fun que far frm dis par hR H locs hP hD hS ls hl => ?_) H locs hP hD hS ls (lv_sub hl [1, 2, 3, 0] rfl)
  rw [hF] at hP hD hR
  refine lv_aload_n hx hb dX4_extendsBy_82 rfl (lv_at hl 0 rfl) ?_
  have hPc : va_P dG vwCl (MW cI cJ mo mN mD mP mH mR mQ mF mO near (nI n) (nI ec) (bI bt) dis par hubs rnks que far frm (nI F.2.2.1) (nI F.2.2.2.1) (nI F.2.2.2.2) (nI pn) (nI wn) th ++ X) H := hP
  have hDc : va_D A (MW cI cJ mo mN mD mP mH mR mQ mF mO near (nI n) (nI ec) (bI bt) dis par hubs rnks que far frm (nI F.2.2.1) (nI F.2.2.2.1) (nI F.2.2.2.2) (nI pn) (nI wn) th ++ X) := hD
  refine va_callv (va_runV (As := []) (rest := []) ⟨hx, hb, hml, hown, hts⟩ (m_keepsCounts l dG cI cJ A mo mN mD mP mH mR mQ mF mO near n ec bt dis par hubs rnks que far frm F.2.2.1 F.2.2.2.1 F.2.2.2.2 pn wn th _) (cwV 0 hts gX4_extendsBy_X4_keepsCounts rfl rfl rfl (by decide +kernel) ⟨Nat.le_of_ble_eq_true rfl, Nat.le_of_ble_eq_true rfl⟩) (WPc.pre hPc hDc hK (va_recv hK.1 hPc (ci := 4) (q0 := 0) rfl rfl)) rfl rfl hl.1 rfl (lv_room (Nat.le_of_ble_eq_true rfl)) dX4_extendsBy_83 ⟨Nat.zero_le _, Nat.zero_le _⟩) hS (fun q _ h => h) (fun q h => h) (fun u9 t H locs ht hvm hw hB hz1 hk1 hS => ?_)
  obtain ⟨hP, hD⟩ := hB
  rw [ht] at hP
  have hP : va_P dG vwCl (MW cI cJ mo mN mD mP mH mR mQ mF mO near (nI n) (nI ec) (bI bt) dis par hubs rnks que far frm (nI F.2.2.1) (nI F.2.2.2.1) (nI F.2.2.2.2) (nI F.2.2.2.1) (nI F.2.2.2.2) th ++ X) H := hP
  have hD : va_D A (MW cI cJ mo mN mD mP mH mR mQ mF mO near (nI n) (nI ec) (bI bt) dis par hubs rnks que far frm (nI F.2.2.1) (nI F.2.2.2.1) (nI F.2.2.2.2) (nI F.2.2.2.1) (nI F.2.2.2.2) th ++ X) := hD
  exact W.vret hx hb hr (fun t ht hW => ⟨⟨(dis, par, que, far, frm), rfl, hR, by rw [ht]; exact hP, hD⟩, hS.F ht⟩) hS.2.2 dX4_extendsBy_86
