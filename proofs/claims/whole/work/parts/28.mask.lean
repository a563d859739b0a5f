/-! the reference: its face, what only asks -/
def wr (x y : Int32) (n : Nat) (bt : Bool) : Nat := if (inV x n && inV y n) = true then (if bt = true then 0 else 2) else 1
theorem wr_ok {u v n : Nat} {bt : Bool} (hn : n ≤ 48) (hu : u < n) (hv : v < n) (hb : bt = true) : wr (nI u) (nI v) n bt = 0 := by
  unfold wr
  rw [inV_nI (by omega), inV_nI (by omega), decide_eq_true hu, decide_eq_true hv, hb]; rfl
/-- the rank whose entry is the y-th, among those below k -/
def fnd (p : Nat → Bool) (y : Int32) : Nat → Option Nat
  | 0 => none
  | k + 1 => if p k = true ∧ nI (fb_ct p k) = y then some k else fnd p y k
theorem fnd_no {p : Nat → Bool} {y : Int32} {k : Nat} (h : p k = false) : fnd p y (k + 1) = fnd p y k := if_neg (fun q => by rw [h] at q; exact absurd q.1 (by decide))
theorem fnd_ne {p : Nat → Bool} {y : Int32} {k : Nat} (h : ¬ nI (fb_ct p k) = y) : fnd p y (k + 1) = fnd p y k := if_neg (fun q => h q.2)
theorem fnd_yes {p : Nat → Bool} {y : Int32} {k : Nat} (h : p k = true) (e : nI (fb_ct p k) = y) : fnd p y (k + 1) = some k := if_pos ⟨h, e⟩
theorem fnd_lt {p : Nat → Bool} {y : Int32} : ∀ {k q : Nat}, fnd p y k = some q → q < k ∧ p q = true ∧ nI (fb_ct p q) = y
  | 0, q, h => by cases h
  | k + 1, q, h => by
    by_cases c : p k = true ∧ nI (fb_ct p k) = y
    · rw [show fnd p y (k + 1) = some k from if_pos c] at h
      cases h
      exact ⟨Nat.lt_succ_self _, c⟩
    · rw [show fnd p y (k + 1) = fnd p y k from if_neg c] at h
      have := fnd_lt h
      exact ⟨by omega, this.2⟩
set_option maxHeartbeats 4000000 in
set_option maxRecDepth 100000 in
/-- reference: thrown -/
theorem m_thrown (l : Launch) (dG : va_G) (cI cJ : ClassId) (mo mN mD mP mH mR mQ mF mO : Nat) (near : Nat → Int64) (n ec : Nat) (bt : Bool) (dis par hubs rnks que far frm : Nat → Int32) (vi cu pu pn wn : Nat) (th : Int32) : Met l yX4_thrown wsX4_thrown ({ frames := 0, cells := 0, slots := 0, locals := 0 } : Room) (RPc dG cI cJ [.ref mo] (MW cI cJ mo mN mD mP mH mR mQ mF mO near (nI n) (nI ec) (bI bt) dis par hubs rnks que far frm (nI vi) (nI cu) (nI pu) (nI pn) (nI wn) th)) (vp_Si (fun r9 => r9 = th)) 0 0 (fun _ => False) := by
  refine Met.ofW (cc := cX4_thrown) (maxL := 1) (ret := (some .int)) (by decide) rfl ?_
  intro p e s m args below meth c s₁ B9 hml hv
  obtain ⟨rfl, hP, hK⟩ := hv
  have hx := B9.exec
  have hb := B9.bytes
  have hr := B9.returns
  have hts := atoms_spec (ws := wsX4_thrown) B9.pre
  have hown : s.vm.findClass RX4 = some m.cls := findClass_of_methodNamed B9.named
  have hlocks := B9.notSynchronized
  have hl := lv_entry ([.ref mo]) (n := 1) (Nat.le_of_ble_eq_true rfl)
  rw [lg_entry_eq]
  generalize (lg_sl ([.ref mo]) ++ List.replicate (1 - (lg_sl ([.ref mo])).length) Slot.unset).toArray = ls at hl ⊢
  have hl : lv_has ls 1 [(0, .ref mo)] := hl
  have hiX4 : ∀ w ∈ wsX40, w ∈ wsX4_thrown := by decide +kernel
  have hf35 := hts (.fieldLink RX4 35 "LandmarkLeaModel" "thrown" "I") (by decide +kernel)
  refine lv_aload_n hx hb dX4_thrown_0 rfl (lv_at hl 0 rfl) ?_
  refine va_get (D := dG) (ci := 4) (v := .int th) (C := RX4) (T := TX4) (N := 17) hx hb hts hiX4 hown hK.1 hP 0 rfl rfl 16 (by decide) hf35 (fun _ h9 => h9) rfl dX4_thrown_1 ?_
  exact W.iret (v := th) hx hb hr (fun t ht hW => ⟨_, rfl, rfl, ht⟩) (fun _ h => nomatch h) dX4_thrown_4

set_option maxHeartbeats 4000000 in
set_option maxRecDepth 100000 in
/-- reference: wrong -/
theorem m_wrong (l : Launch) (dG : va_G) (cI cJ : ClassId) (mo mN mD mP mH mR mQ mF mO : Nat) (near : Nat → Int64) (n ec : Nat) (bt : Bool) (dis par hubs rnks que far frm : Nat → Int32) (vi cu pu pn wn : Nat) (th : Int32) (hn : n < 2 ^ 31) (x y : Int32) : Met l yX4_wrong wsX4_wrong ({ frames := 1, cells := 0, slots := 0, locals := 21 } : Room) (RPc dG cI cJ [.ref mo, .int x, .int y] (MW cI cJ mo mN mD mP mH mR mQ mF mO near (nI n) (nI ec) (bI bt) dis par hubs rnks que far frm (nI vi) (nI cu) (nI pu) (nI pn) (nI wn) th)) (vp_Si (fun r9 => r9 = (nI (wr x y n bt)))) 0 0 (fun _ => False) := by
  refine Met.ofW (cc := cX4_wrong) (maxL := 3) (ret := (some .int)) (by decide) rfl ?_
  intro p e s m args below meth c s₁ B9 hml hv
  obtain ⟨rfl, hP, hK⟩ := hv
  have hx := B9.exec
  have hb := B9.bytes
  have hr := B9.returns
  have hts := atoms_spec (ws := wsX4_wrong) B9.pre
  have hown : s.vm.findClass RX4 = some m.cls := findClass_of_methodNamed B9.named
  have hlocks := B9.notSynchronized
  have hl := lv_entry ([.ref mo, .int x, .int y]) (n := 3) (Nat.le_of_ble_eq_true rfl)
  rw [lg_entry_eq]
  generalize (lg_sl ([.ref mo, .int x, .int y]) ++ List.replicate (3 - (lg_sl ([.ref mo, .int x, .int y])).length) Slot.unset).toArray = ls at hl ⊢
  have hl : lv_has ls 3 [(0, .ref mo), (1, .int x), (2, .int y)] := hl
  have hiX4 : ∀ w ∈ wsX40, w ∈ wsX4_wrong := by decide +kernel
  have hf91 := hts (.fieldLink RX4 91 "LandmarkLeaModel" "isBuilt" "Z") (by decide +kernel)
  refine lv_aload_n hx hb dX4_wrong_0 rfl (lv_at hl 0 rfl) ?_
  refine lv_iload_n hx hb dX4_wrong_1 rfl (lv_at hl 1 rfl) ?_
  have hPc := hP.sub (ws' := (MW cI cJ mo mN mD mP mH mR mQ mF mO near (nI n) (nI ec) (bI bt) dis par hubs rnks que far frm (nI vi) (nI cu) (nI pu) (nI pn) (nI wn) th)) [0, 1, 2, 3, 4, 5, 6, 7, 8] rfl
  refine x_ri (W.runV (As := [.int x]) (rest := []) ⟨hx, hb, hml, hown, hts⟩ (m_isVertex l dG cI cJ mo mN mD mP mH mR mQ mF mO near n ec bt dis par hubs rnks que far frm vi cu pu pn wn th hn x) (cwV 1 hts gX4_wrong_X4_isVertex rfl rfl rfl (by decide +kernel) ⟨Nat.le_of_ble_eq_true rfl, Nat.le_of_ble_eq_true rfl⟩) (RPc.pre hPc hK (va_recv hK.1 hPc (ci := 4) (q0 := 0) rfl rfl)) rfl rfl hl.1 rfl (lv_room (Nat.le_of_ble_eq_true rfl)) dX4_wrong_2 ⟨Nat.zero_le _, Nat.zero_le _⟩) ?_
  refine x_ifeqB (tgt := 16) hx hb dX4_wrong_5 (by decide) (fun c5 => ?_) (fun c5 => ?_)
  · skip
    refine lv_iconst (v := (nI 1)) hx hb dX4_wrong_16 (by decide) ?_
    refine lv_goto (tgt := 32) hx hb dX4_wrong_17 (by decide) ?_
    exact W.iret (v := (nI 1)) hx hb hr (fun t ht hW => ⟨_, rfl, (show (nI 1) = (nI (wr x y n bt)) from by unfold wr; rw [c5]; rfl), ht⟩) (fun _ h => nomatch h) dX4_wrong_32
  · skip
    refine lv_aload_n hx hb dX4_wrong_8 rfl (lv_at hl 0 rfl) ?_
    refine lv_iload_n hx hb dX4_wrong_9 rfl (lv_at hl 2 rfl) ?_
    have hPc := hP.sub (ws' := (MW cI cJ mo mN mD mP mH mR mQ mF mO near (nI n) (nI ec) (bI bt) dis par hubs rnks que far frm (nI vi) (nI cu) (nI pu) (nI pn) (nI wn) th)) [0, 1, 2, 3, 4, 5, 6, 7, 8] rfl
    refine x_ri (W.runV (As := [.int y]) (rest := []) ⟨hx, hb, hml, hown, hts⟩ (m_isVertex l dG cI cJ mo mN mD mP mH mR mQ mF mO near n ec bt dis par hubs rnks que far frm vi cu pu pn wn th hn y) (cwV 1 hts gX4_wrong_X4_isVertex rfl rfl rfl (by decide +kernel) ⟨Nat.le_of_ble_eq_true rfl, Nat.le_of_ble_eq_true rfl⟩) (RPc.pre hPc hK (va_recv hK.1 hPc (ci := 4) (q0 := 0) rfl rfl)) rfl rfl hl.1 rfl (lv_room (Nat.le_of_ble_eq_true rfl)) dX4_wrong_10 ⟨Nat.zero_le _, Nat.zero_le _⟩) ?_
    refine x_ifneB (tgt := 20) hx hb dX4_wrong_13 (by decide) (fun c13 => ?_) (fun c13 => ?_)
    · skip
      refine lv_aload_n hx hb dX4_wrong_20 rfl (lv_at hl 0 rfl) ?_
      refine va_get (D := dG) (ci := 4) (v := .int (bI bt)) (C := RX4) (T := TX4) (N := 17) hx hb hts hiX4 hown hK.1 hP 0 rfl rfl 3 (by decide) hf91 (fun _ h9 => h9) rfl dX4_wrong_21 ?_
      refine x_ifeqB (tgt := 31) hx hb dX4_wrong_24 (by decide) (fun c24 => ?_) (fun c24 => ?_)
      · skip
        refine lv_iconst (v := (nI 2)) hx hb dX4_wrong_31 (by decide) ?_
        exact W.iret (v := (nI 2)) hx hb hr (fun t ht hW => ⟨_, rfl, (show (nI 2) = (nI (wr x y n bt)) from by unfold wr; rw [c5, c13, c24]; rfl), ht⟩) (fun _ h => nomatch h) dX4_wrong_32
      · skip
        refine lv_iconst (v := (nI 0)) hx hb dX4_wrong_27 (by decide) ?_
        refine lv_goto (tgt := 32) hx hb dX4_wrong_28 (by decide) ?_
        exact W.iret (v := (nI 0)) hx hb hr (fun t ht hW => ⟨_, rfl, (show (nI 0) = (nI (wr x y n bt)) from by unfold wr; rw [c5, c13, c24]; rfl), ht⟩) (fun _ h => nomatch h) dX4_wrong_32
    · skip
      refine lv_iconst (v := (nI 1)) hx hb dX4_wrong_16 (by decide) ?_
      refine lv_goto (tgt := 32) hx hb dX4_wrong_17 (by decide) ?_
      exact W.iret (v := (nI 1)) hx hb hr (fun t ht hW => ⟨_, rfl, (show (nI 1) = (nI (wr x y n bt)) from by unfold wr; rw [c5, c13]; rfl), ht⟩) (fun _ h => nomatch h) dX4_wrong_32

set_option maxHeartbeats 4000000 in
set_option maxRecDepth 100000 in
/-- reference: rank -/
theorem m_rankX (l : Launch) (dG : va_G) (cI cJ : ClassId) (A : Nat → Prop) (mo mN mD mP mH mR mQ mF mO : Nat) (near : Nat → Int64) (n ec : Nat) (bt : Bool) (dis par hubs rnks que far frm : Nat → Int32) (vi cu pu pn wn : Nat) (th : Int32) (x : Int32) (hn : n ≤ 48) (w : Nat) (hw9 : w < 4) (hne : ¬ w = 0) (hw0 : wr x x n bt = w) (X : va_W) : Met l yX4_rank wsX4_rank ({ frames := 2, cells := 0, slots := 0, locals := 43 } : Room) (WPc dG cI cJ [.ref mo, .int x] (MW cI cJ mo mN mD mP mH mR mQ mF mO near (nI n) (nI ec) (bI bt) dis par hubs rnks que far frm (nI vi) (nI cu) (nI pu) (nI pn) (nI wn) th ++ X) A) (va_Qi (S := Unit) (fun r _ => r = nI 0) (fun _ => WB dG A (MW cI cJ mo mN mD mP mH mR mQ mF mO near (nI n) (nI ec) (bI bt) dis par hubs rnks que far frm (nI vi) (nI cu) (nI pu) (nI pn) (nI wn) (nI w) ++ X)) A) 0 0 A := by
  refine Met.ofW (cc := cX4_rank) (maxL := 2) (ret := (some .int)) (by decide) rfl ?_
  intro p e s m args below meth c s₁ B9 hml hv
  obtain ⟨rfl, hP, hK, hD⟩ := hv
  have hx := B9.exec
  have hb := B9.bytes
  have hr := B9.returns
  have hts := atoms_spec (ws := wsX4_rank) B9.pre
  have hown : s.vm.findClass RX4 = some m.cls := findClass_of_methodNamed B9.named
  have hlocks := B9.notSynchronized
  have hS : va_S A s.heap s.heap [] := va_S.rf
  have hl := lv_entry ([.ref mo, .int x]) (n := 2) (Nat.le_of_ble_eq_true rfl)
  rw [lg_entry_eq]
  generalize (lg_sl ([.ref mo, .int x]) ++ List.replicate (2 - (lg_sl ([.ref mo, .int x])).length) Slot.unset).toArray = ls at hl ⊢
  have hl : lv_has ls 2 [(0, .ref mo), (1, .int x)] := hl
  have hiX4 : ∀ w ∈ wsX40, w ∈ wsX4_rank := by decide +kernel
  have hf23 := hts (.fieldLink RX4 23 "LandmarkLeaModel" "ranks" "[I") (by decide +kernel)
  refine lv_aload_n hx hb dX4_rank_0 rfl (lv_at hl 0 rfl) ?_
  refine lv_aload_n hx hb dX4_rank_1 rfl (lv_at hl 0 rfl) ?_
  refine lv_iload_n hx hb dX4_rank_2 rfl (lv_at hl 1 rfl) ?_
  refine lv_iload_n hx hb dX4_rank_3 rfl (lv_at hl 1 rfl) ?_
  have hPc := hP.sub (ws' := (MW cI cJ mo mN mD mP mH mR mQ mF mO near (nI n) (nI ec) (bI bt) dis par hubs rnks que far frm (nI vi) (nI cu) (nI pu) (nI pn) (nI wn) th)) [0, 1, 2, 3, 4, 5, 6, 7, 8] rfl
  refine x_ri (W.runV (As := [.int x, .int x]) (rest := [.ref mo]) ⟨hx, hb, hml, hown, hts⟩ (m_wrong l dG cI cJ mo mN mD mP mH mR mQ mF mO near n ec bt dis par hubs rnks que far frm vi cu pu pn wn th (by omega) x x) (cwV 2 hts gX4_rank_X4_wrong rfl rfl rfl (by decide +kernel) ⟨Nat.le_of_ble_eq_true rfl, Nat.le_of_ble_eq_true rfl⟩) (RPc.pre hPc hK (va_recv hK.1 hPc (ci := 4) (q0 := 0) rfl rfl)) rfl rfl hl.1 rfl (lv_room (Nat.le_of_ble_eq_true rfl)) dX4_rank_4 ⟨Nat.zero_le _, Nat.zero_le _⟩) ?_
  rw [hw0]
  have hPc : va_P dG vwCl (MW cI cJ mo mN mD mP mH mR mQ mF mO near (nI n) (nI ec) (bI bt) dis par hubs rnks que far frm (nI vi) (nI cu) (nI pu) (nI pn) (nI wn) th ++ X) s.heap := hP
  have hDc : va_D A (MW cI cJ mo mN mD mP mH mR mQ mF mO near (nI n) (nI ec) (bI bt) dis par hubs rnks que far frm (nI vi) (nI cu) (nI pu) (nI pn) (nI wn) th ++ X) := hD
  refine va_calli (va_runV (As := [.int (nI w)]) (rest := []) ⟨hx, hb, hml, hown, hts⟩ (m_goes l dG cI cJ A mo mN mD mP mH mR mQ mF mO near n ec bt dis par hubs rnks que far frm vi cu pu pn wn th w (by omega) _) (cwV 1 hts gX4_rank_X4_goes rfl rfl rfl (by decide +kernel) ⟨Nat.le_of_ble_eq_true rfl, Nat.le_of_ble_eq_true rfl⟩) (WPc.pre hPc hDc hK (va_recv hK.1 hPc (ci := 4) (q0 := 0) rfl rfl)) rfl rfl hl.1 rfl (lv_room (Nat.le_of_ble_eq_true rfl)) dX4_rank_7 ⟨Nat.zero_le _, Nat.zero_le _⟩) hS (fun q _ h => h) (fun q h => h) (fun r9 u9 t H locs ht hvm hw hB hz1 hk1 hS => ?_)
  obtain ⟨hP, hD⟩ := hB
  rw [ht] at hP
  have hP : va_P dG vwCl (MW cI cJ mo mN mD mP mH mR mQ mF mO near (nI n) (nI ec) (bI bt) dis par hubs rnks que far frm (nI vi) (nI cu) (nI pu) (nI pn) (nI wn) (nI w) ++ X) H := hP
  have hD : va_D A (MW cI cJ mo mN mD mP mH mR mQ mF mO near (nI n) (nI ec) (bI bt) dis par hubs rnks que far frm (nI vi) (nI cu) (nI pu) (nI pn) (nI wn) (nI w) ++ X) := hD
  rw [show r9 = bI false from hw.trans (by rw [decide_eq_false hne])]
  refine x_ifeqB (tgt := 22) hx hb dX4_rank_10 (by decide) (fun h9 => ?_) (fun h9 => absurd h9 (by decide))
  refine lv_iconst (v := (nI 0)) hx hb dX4_rank_22 (by decide) ?_
  exact W.iret (v := (nI 0)) hx hb hr (fun t ht hW => ⟨⟨_, (), rfl, rfl, by rw [ht]; exact hP, hD⟩, hS.F ht⟩) hS.2.2 dX4_rank_23

set_option maxHeartbeats 4000000 in
set_option maxRecDepth 100000 in
/-- reference: rank -/
theorem m_rank (l : Launch) (dG : va_G) (cI cJ : ClassId) (A : Nat → Prop) (mo mN mD mP mH mR mQ mF mO : Nat) (near : Nat → Int64) (n ec : Nat) (bt : Bool) (dis par hubs rnks que far frm : Nat → Int32) (vi cu pu pn wn : Nat) (th : Int32) (hn : n ≤ 48) (u : Nat) (hu : u < n) (hw0 : wr (nI u) (nI u) n bt = 0) (X : va_W) : Met l yX4_rank wsX4_rank ({ frames := 2, cells := 0, slots := 0, locals := 43 } : Room) (WPc dG cI cJ [.ref mo, .int (nI u)] (MW cI cJ mo mN mD mP mH mR mQ mF mO near (nI n) (nI ec) (bI bt) dis par hubs rnks que far frm (nI vi) (nI cu) (nI pu) (nI pn) (nI wn) th ++ X) A) (va_Qi (S := Unit) (fun r _ => r = rnks u) (fun _ => WB dG A (MW cI cJ mo mN mD mP mH mR mQ mF mO near (nI n) (nI ec) (bI bt) dis par hubs rnks que far frm (nI vi) (nI cu) (nI pu) (nI pn) (nI wn) (nI 0) ++ X)) A) 0 0 A := by
  refine Met.ofW (cc := cX4_rank) (maxL := 2) (ret := (some .int)) (by decide) rfl ?_
  intro p e s m args below meth c s₁ B9 hml hv
  obtain ⟨rfl, hP, hK, hD⟩ := hv
  have hx := B9.exec
  have hb := B9.bytes
  have hr := B9.returns
  have hts := atoms_spec (ws := wsX4_rank) B9.pre
  have hown : s.vm.findClass RX4 = some m.cls := findClass_of_methodNamed B9.named
  have hlocks := B9.notSynchronized
  have hS : va_S A s.heap s.heap [] := va_S.rf
  have hl := lv_entry ([.ref mo, .int (nI u)]) (n := 2) (Nat.le_of_ble_eq_true rfl)
  rw [lg_entry_eq]
  generalize (lg_sl ([.ref mo, .int (nI u)]) ++ List.replicate (2 - (lg_sl ([.ref mo, .int (nI u)])).length) Slot.unset).toArray = ls at hl ⊢
  have hl : lv_has ls 2 [(0, .ref mo), (1, .int (nI u))] := hl
  have hiX4 : ∀ w ∈ wsX40, w ∈ wsX4_rank := by decide +kernel
  have hf23 := hts (.fieldLink RX4 23 "LandmarkLeaModel" "ranks" "[I") (by decide +kernel)
  refine lv_aload_n hx hb dX4_rank_0 rfl (lv_at hl 0 rfl) ?_
  refine lv_aload_n hx hb dX4_rank_1 rfl (lv_at hl 0 rfl) ?_
  refine lv_iload_n hx hb dX4_rank_2 rfl (lv_at hl 1 rfl) ?_
  refine lv_iload_n hx hb dX4_rank_3 rfl (lv_at hl 1 rfl) ?_
  have hPc := hP.sub (ws' := (MW cI cJ mo mN mD mP mH mR mQ mF mO near (nI n) (nI ec) (bI bt) dis par hubs rnks que far frm (nI vi) (nI cu) (nI pu) (nI pn) (nI wn) th)) [0, 1, 2, 3, 4, 5, 6, 7, 8] rfl
  refine x_ri (W.runV (As := [.int (nI u), .int (nI u)]) (rest := [.ref mo]) ⟨hx, hb, hml, hown, hts⟩ (m_wrong l dG cI cJ mo mN mD mP mH mR mQ mF mO near n ec bt dis par hubs rnks que far frm vi cu pu pn wn th (by omega) (nI u) (nI u)) (cwV 2 hts gX4_rank_X4_wrong rfl rfl rfl (by decide +kernel) ⟨Nat.le_of_ble_eq_true rfl, Nat.le_of_ble_eq_true rfl⟩) (RPc.pre hPc hK (va_recv hK.1 hPc (ci := 4) (q0 := 0) rfl rfl)) rfl rfl hl.1 rfl (lv_room (Nat.le_of_ble_eq_true rfl)) dX4_rank_4 ⟨Nat.zero_le _, Nat.zero_le _⟩) ?_
  rw [hw0]
  have hPc : va_P dG vwCl (MW cI cJ mo mN mD mP mH mR mQ mF mO near (nI n) (nI ec) (bI bt) dis par hubs rnks que far frm (nI vi) (nI cu) (nI pu) (nI pn) (nI wn) th ++ X) s.heap := hP
  have hDc : va_D A (MW cI cJ mo mN mD mP mH mR mQ mF mO near (nI n) (nI ec) (bI bt) dis par hubs rnks que far frm (nI vi) (nI cu) (nI pu) (nI pn) (nI wn) th ++ X) := hD
  refine va_calli (va_runV (As := [.int (nI 0)]) (rest := []) ⟨hx, hb, hml, hown, hts⟩ (m_goes l dG cI cJ A mo mN mD mP mH mR mQ mF mO near n ec bt dis par hubs rnks que far frm vi cu pu pn wn th 0 (by omega) _) (cwV 1 hts gX4_rank_X4_goes rfl rfl rfl (by decide +kernel) ⟨Nat.le_of_ble_eq_true rfl, Nat.le_of_ble_eq_true rfl⟩) (WPc.pre hPc hDc hK (va_recv hK.1 hPc (ci := 4) (q0 := 0) rfl rfl)) rfl rfl hl.1 rfl (lv_room (Nat.le_of_ble_eq_true rfl)) dX4_rank_7 ⟨Nat.zero_le _, Nat.zero_le _⟩) hS (fun q _ h => h) (fun q h => h) (fun r9 u9 t H locs ht hvm hw hB hz1 hk1 hS => ?_)
  obtain ⟨hP, hD⟩ := hB
  rw [ht] at hP
  have hP : va_P dG vwCl (MW cI cJ mo mN mD mP mH mR mQ mF mO near (nI n) (nI ec) (bI bt) dis par hubs rnks que far frm (nI vi) (nI cu) (nI pu) (nI pn) (nI wn) (nI 0) ++ X) H := hP
  have hD : va_D A (MW cI cJ mo mN mD mP mH mR mQ mF mO near (nI n) (nI ec) (bI bt) dis par hubs rnks que far frm (nI vi) (nI cu) (nI pu) (nI pn) (nI wn) (nI 0) ++ X) := hD
  rw [show r9 = bI true from hw]
  refine x_ifeqB (tgt := 22) hx hb dX4_rank_10 (by decide) (fun h9 => absurd h9 (by decide)) (fun h9 => ?_)
  refine lv_aload_n hx hb dX4_rank_13 rfl (lv_at hl 0 rfl) ?_
  refine va_get (D := dG) (ci := 4) (v := .ref mR) (C := RX4) (T := TX4) (N := 17) hx hb hts hiX4 hown hK.1 hP 0 rfl rfl 7 (by decide) hf23 (fun _ h9 => h9) rfl dX4_rank_14 ?_
  refine lv_iload_n hx hb dX4_rank_17 rfl (lv_at hl 1 rfl) ?_
  refine x_iald (f := rnks) hx hb hK hP 5 rfl (by omega) (by decide) dX4_rank_18 ?_
  refine lv_goto (tgt := 23) hx hb dX4_rank_19 (by decide) ?_
  exact W.iret (v := (rnks u)) hx hb hr (fun t ht hW => ⟨⟨_, (), rfl, rfl, by rw [ht]; exact hP, hD⟩, hS.F ht⟩) hS.2.2 dX4_rank_23

set_option maxHeartbeats 4000000 in
set_option maxRecDepth 100000 in
/-- reference: labelSize -/
theorem m_labelSizeX (l : Launch) (dG : va_G) (cI cJ : ClassId) (A : Nat → Prop) (mo mN mD mP mH mR mQ mF mO : Nat) (near : Nat → Int64) (n ec : Nat) (bt : Bool) (dis par hubs rnks que far frm : Nat → Int32) (vi cu pu pn wn : Nat) (th : Int32) (x : Int32) (hn : n ≤ 48) (w : Nat) (hw9 : w < 4) (hne : ¬ w = 0) (hw0 : wr x x n bt = w) (X : va_W) : Met l yX4_labelSize wsX4_labelSize ({ frames := 2, cells := 0, slots := 0, locals := 46 } : Room) (WPc dG cI cJ [.ref mo, .int x] (MW cI cJ mo mN mD mP mH mR mQ mF mO near (nI n) (nI ec) (bI bt) dis par hubs rnks que far frm (nI vi) (nI cu) (nI pu) (nI pn) (nI wn) th ++ X) A) (va_Qi (S := Unit) (fun r _ => r = nI 0) (fun _ => WB dG A (MW cI cJ mo mN mD mP mH mR mQ mF mO near (nI n) (nI ec) (bI bt) dis par hubs rnks que far frm (nI vi) (nI cu) (nI pu) (nI pn) (nI wn) (nI w) ++ X)) A) 0 0 A := by
  refine Met.ofW (cc := cX4_labelSize) (maxL := 2) (ret := (some .int)) (by decide) rfl ?_
  intro p e s m args below meth c s₁ B9 hml hv
  obtain ⟨rfl, hP, hK, hD⟩ := hv
  have hx := B9.exec
  have hb := B9.bytes
  have hr := B9.returns
  have hts := atoms_spec (ws := wsX4_labelSize) B9.pre
  have hown : s.vm.findClass RX4 = some m.cls := findClass_of_methodNamed B9.named
  have hlocks := B9.notSynchronized
  have hS : va_S A s.heap s.heap [] := va_S.rf
  have hl := lv_entry ([.ref mo, .int x]) (n := 2) (Nat.le_of_ble_eq_true rfl)
  rw [lg_entry_eq]
  generalize (lg_sl ([.ref mo, .int x]) ++ List.replicate (2 - (lg_sl ([.ref mo, .int x])).length) Slot.unset).toArray = ls at hl ⊢
  have hl : lv_has ls 2 [(0, .ref mo), (1, .int x)] := hl
  refine lv_aload_n hx hb dX4_labelSize_0 rfl (lv_at hl 0 rfl) ?_
  refine lv_aload_n hx hb dX4_labelSize_1 rfl (lv_at hl 0 rfl) ?_
  refine lv_iload_n hx hb dX4_labelSize_2 rfl (lv_at hl 1 rfl) ?_
  refine lv_iload_n hx hb dX4_labelSize_3 rfl (lv_at hl 1 rfl) ?_
  have hPc := hP.sub (ws' := (MW cI cJ mo mN mD mP mH mR mQ mF mO near (nI n) (nI ec) (bI bt) dis par hubs rnks que far frm (nI vi) (nI cu) (nI pu) (nI pn) (nI wn) th)) [0, 1, 2, 3, 4, 5, 6, 7, 8] rfl
  refine x_ri (W.runV (As := [.int x, .int x]) (rest := [.ref mo]) ⟨hx, hb, hml, hown, hts⟩ (m_wrong l dG cI cJ mo mN mD mP mH mR mQ mF mO near n ec bt dis par hubs rnks que far frm vi cu pu pn wn th (by omega) x x) (cwV 2 hts gX4_labelSize_X4_wrong rfl rfl rfl (by decide +kernel) ⟨Nat.le_of_ble_eq_true rfl, Nat.le_of_ble_eq_true rfl⟩) (RPc.pre hPc hK (va_recv hK.1 hPc (ci := 4) (q0 := 0) rfl rfl)) rfl rfl hl.1 rfl (lv_room (Nat.le_of_ble_eq_true rfl)) dX4_labelSize_4 ⟨Nat.zero_le _, Nat.zero_le _⟩) ?_
  rw [hw0]
  have hPc : va_P dG vwCl (MW cI cJ mo mN mD mP mH mR mQ mF mO near (nI n) (nI ec) (bI bt) dis par hubs rnks que far frm (nI vi) (nI cu) (nI pu) (nI pn) (nI wn) th ++ X) s.heap := hP
  have hDc : va_D A (MW cI cJ mo mN mD mP mH mR mQ mF mO near (nI n) (nI ec) (bI bt) dis par hubs rnks que far frm (nI vi) (nI cu) (nI pu) (nI pn) (nI wn) th ++ X) := hD
  refine va_calli (va_runV (As := [.int (nI w)]) (rest := []) ⟨hx, hb, hml, hown, hts⟩ (m_goes l dG cI cJ A mo mN mD mP mH mR mQ mF mO near n ec bt dis par hubs rnks que far frm vi cu pu pn wn th w (by omega) _) (cwV 1 hts gX4_labelSize_X4_goes rfl rfl rfl (by decide +kernel) ⟨Nat.le_of_ble_eq_true rfl, Nat.le_of_ble_eq_true rfl⟩) (WPc.pre hPc hDc hK (va_recv hK.1 hPc (ci := 4) (q0 := 0) rfl rfl)) rfl rfl hl.1 rfl (lv_room (Nat.le_of_ble_eq_true rfl)) dX4_labelSize_7 ⟨Nat.zero_le _, Nat.zero_le _⟩) hS (fun q _ h => h) (fun q h => h) (fun r9 u9 t H locs ht hvm hw hB hz1 hk1 hS => ?_)
  obtain ⟨hP, hD⟩ := hB
  rw [ht] at hP
  have hP : va_P dG vwCl (MW cI cJ mo mN mD mP mH mR mQ mF mO near (nI n) (nI ec) (bI bt) dis par hubs rnks que far frm (nI vi) (nI cu) (nI pu) (nI pn) (nI wn) (nI w) ++ X) H := hP
  have hD : va_D A (MW cI cJ mo mN mD mP mH mR mQ mF mO near (nI n) (nI ec) (bI bt) dis par hubs rnks que far frm (nI vi) (nI cu) (nI pu) (nI pn) (nI wn) (nI w) ++ X) := hD
  rw [show r9 = bI false from hw.trans (by rw [decide_eq_false hne])]
  refine x_ifeqB (tgt := 22) hx hb dX4_labelSize_10 (by decide) (fun h9 => ?_) (fun h9 => absurd h9 (by decide))
  refine lv_iconst (v := (nI 0)) hx hb dX4_labelSize_22 (by decide) ?_
  exact W.iret (v := (nI 0)) hx hb hr (fun t ht hW => ⟨⟨_, (), rfl, rfl, by rw [ht]; exact hP, hD⟩, hS.F ht⟩) hS.2.2 dX4_labelSize_23

set_option maxHeartbeats 4000000 in
set_option maxRecDepth 100000 in
/-- reference: labelSize -/
theorem m_labelSize (l : Launch) (dG : va_G) (cI cJ : ClassId) (A : Nat → Prop) (mo mN mD mP mH mR mQ mF mO : Nat) (near : Nat → Int64) (n ec : Nat) (bt : Bool) (dis par hubs rnks que far frm : Nat → Int32) (vi cu pu pn wn : Nat) (th : Int32) (L P : Nat → Nat → Option Nat) (hR : RepM 0 L P dis par) (hB : LBd L (2 ^ 30)) (hn : n ≤ 48) (u : Nat) (hu : u < n) (hw0 : wr (nI u) (nI u) n bt = 0) (X : va_W) : Met l yX4_labelSize wsX4_labelSize ({ frames := 2, cells := 0, slots := 0, locals := 46 } : Room) (WPc dG cI cJ [.ref mo, .int (nI u)] (MW cI cJ mo mN mD mP mH mR mQ mF mO near (nI n) (nI ec) (bI bt) dis par hubs rnks que far frm (nI vi) (nI cu) (nI pu) (nI pn) (nI wn) th ++ X) A) (va_Qi (S := Unit) (fun r _ => r = nI (fb_ct (fun k => (L u k).isSome) n)) (fun _ => WB dG A (MW cI cJ mo mN mD mP mH mR mQ mF mO near (nI n) (nI ec) (bI bt) dis par hubs rnks que far frm (nI vi) (nI cu) (nI pu) (nI pn) (nI wn) (nI 0) ++ X)) A) 0 0 A := by
  refine Met.ofW (cc := cX4_labelSize) (maxL := 2) (ret := (some .int)) (by decide) rfl ?_
  intro p e s m args below meth c s₁ B9 hml hv
  obtain ⟨rfl, hP, hK, hD⟩ := hv
  have hx := B9.exec
  have hb := B9.bytes
  have hr := B9.returns
  have hts := atoms_spec (ws := wsX4_labelSize) B9.pre
  have hown : s.vm.findClass RX4 = some m.cls := findClass_of_methodNamed B9.named
  have hlocks := B9.notSynchronized
  have hS : va_S A s.heap s.heap [] := va_S.rf
  have hl := lv_entry ([.ref mo, .int (nI u)]) (n := 2) (Nat.le_of_ble_eq_true rfl)
  rw [lg_entry_eq]
  generalize (lg_sl ([.ref mo, .int (nI u)]) ++ List.replicate (2 - (lg_sl ([.ref mo, .int (nI u)])).length) Slot.unset).toArray = ls at hl ⊢
  have hl : lv_has ls 2 [(0, .ref mo), (1, .int (nI u))] := hl
  refine lv_aload_n hx hb dX4_labelSize_0 rfl (lv_at hl 0 rfl) ?_
  refine lv_aload_n hx hb dX4_labelSize_1 rfl (lv_at hl 0 rfl) ?_
  refine lv_iload_n hx hb dX4_labelSize_2 rfl (lv_at hl 1 rfl) ?_
  refine lv_iload_n hx hb dX4_labelSize_3 rfl (lv_at hl 1 rfl) ?_
  have hPc := hP.sub (ws' := (MW cI cJ mo mN mD mP mH mR mQ mF mO near (nI n) (nI ec) (bI bt) dis par hubs rnks que far frm (nI vi) (nI cu) (nI pu) (nI pn) (nI wn) th)) [0, 1, 2, 3, 4, 5, 6, 7, 8] rfl
  refine x_ri (W.runV (As := [.int (nI u), .int (nI u)]) (rest := [.ref mo]) ⟨hx, hb, hml, hown, hts⟩ (m_wrong l dG cI cJ mo mN mD mP mH mR mQ mF mO near n ec bt dis par hubs rnks que far frm vi cu pu pn wn th (by omega) (nI u) (nI u)) (cwV 2 hts gX4_labelSize_X4_wrong rfl rfl rfl (by decide +kernel) ⟨Nat.le_of_ble_eq_true rfl, Nat.le_of_ble_eq_true rfl⟩) (RPc.pre hPc hK (va_recv hK.1 hPc (ci := 4) (q0 := 0) rfl rfl)) rfl rfl hl.1 rfl (lv_room (Nat.le_of_ble_eq_true rfl)) dX4_labelSize_4 ⟨Nat.zero_le _, Nat.zero_le _⟩) ?_
  rw [hw0]
  have hPc : va_P dG vwCl (MW cI cJ mo mN mD mP mH mR mQ mF mO near (nI n) (nI ec) (bI bt) dis par hubs rnks que far frm (nI vi) (nI cu) (nI pu) (nI pn) (nI wn) th ++ X) s.heap := hP
  have hDc : va_D A (MW cI cJ mo mN mD mP mH mR mQ mF mO near (nI n) (nI ec) (bI bt) dis par hubs rnks que far frm (nI vi) (nI cu) (nI pu) (nI pn) (nI wn) th ++ X) := hD
  refine va_calli (va_runV (As := [.int (nI 0)]) (rest := []) ⟨hx, hb, hml, hown, hts⟩ (m_goes l dG cI cJ A mo mN mD mP mH mR mQ mF mO near n ec bt dis par hubs rnks que far frm vi cu pu pn wn th 0 (by omega) _) (cwV 1 hts gX4_labelSize_X4_goes rfl rfl rfl (by decide +kernel) ⟨Nat.le_of_ble_eq_true rfl, Nat.le_of_ble_eq_true rfl⟩) (WPc.pre hPc hDc hK (va_recv hK.1 hPc (ci := 4) (q0 := 0) rfl rfl)) rfl rfl hl.1 rfl (lv_room (Nat.le_of_ble_eq_true rfl)) dX4_labelSize_7 ⟨Nat.zero_le _, Nat.zero_le _⟩) hS (fun q _ h => h) (fun q h => h) (fun r9 u9 t H locs ht hvm hw hB hz1 hk1 hS => ?_)
  obtain ⟨hP, hD⟩ := hB
  rw [ht] at hP
  have hP : va_P dG vwCl (MW cI cJ mo mN mD mP mH mR mQ mF mO near (nI n) (nI ec) (bI bt) dis par hubs rnks que far frm (nI vi) (nI cu) (nI pu) (nI pn) (nI wn) (nI 0) ++ X) H := hP
  have hD : va_D A (MW cI cJ mo mN mD mP mH mR mQ mF mO near (nI n) (nI ec) (bI bt) dis par hubs rnks que far frm (nI vi) (nI cu) (nI pu) (nI pn) (nI wn) (nI 0) ++ X) := hD
  rw [show r9 = bI true from hw]
  refine x_ifeqB (tgt := 22) hx hb dX4_labelSize_10 (by decide) (fun h9 => absurd h9 (by decide)) (fun h9 => ?_)
  refine lv_aload_n hx hb dX4_labelSize_13 rfl (lv_at hl 0 rfl) ?_
  refine lv_iconst (v := (nI 0)) hx hb dX4_labelSize_14 (by decide) ?_
  refine lv_iload_n hx hb dX4_labelSize_15 rfl (lv_at hl 1 rfl) ?_
  have hPc := hP.sub (ws' := (MW cI cJ mo mN mD mP mH mR mQ mF mO near (nI n) (nI ec) (bI bt) dis par hubs rnks que far frm (nI vi) (nI cu) (nI pu) (nI pn) (nI wn) (nI 0))) [0, 1, 2, 3, 4, 5, 6, 7, 8] rfl
  refine x_ri (W.runV (As := [.int (nI 0), .int (nI u)]) (rest := []) ⟨hx, hb, hml, hown, hts⟩ (m_size l dG cI cJ mo mN mD mP mH mR mQ mF mO near n ec bt dis par hubs rnks que far frm vi cu pu pn wn (nI 0) 0 (by omega) L P hR hB hn u (by omega)) (cwV 2 hts gX4_labelSize_X4_size rfl rfl rfl (by decide +kernel) ⟨Nat.le_of_ble_eq_true rfl, Nat.le_of_ble_eq_true rfl⟩) (RPc.pre hPc hK (va_recv hK.1 hPc (ci := 4) (q0 := 0) rfl rfl)) rfl rfl hl.1 rfl (lv_room (Nat.le_of_ble_eq_true rfl)) dX4_labelSize_16 ⟨Nat.zero_le _, Nat.zero_le _⟩) ?_
  refine lv_goto (tgt := 23) hx hb dX4_labelSize_19 (by decide) ?_
  exact W.iret (v := (nI (fb_ct (fun k => (L u k).isSome) n))) hx hb hr (fun t ht hW => ⟨⟨_, (), rfl, rfl, by rw [ht]; exact hP, hD⟩, hS.F ht⟩) hS.2.2 dX4_labelSize_23

set_option maxHeartbeats 4000000 in
set_option maxRecDepth 100000 in
/-- reference: asksEntry -/
theorem m_asksEntryX (l : Launch) (dG : va_G) (cI cJ : ClassId) (A : Nat → Prop) (mo mN mD mP mH mR mQ mF mO : Nat) (near : Nat → Int64) (n ec : Nat) (bt : Bool) (dis par hubs rnks que far frm : Nat → Int32) (vi cu pu pn wn : Nat) (th : Int32) (x y : Int32) (hn : n ≤ 48) (w : Nat) (hw9 : w < 4) (hne : ¬ w = 0) (hw0 : wr x x n bt = w) (X : va_W) : Met l yX4_asksEntry wsX4_asksEntry ({ frames := 2, cells := 0, slots := 0, locals := 43 } : Room) (WPc dG cI cJ [.ref mo, .int x, .int y] (MW cI cJ mo mN mD mP mH mR mQ mF mO near (nI n) (nI ec) (bI bt) dis par hubs rnks que far frm (nI vi) (nI cu) (nI pu) (nI pn) (nI wn) th ++ X) A) (va_Qi (S := Unit) (fun r _ => r = -1) (fun _ => WB dG A (MW cI cJ mo mN mD mP mH mR mQ mF mO near (nI n) (nI ec) (bI bt) dis par hubs rnks que far frm (nI vi) (nI cu) (nI pu) (nI pn) (nI wn) (nI w) ++ X)) A) 0 0 A := by
  refine Met.ofW (cc := cX4_asksEntry) (maxL := 7) (ret := (some .int)) (by decide) rfl ?_
  intro p e s m args below meth c s₁ B9 hml hv
  obtain ⟨rfl, hP, hK, hD⟩ := hv
  have hx := B9.exec
  have hb := B9.bytes
  have hr := B9.returns
  have hts := atoms_spec (ws := wsX4_asksEntry) B9.pre
  have hown : s.vm.findClass RX4 = some m.cls := findClass_of_methodNamed B9.named
  have hlocks := B9.notSynchronized
  have hS : va_S A s.heap s.heap [] := va_S.rf
  have hl := lv_entry ([.ref mo, .int x, .int y]) (n := 7) (Nat.le_of_ble_eq_true rfl)
  rw [lg_entry_eq]
  generalize (lg_sl ([.ref mo, .int x, .int y]) ++ List.replicate (7 - (lg_sl ([.ref mo, .int x, .int y])).length) Slot.unset).toArray = ls at hl ⊢
  have hl : lv_has ls 7 [(0, .ref mo), (1, .int x), (2, .int y)] := hl
  have hiX4 : ∀ w ∈ wsX40, w ∈ wsX4_asksEntry := by decide +kernel
  have hf13 := hts (.fieldLink RX4 13 "LandmarkLeaModel" "distances" "[I") (by decide +kernel)
  have hf39 := hts (.fieldLink RX4 39 "LandmarkLeaModel" "many" "I") (by decide +kernel)
  refine lv_aload_n hx hb dX4_asksEntry_0 rfl (lv_at hl 0 rfl) ?_
  refine lv_aload_n hx hb dX4_asksEntry_1 rfl (lv_at hl 0 rfl) ?_
  refine lv_iload_n hx hb dX4_asksEntry_2 rfl (lv_at hl 1 rfl) ?_
  refine lv_iload_n hx hb dX4_asksEntry_3 rfl (lv_at hl 1 rfl) ?_
  have hPc := hP.sub (ws' := (MW cI cJ mo mN mD mP mH mR mQ mF mO near (nI n) (nI ec) (bI bt) dis par hubs rnks que far frm (nI vi) (nI cu) (nI pu) (nI pn) (nI wn) th)) [0, 1, 2, 3, 4, 5, 6, 7, 8] rfl
  refine x_ri (W.runV (As := [.int x, .int x]) (rest := [.ref mo]) ⟨hx, hb, hml, hown, hts⟩ (m_wrong l dG cI cJ mo mN mD mP mH mR mQ mF mO near n ec bt dis par hubs rnks que far frm vi cu pu pn wn th (by omega) x x) (cwV 2 hts gX4_asksEntry_X4_wrong rfl rfl rfl (by decide +kernel) ⟨Nat.le_of_ble_eq_true rfl, Nat.le_of_ble_eq_true rfl⟩) (RPc.pre hPc hK (va_recv hK.1 hPc (ci := 4) (q0 := 0) rfl rfl)) rfl rfl hl.1 rfl (lv_room (Nat.le_of_ble_eq_true rfl)) dX4_asksEntry_4 ⟨Nat.zero_le _, Nat.zero_le _⟩) ?_
  rw [hw0]
  have hPc : va_P dG vwCl (MW cI cJ mo mN mD mP mH mR mQ mF mO near (nI n) (nI ec) (bI bt) dis par hubs rnks que far frm (nI vi) (nI cu) (nI pu) (nI pn) (nI wn) th ++ X) s.heap := hP
  have hDc : va_D A (MW cI cJ mo mN mD mP mH mR mQ mF mO near (nI n) (nI ec) (bI bt) dis par hubs rnks que far frm (nI vi) (nI cu) (nI pu) (nI pn) (nI wn) th ++ X) := hD
  refine va_calli (va_runV (As := [.int (nI w)]) (rest := []) ⟨hx, hb, hml, hown, hts⟩ (m_goes l dG cI cJ A mo mN mD mP mH mR mQ mF mO near n ec bt dis par hubs rnks que far frm vi cu pu pn wn th w (by omega) _) (cwV 1 hts gX4_asksEntry_X4_goes rfl rfl rfl (by decide +kernel) ⟨Nat.le_of_ble_eq_true rfl, Nat.le_of_ble_eq_true rfl⟩) (WPc.pre hPc hDc hK (va_recv hK.1 hPc (ci := 4) (q0 := 0) rfl rfl)) rfl rfl hl.1 rfl (lv_room (Nat.le_of_ble_eq_true rfl)) dX4_asksEntry_7 ⟨Nat.zero_le _, Nat.zero_le _⟩) hS (fun q _ h => h) (fun q h => h) (fun r9 u9 t H locs ht hvm hw hB hz1 hk1 hS => ?_)
  obtain ⟨hP, hD⟩ := hB
  rw [ht] at hP
  have hP : va_P dG vwCl (MW cI cJ mo mN mD mP mH mR mQ mF mO near (nI n) (nI ec) (bI bt) dis par hubs rnks que far frm (nI vi) (nI cu) (nI pu) (nI pn) (nI wn) (nI w) ++ X) H := hP
  have hD : va_D A (MW cI cJ mo mN mD mP mH mR mQ mF mO near (nI n) (nI ec) (bI bt) dis par hubs rnks que far frm (nI vi) (nI cu) (nI pu) (nI pn) (nI wn) (nI w) ++ X) := hD
  rw [show r9 = bI false from hw.trans (by rw [decide_eq_false hne])]
  refine x_ifneB (tgt := 15) hx hb dX4_asksEntry_10 (by decide) (fun h9 => absurd h9 (by decide)) (fun h9 => ?_)
  refine lv_iconst (v := (-1)) hx hb dX4_asksEntry_13 (by decide) ?_
  exact W.iret (v := (-1)) hx hb hr (fun t ht hW => ⟨⟨_, (), rfl, rfl, by rw [ht]; exact hP, hD⟩, hS.F ht⟩) hS.2.2 dX4_asksEntry_14

set_option maxHeartbeats 4000000 in
set_option maxRecDepth 100000 in
/-- reference: asksEntry -/
theorem m_asksEntry3 (l : Launch) (dG : va_G) (cI cJ : ClassId) (A : Nat → Prop) (mo mN mD mP mH mR mQ mF mO : Nat) (near : Nat → Int64) (n ec : Nat) (bt : Bool) (dis par hubs rnks que far frm : Nat → Int32) (vi cu pu pn wn : Nat) (th : Int32) (L P : Nat → Nat → Option Nat) (hR : RepM 0 L P dis par) (hB : LBd L (2 ^ 30)) (hn : n ≤ 48) (u : Nat) (hu : u < n) (y : Int32) (hw0 : wr (nI u) (nI u) n bt = 0) (hf : fnd (fun k => (L u k).isSome) y n = none) (X : va_W) : Met l yX4_asksEntry wsX4_asksEntry ({ frames := 2, cells := 0, slots := 0, locals := 43 } : Room) (WPc dG cI cJ [.ref mo, .int (nI u), .int y] (MW cI cJ mo mN mD mP mH mR mQ mF mO near (nI n) (nI ec) (bI bt) dis par hubs rnks que far frm (nI vi) (nI cu) (nI pu) (nI pn) (nI wn) th ++ X) A) (va_Qi (S := Unit) (fun r _ => r = -1) (fun _ => WB dG A (MW cI cJ mo mN mD mP mH mR mQ mF mO near (nI n) (nI ec) (bI bt) dis par hubs rnks que far frm (nI vi) (nI cu) (nI pu) (nI pn) (nI wn) (nI 3) ++ X)) A) 0 0 A := by
  refine Met.ofW (cc := cX4_asksEntry) (maxL := 7) (ret := (some .int)) (by decide) rfl ?_
  intro p e s m args below meth c s₁ B9 hml hv
  obtain ⟨rfl, hP, hK, hD⟩ := hv
  have hx := B9.exec
  have hb := B9.bytes
  have hr := B9.returns
  have hts := atoms_spec (ws := wsX4_asksEntry) B9.pre
  have hown : s.vm.findClass RX4 = some m.cls := findClass_of_methodNamed B9.named
  have hlocks := B9.notSynchronized
  have hS : va_S A s.heap s.heap [] := va_S.rf
  have hl := lv_entry ([.ref mo, .int (nI u), .int y]) (n := 7) (Nat.le_of_ble_eq_true rfl)
  rw [lg_entry_eq]
  generalize (lg_sl ([.ref mo, .int (nI u), .int y]) ++ List.replicate (7 - (lg_sl ([.ref mo, .int (nI u), .int y])).length) Slot.unset).toArray = ls at hl ⊢
  have hl : lv_has ls 7 [(0, .ref mo), (1, .int (nI u)), (2, .int y)] := hl
  have hiX4 : ∀ w ∈ wsX40, w ∈ wsX4_asksEntry := by decide +kernel
  have hf13 := hts (.fieldLink RX4 13 "LandmarkLeaModel" "distances" "[I") (by decide +kernel)
  have hf39 := hts (.fieldLink RX4 39 "LandmarkLeaModel" "many" "I") (by decide +kernel)
  refine lv_aload_n hx hb dX4_asksEntry_0 rfl (lv_at hl 0 rfl) ?_
  refine lv_aload_n hx hb dX4_asksEntry_1 rfl (lv_at hl 0 rfl) ?_
  refine lv_iload_n hx hb dX4_asksEntry_2 rfl (lv_at hl 1 rfl) ?_
  refine lv_iload_n hx hb dX4_asksEntry_3 rfl (lv_at hl 1 rfl) ?_
  have hPc := hP.sub (ws' := (MW cI cJ mo mN mD mP mH mR mQ mF mO near (nI n) (nI ec) (bI bt) dis par hubs rnks que far frm (nI vi) (nI cu) (nI pu) (nI pn) (nI wn) th)) [0, 1, 2, 3, 4, 5, 6, 7, 8] rfl
  refine x_ri (W.runV (As := [.int (nI u), .int (nI u)]) (rest := [.ref mo]) ⟨hx, hb, hml, hown, hts⟩ (m_wrong l dG cI cJ mo mN mD mP mH mR mQ mF mO near n ec bt dis par hubs rnks que far frm vi cu pu pn wn th (by omega) (nI u) (nI u)) (cwV 2 hts gX4_asksEntry_X4_wrong rfl rfl rfl (by decide +kernel) ⟨Nat.le_of_ble_eq_true rfl, Nat.le_of_ble_eq_true rfl⟩) (RPc.pre hPc hK (va_recv hK.1 hPc (ci := 4) (q0 := 0) rfl rfl)) rfl rfl hl.1 rfl (lv_room (Nat.le_of_ble_eq_true rfl)) dX4_asksEntry_4 ⟨Nat.zero_le _, Nat.zero_le _⟩) ?_
  rw [hw0]
  have hPc : va_P dG vwCl (MW cI cJ mo mN mD mP mH mR mQ mF mO near (nI n) (nI ec) (bI bt) dis par hubs rnks que far frm (nI vi) (nI cu) (nI pu) (nI pn) (nI wn) th ++ X) s.heap := hP
  have hDc : va_D A (MW cI cJ mo mN mD mP mH mR mQ mF mO near (nI n) (nI ec) (bI bt) dis par hubs rnks que far frm (nI vi) (nI cu) (nI pu) (nI pn) (nI wn) th ++ X) := hD
  refine va_calli (va_runV (As := [.int (nI 0)]) (rest := []) ⟨hx, hb, hml, hown, hts⟩ (m_goes l dG cI cJ A mo mN mD mP mH mR mQ mF mO near n ec bt dis par hubs rnks que far frm vi cu pu pn wn th 0 (by omega) _) (cwV 1 hts gX4_asksEntry_X4_goes rfl rfl rfl (by decide +kernel) ⟨Nat.le_of_ble_eq_true rfl, Nat.le_of_ble_eq_true rfl⟩) (WPc.pre hPc hDc hK (va_recv hK.1 hPc (ci := 4) (q0 := 0) rfl rfl)) rfl rfl hl.1 rfl (lv_room (Nat.le_of_ble_eq_true rfl)) dX4_asksEntry_7 ⟨Nat.zero_le _, Nat.zero_le _⟩) hS (fun q _ h => h) (fun q h => h) (fun r9 u9 t H locs ht hvm hw hB hz1 hk1 hS => ?_)
  obtain ⟨hP, hD⟩ := hB
  rw [ht] at hP
  have hP : va_P dG vwCl (MW cI cJ mo mN mD mP mH mR mQ mF mO near (nI n) (nI ec) (bI bt) dis par hubs rnks que far frm (nI vi) (nI cu) (nI pu) (nI pn) (nI wn) (nI 0) ++ X) H := hP
  have hD : va_D A (MW cI cJ mo mN mD mP mH mR mQ mF mO near (nI n) (nI ec) (bI bt) dis par hubs rnks que far frm (nI vi) (nI cu) (nI pu) (nI pn) (nI wn) (nI 0) ++ X) := hD
  rw [show r9 = bI true from hw]
  refine x_ifneB (tgt := 15) hx hb dX4_asksEntry_10 (by decide) (fun h9 => ?_) (fun h9 => absurd h9 (by decide))
  refine lv_iconst (v := (-1)) hx hb dX4_asksEntry_15 (by decide) ?_
  refine lv_istore_n (lv' := [(3, .int (-1)), (0, .ref mo), (1, .int (nI u)), (2, .int y)]) hx hb dX4_asksEntry_16 rfl hl (by decide) rfl (fun ls hl => ?_)
  refine lv_iconst (v := (nI 0)) hx hb dX4_asksEntry_17 (by decide) ?_
  refine lv_istore (lv' := [(4, .int (nI 0)), (3, .int (-1)), (0, .ref mo), (1, .int (nI u)), (2, .int y)]) hx hb dX4_asksEntry_18 hl (by decide) rfl (fun ls hl => ?_)
  refine lv_iconst (v := (nI 0)) hx hb dX4_asksEntry_20 (by decide) ?_
  refine lv_istore (lv' := [(5, .int (nI 0)), (4, .int (nI 0)), (3, .int (-1)), (0, .ref mo), (1, .int (nI u)), (2, .int y)]) hx hb dX4_asksEntry_21 hl (by decide) rfl (fun ls hl => ?_)
  have loop : ∀ (QQ : State → Prop) (n1 : Nat) (k : Nat), n < k + n1 → k ≤ n → (∀ (H : Heap) (locs : List Loc), va_P dG vwCl (MW cI cJ mo mN mD mP mH mR mQ mF mO near (nI n) (nI ec) (bI bt) dis par hubs rnks que far frm (nI vi) (nI cu) (nI pu) (nI pn) (nI wn) (nI 0) ++ X) H → va_D A (MW cI cJ mo mN mD mP mH mR mQ mF mO near (nI n) (nI ec) (bI bt) dis par hubs rnks que far frm (nI vi) (nI cu) (nI pu) (nI pn) (nI wn) (nI 0) ++ X) → va_S A s.heap H locs → ∀ ls : Array Slot, lv_has ls 7 [(0, .ref mo), (1, .int (nI u)), (2, .int y), (3, .int (eN (fnd (fun k => (L u k).isSome) y n))), (4, .int (nI (fb_ct (fun k => (L u k).isSome) n))), (5, .int (nI n))] → W p l e ({ frames := 2, cells := 0, slots := 0, locals := 43 } : Room) s m ([.ref mo, .int (nI u), .int y] : List Value).toArray below meth c H locs 0 0 QQ (F0 m 94 ls [])) → ∀ (H : Heap) (locs : List Loc), va_P dG vwCl (MW cI cJ mo mN mD mP mH mR mQ mF mO near (nI n) (nI ec) (bI bt) dis par hubs rnks que far frm (nI vi) (nI cu) (nI pu) (nI pn) (nI wn) (nI 0) ++ X) H → va_D A (MW cI cJ mo mN mD mP mH mR mQ mF mO near (nI n) (nI ec) (bI bt) dis par hubs rnks que far frm (nI vi) (nI cu) (nI pu) (nI pn) (nI wn) (nI 0) ++ X) → va_S A s.heap H locs → ∀ ls : Array Slot, lv_has ls 7 [(0, .ref mo), (1, .int (nI u)), (2, .int y), (3, .int (eN (fnd (fun k => (L u k).isSome) y k))), (4, .int (nI (fb_ct (fun k => (L u k).isSome) k))), (5, .int (nI k))] → W p l e ({ frames := 2, cells := 0, slots := 0, locals := 43 } : Room) s m ([.ref mo, .int (nI u), .int y] : List Value).toArray below meth c H locs 0 0 QQ (F0 m 23 ls []) := by
    intro QQ n1
    induction n1 with
    | zero => intro k h1 h2; exact absurd h1 (by omega)
    | succ n1 ih =>
      intro k h1 h2 kx H locs hP hD hS ls hl
      refine lv_iload hx hb dX4_asksEntry_23 (lv_at hl 5 rfl) ?_
      refine lv_aload_n hx hb dX4_asksEntry_25 rfl (lv_at hl 0 rfl) ?_
      refine va_get (D := dG) (ci := 4) (v := .int (nI n)) (C := RX4) (T := TX4) (N := 17) hx hb hts hiX4 hown hK.1 hP 0 rfl rfl 1 (by decide) hf39 (fun _ h9 => h9) rfl dX4_asksEntry_26 ?_
      refine x_icmp_geN (i := k) (j := n) (tgt := 94) hx hb (by omega) (by omega) dX4_asksEntry_29 (by decide) (fun c29 => ?_) (fun c29 => ?_)
      · skip
        have ek : k = n := by omega
        subst ek
        exact kx  H locs hP hD hS ls (lv_sub hl [0, 1, 2, 3, 4, 5] rfl)
      · skip
        refine lv_aload_n hx hb dX4_asksEntry_32 rfl (lv_at hl 0 rfl) ?_
        refine va_get (D := dG) (ci := 4) (v := .ref mD) (C := RX4) (T := TX4) (N := 17) hx hb hts hiX4 hown hK.1 hP 0 rfl rfl 4 (by decide) hf13 (fun _ h9 => h9) rfl dX4_asksEntry_33 ?_
        refine lv_iconst (v := (nI 0)) hx hb dX4_asksEntry_36 (by decide) ?_
        refine lv_iload_n hx hb dX4_asksEntry_37 rfl (lv_at hl 1 rfl) ?_
        refine lv_iload hx hb dX4_asksEntry_38 (lv_at hl 5 rfl) ?_
        have hPc : va_P dG vwCl [] H := fun k q h => by simp at h
        refine x_ri (W.runS (As := [.int (nI 0), .int (nI u), .int (nI k)]) (rest := [.ref mD]) ⟨hx, hb, hml, hown, hts⟩ (m_at l dG cI cJ 0 u k) (va_cwS 3 hts gX4_asksEntry_X4_at rfl rfl rfl (by decide +kernel) ⟨Nat.le_of_ble_eq_true rfl, Nat.le_of_ble_eq_true rfl⟩) (RPc.preS hPc hK) rfl rfl hl.1 rfl (lv_room (Nat.le_of_ble_eq_true rfl)) dX4_asksEntry_40 ⟨Nat.zero_le _, Nat.zero_le _⟩) ?_
        refine x_iald (f := dis) hx hb hK hP 2 rfl (by omega) (by decide) dX4_asksEntry_43 ?_
        rw [show dis (2304 * 0 + 48 * u + k) = (eN (L u k)) from (hR u k (by omega) (by omega)).1]
        rcases eu : L u k with _ | b
        · skip
          show W _ _ _ _ _ _ _ _ _ _ _ _ _ _ _ (F0 m 44 ls [.int (-1)])
          refine lv_iconst (v := (-1)) hx hb dX4_asksEntry_44 (by decide) ?_
          refine x_eqM_M (tgt := 52) hx hb dX4_asksEntry_45 (by decide) ?_
          refine lv_iconst (v := (nI 0)) hx hb dX4_asksEntry_52 (by decide) ?_
          refine lv_istore (lv' := [(6, .int (nI 0)), (0, .ref mo), (1, .int (nI u)), (2, .int y), (3, .int (eN (fnd (fun k => (L u k).isSome) y k))), (4, .int (nI (fb_ct (fun k => (L u k).isSome) k))), (5, .int (nI k))]) hx hb dX4_asksEntry_53 hl (by decide) rfl (fun ls hl => ?_)
          refine lv_iload hx hb dX4_asksEntry_55 (lv_at hl 0 rfl) ?_
          refine lv_if_eq (tgt := 71) hx hb dX4_asksEntry_57 (by decide) (fun _ => ?_) (fun h9 => absurd rfl h9)
          refine lv_iload_n hx hb dX4_asksEntry_71 rfl (lv_at hl 4 rfl) ?_
          refine lv_istore_n (lv' := [(3, .int (eN (fnd (fun k => (L u k).isSome) y k))), (6, .int (nI 0)), (0, .ref mo), (1, .int (nI u)), (2, .int y), (4, .int (nI (fb_ct (fun k => (L u k).isSome) k))), (5, .int (nI k))]) hx hb dX4_asksEntry_72 rfl hl (by decide) rfl (fun ls hl => ?_)
          refine lv_iload hx hb dX4_asksEntry_73 (lv_at hl 5 rfl) ?_
          refine lv_iload hx hb dX4_asksEntry_75 (lv_at hl 1 rfl) ?_
          refine lv_if_eq (tgt := 84) hx hb dX4_asksEntry_77 (by decide) (fun _ => ?_) (fun h9 => absurd rfl h9)
          refine lv_iconst (v := (nI 0)) hx hb dX4_asksEntry_84 (by decide) ?_
          refine x_addN (i := (fb_ct (fun k => (L u k).isSome) k)) (j := 0) hx hb dX4_asksEntry_85 ?_
          refine lv_istore (lv' := [(4, .int (nI ((fb_ct (fun k => (L u k).isSome) k) + 0))), (3, .int (eN (fnd (fun k => (L u k).isSome) y k))), (6, .int (nI 0)), (0, .ref mo), (1, .int (nI u)), (2, .int y), (5, .int (nI k))]) hx hb dX4_asksEntry_86 hl (by decide) rfl (fun ls hl => ?_)
          refine x_iincN (lv' := [(5, .int (nI (k + 1))), (4, .int (nI ((fb_ct (fun k => (L u k).isSome) k) + 0))), (3, .int (eN (fnd (fun k => (L u k).isSome) y k))), (6, .int (nI 0)), (0, .ref mo), (1, .int (nI u)), (2, .int y)]) hx hb dX4_asksEntry_88 hl (k := 6) rfl (by decide) rfl (fun ls hl => ?_)
          refine lv_goto (tgt := 23) hx hb dX4_asksEntry_91 (by decide) ?_
          have hl : lv_has ls 7 [(5, .int (nI (k + 1))), (4, .int (nI ((fb_ct (fun k => (L u k).isSome) k) + 0))), (3, .int (eN (fnd (fun k => (L u k).isSome) y (k + 1)))), (6, .int (nI 0)), (0, .ref mo), (1, .int (nI u)), (2, .int y)] := by rw [show fnd (fun k => (L u k).isSome) y (k + 1) = fnd (fun k => (L u k).isSome) y k from fnd_no (by rw [eu]; rfl)]; exact hl
          have hl : lv_has ls 7 [(5, .int (nI (k + 1))), (4, .int (nI (fb_ct (fun k => (L u k).isSome) (k + 1)))), (3, .int (eN (fnd (fun k => (L u k).isSome) y (k + 1)))), (6, .int (nI 0)), (0, .ref mo), (1, .int (nI u)), (2, .int y)] := by rw [fb_ct_succ, eu]; exact hl
          exact ih (k + 1) (by omega) (by omega) kx H locs hP hD hS ls (lv_sub hl [4, 5, 6, 2, 1, 0] rfl)
        · skip
          show W _ _ _ _ _ _ _ _ _ _ _ _ _ _ _ (F0 m 44 ls [.int (nI b)])
          have hb9 := hB u k b eu
          refine lv_iconst (v := (-1)) hx hb dX4_asksEntry_44 (by decide) ?_
          refine x_eqM_N (tgt := 52) hx hb (by omega) dX4_asksEntry_45 (by decide) ?_
          refine lv_iconst (v := (nI 1)) hx hb dX4_asksEntry_48 (by decide) ?_
          refine lv_goto (tgt := 53) hx hb dX4_asksEntry_49 (by decide) ?_
          refine lv_istore (lv' := [(6, .int (nI 1)), (0, .ref mo), (1, .int (nI u)), (2, .int y), (3, .int (eN (fnd (fun k => (L u k).isSome) y k))), (4, .int (nI (fb_ct (fun k => (L u k).isSome) k))), (5, .int (nI k))]) hx hb dX4_asksEntry_53 hl (by decide) rfl (fun ls hl => ?_)
          refine lv_iload hx hb dX4_asksEntry_55 (lv_at hl 0 rfl) ?_
          refine lv_if_eq (tgt := 71) hx hb dX4_asksEntry_57 (by decide) (fun h9 => absurd h9 (by decide)) (fun _ => ?_)
          refine lv_iload hx hb dX4_asksEntry_60 (lv_at hl 5 rfl) ?_
          refine lv_iload_n hx hb dX4_asksEntry_62 rfl (lv_at hl 3 rfl) ?_
          refine lv_icmp_ne (tgt := 71) hx hb dX4_asksEntry_63 (by decide) (fun c63 => ?_) (fun c63 => ?_)
          · skip
            refine lv_iload_n hx hb dX4_asksEntry_71 rfl (lv_at hl 4 rfl) ?_
            refine lv_istore_n (lv' := [(3, .int (eN (fnd (fun k => (L u k).isSome) y k))), (6, .int (nI 1)), (0, .ref mo), (1, .int (nI u)), (2, .int y), (4, .int (nI (fb_ct (fun k => (L u k).isSome) k))), (5, .int (nI k))]) hx hb dX4_asksEntry_72 rfl hl (by decide) rfl (fun ls hl => ?_)
            refine lv_iload hx hb dX4_asksEntry_73 (lv_at hl 5 rfl) ?_
            refine lv_iload hx hb dX4_asksEntry_75 (lv_at hl 1 rfl) ?_
            refine lv_if_eq (tgt := 84) hx hb dX4_asksEntry_77 (by decide) (fun h9 => absurd h9 (by decide)) (fun _ => ?_)
            refine lv_iconst (v := (nI 1)) hx hb dX4_asksEntry_80 (by decide) ?_
            refine lv_goto (tgt := 85) hx hb dX4_asksEntry_81 (by decide) ?_
            refine x_addN (i := (fb_ct (fun k => (L u k).isSome) k)) (j := 1) hx hb dX4_asksEntry_85 ?_
            refine lv_istore (lv' := [(4, .int (nI ((fb_ct (fun k => (L u k).isSome) k) + 1))), (3, .int (eN (fnd (fun k => (L u k).isSome) y k))), (6, .int (nI 1)), (0, .ref mo), (1, .int (nI u)), (2, .int y), (5, .int (nI k))]) hx hb dX4_asksEntry_86 hl (by decide) rfl (fun ls hl => ?_)
            refine x_iincN (lv' := [(5, .int (nI (k + 1))), (4, .int (nI ((fb_ct (fun k => (L u k).isSome) k) + 1))), (3, .int (eN (fnd (fun k => (L u k).isSome) y k))), (6, .int (nI 1)), (0, .ref mo), (1, .int (nI u)), (2, .int y)]) hx hb dX4_asksEntry_88 hl (k := 6) rfl (by decide) rfl (fun ls hl => ?_)
            refine lv_goto (tgt := 23) hx hb dX4_asksEntry_91 (by decide) ?_
            have hl : lv_has ls 7 [(5, .int (nI (k + 1))), (4, .int (nI ((fb_ct (fun k => (L u k).isSome) k) + 1))), (3, .int (eN (fnd (fun k => (L u k).isSome) y (k + 1)))), (6, .int (nI 1)), (0, .ref mo), (1, .int (nI u)), (2, .int y)] := by rw [show fnd (fun k => (L u k).isSome) y (k + 1) = fnd (fun k => (L u k).isSome) y k from fnd_ne c63]; exact hl
            have hl : lv_has ls 7 [(5, .int (nI (k + 1))), (4, .int (nI (fb_ct (fun k => (L u k).isSome) (k + 1)))), (3, .int (eN (fnd (fun k => (L u k).isSome) y (k + 1)))), (6, .int (nI 1)), (0, .ref mo), (1, .int (nI u)), (2, .int y)] := by rw [fb_ct_succ, eu]; exact hl
            exact ih (k + 1) (by omega) (by omega) kx H locs hP hD hS ls (lv_sub hl [4, 5, 6, 2, 1, 0] rfl)
          · skip
            refine lv_iload hx hb dX4_asksEntry_66 (lv_at hl 6 rfl) ?_
            refine lv_goto (tgt := 72) hx hb dX4_asksEntry_68 (by decide) ?_
            refine lv_istore_n (lv' := [(3, .int (nI k)), (6, .int (nI 1)), (0, .ref mo), (1, .int (nI u)), (2, .int y), (4, .int (nI (fb_ct (fun k => (L u k).isSome) k))), (5, .int (nI k))]) hx hb dX4_asksEntry_72 rfl hl (by decide) rfl (fun ls hl => ?_)
            refine lv_iload hx hb dX4_asksEntry_73 (lv_at hl 5 rfl) ?_
            refine lv_iload hx hb dX4_asksEntry_75 (lv_at hl 1 rfl) ?_
            refine lv_if_eq (tgt := 84) hx hb dX4_asksEntry_77 (by decide) (fun h9 => absurd h9 (by decide)) (fun _ => ?_)
            refine lv_iconst (v := (nI 1)) hx hb dX4_asksEntry_80 (by decide) ?_
            refine lv_goto (tgt := 85) hx hb dX4_asksEntry_81 (by decide) ?_
            refine x_addN (i := (fb_ct (fun k => (L u k).isSome) k)) (j := 1) hx hb dX4_asksEntry_85 ?_
            refine lv_istore (lv' := [(4, .int (nI ((fb_ct (fun k => (L u k).isSome) k) + 1))), (3, .int (nI k)), (6, .int (nI 1)), (0, .ref mo), (1, .int (nI u)), (2, .int y), (5, .int (nI k))]) hx hb dX4_asksEntry_86 hl (by decide) rfl (fun ls hl => ?_)
            refine x_iincN (lv' := [(5, .int (nI (k + 1))), (4, .int (nI ((fb_ct (fun k => (L u k).isSome) k) + 1))), (3, .int (nI k)), (6, .int (nI 1)), (0, .ref mo), (1, .int (nI u)), (2, .int y)]) hx hb dX4_asksEntry_88 hl (k := 6) rfl (by decide) rfl (fun ls hl => ?_)
            refine lv_goto (tgt := 23) hx hb dX4_asksEntry_91 (by decide) ?_
            have hl : lv_has ls 7 [(5, .int (nI (k + 1))), (4, .int (nI ((fb_ct (fun k => (L u k).isSome) k) + 1))), (3, .int (eN (fnd (fun k => (L u k).isSome) y (k + 1)))), (6, .int (nI 1)), (0, .ref mo), (1, .int (nI u)), (2, .int y)] := by rw [show fnd (fun k => (L u k).isSome) y (k + 1) = some k from fnd_yes (by rw [eu]; rfl) c63]; exact hl
            have hl : lv_has ls 7 [(5, .int (nI (k + 1))), (4, .int (nI (fb_ct (fun k => (L u k).isSome) (k + 1)))), (3, .int (eN (fnd (fun k => (L u k).isSome) y (k + 1)))), (6, .int (nI 1)), (0, .ref mo), (1, .int (nI u)), (2, .int y)] := by rw [fb_ct_succ, eu]; exact hl
            exact ih (k + 1) (by omega) (by omega) kx H locs hP hD hS ls (lv_sub hl [4, 5, 6, 2, 1, 0] rfl)
  refine loop _ 49 0 (by omega) (by omega) (fun  H locs hP hD hS ls hl => ?_) H locs hP hD hS ls (lv_sub hl [3, 4, 5, 2, 1, 0] rfl)
  have hl : lv_has ls 7 [(0, .ref mo), (1, .int (nI u)), (2, .int y), (3, .int (-1)), (4, .int (nI (fb_ct (fun k => (L u k).isSome) n))), (5, .int (nI n))] := by rw [hf] at hl; exact hl
  refine lv_aload_n hx hb dX4_asksEntry_94 rfl (lv_at hl 0 rfl) ?_
  refine lv_iload_n hx hb dX4_asksEntry_95 rfl (lv_at hl 3 rfl) ?_
  refine lv_iconst (v := (-1)) hx hb dX4_asksEntry_96 (by decide) ?_
  refine x_neM_M (tgt := 104) hx hb dX4_asksEntry_97 (by decide) ?_
  refine lv_iconst (v := (nI 3)) hx hb dX4_asksEntry_100 (by decide) ?_
  refine lv_goto (tgt := 105) hx hb dX4_asksEntry_101 (by decide) ?_
  have hPc : va_P dG vwCl (MW cI cJ mo mN mD mP mH mR mQ mF mO near (nI n) (nI ec) (bI bt) dis par hubs rnks que far frm (nI vi) (nI cu) (nI pu) (nI pn) (nI wn) (nI 0) ++ X) H := hP
  have hDc : va_D A (MW cI cJ mo mN mD mP mH mR mQ mF mO near (nI n) (nI ec) (bI bt) dis par hubs rnks que far frm (nI vi) (nI cu) (nI pu) (nI pn) (nI wn) (nI 0) ++ X) := hD
  refine va_calli (va_runV (As := [.int (nI 3)]) (rest := []) ⟨hx, hb, hml, hown, hts⟩ (m_goes l dG cI cJ A mo mN mD mP mH mR mQ mF mO near n ec bt dis par hubs rnks que far frm vi cu pu pn wn (nI 0) 3 (by omega) _) (cwV 1 hts gX4_asksEntry_X4_goes rfl rfl rfl (by decide +kernel) ⟨Nat.le_of_ble_eq_true rfl, Nat.le_of_ble_eq_true rfl⟩) (WPc.pre hPc hDc hK (va_recv hK.1 hPc (ci := 4) (q0 := 0) rfl rfl)) rfl rfl hl.1 rfl (lv_room (Nat.le_of_ble_eq_true rfl)) dX4_asksEntry_105 ⟨Nat.zero_le _, Nat.zero_le _⟩) hS (fun q _ h => h) (fun q h => h) (fun r9 u9 t H locs ht hvm hw hB hz1 hk1 hS => ?_)
  obtain ⟨hP, hD⟩ := hB
  rw [ht] at hP
  have hP : va_P dG vwCl (MW cI cJ mo mN mD mP mH mR mQ mF mO near (nI n) (nI ec) (bI bt) dis par hubs rnks que far frm (nI vi) (nI cu) (nI pu) (nI pn) (nI wn) (nI 3) ++ X) H := hP
  have hD : va_D A (MW cI cJ mo mN mD mP mH mR mQ mF mO near (nI n) (nI ec) (bI bt) dis par hubs rnks que far frm (nI vi) (nI cu) (nI pu) (nI pn) (nI wn) (nI 3) ++ X) := hD
  rw [show r9 = bI false from hw]
  refine x_ifeqB (tgt := 115) hx hb dX4_asksEntry_108 (by decide) (fun h9 => ?_) (fun h9 => absurd h9 (by decide))
  refine lv_iconst (v := (-1)) hx hb dX4_asksEntry_115 (by decide) ?_
  exact W.iret (v := (-1)) hx hb hr (fun t ht hW => ⟨⟨_, (), rfl, rfl, by rw [ht]; exact hP, hD⟩, hS.F ht⟩) hS.2.2 dX4_asksEntry_116

set_option maxHeartbeats 4000000 in
set_option maxRecDepth 100000 in
/-- reference: asksEntry -/
theorem m_asksEntry (l : Launch) (dG : va_G) (cI cJ : ClassId) (A : Nat → Prop) (mo mN mD mP mH mR mQ mF mO : Nat) (near : Nat → Int64) (n ec : Nat) (bt : Bool) (dis par hubs rnks que far frm : Nat → Int32) (vi cu pu pn wn : Nat) (th : Int32) (L P : Nat → Nat → Option Nat) (hR : RepM 0 L P dis par) (hB : LBd L (2 ^ 30)) (hn : n ≤ 48) (u : Nat) (hu : u < n) (y : Int32) (hw0 : wr (nI u) (nI u) n bt = 0) (q0 : Nat) (hf : fnd (fun k => (L u k).isSome) y n = some q0) (X : va_W) : Met l yX4_asksEntry wsX4_asksEntry ({ frames := 2, cells := 0, slots := 0, locals := 43 } : Room) (WPc dG cI cJ [.ref mo, .int (nI u), .int y] (MW cI cJ mo mN mD mP mH mR mQ mF mO near (nI n) (nI ec) (bI bt) dis par hubs rnks que far frm (nI vi) (nI cu) (nI pu) (nI pn) (nI wn) th ++ X) A) (va_Qi (S := Unit) (fun r _ => r = nI q0) (fun _ => WB dG A (MW cI cJ mo mN mD mP mH mR mQ mF mO near (nI n) (nI ec) (bI bt) dis par hubs rnks que far frm (nI vi) (nI cu) (nI pu) (nI pn) (nI wn) (nI 0) ++ X)) A) 0 0 A := by
  refine Met.ofW (cc := cX4_asksEntry) (maxL := 7) (ret := (some .int)) (by decide) rfl ?_
  intro p e s m args below meth c s₁ B9 hml hv
  obtain ⟨rfl, hP, hK, hD⟩ := hv
  have hx := B9.exec
  have hb := B9.bytes
  have hr := B9.returns
  have hts := atoms_spec (ws := wsX4_asksEntry) B9.pre
  have hown : s.vm.findClass RX4 = some m.cls := findClass_of_methodNamed B9.named
  have hlocks := B9.notSynchronized
  have hS : va_S A s.heap s.heap [] := va_S.rf
  have hl := lv_entry ([.ref mo, .int (nI u), .int y]) (n := 7) (Nat.le_of_ble_eq_true rfl)
  rw [lg_entry_eq]
  generalize (lg_sl ([.ref mo, .int (nI u), .int y]) ++ List.replicate (7 - (lg_sl ([.ref mo, .int (nI u), .int y])).length) Slot.unset).toArray = ls at hl ⊢
  have hl : lv_has ls 7 [(0, .ref mo), (1, .int (nI u)), (2, .int y)] := hl
  have hiX4 : ∀ w ∈ wsX40, w ∈ wsX4_asksEntry := by decide +kernel
  have hf13 := hts (.fieldLink RX4 13 "LandmarkLeaModel" "distances" "[I") (by decide +kernel)
  have hf39 := hts (.fieldLink RX4 39 "LandmarkLeaModel" "many" "I") (by decide +kernel)
  refine lv_aload_n hx hb dX4_asksEntry_0 rfl (lv_at hl 0 rfl) ?_
  refine lv_aload_n hx hb dX4_asksEntry_1 rfl (lv_at hl 0 rfl) ?_
  refine lv_iload_n hx hb dX4_asksEntry_2 rfl (lv_at hl 1 rfl) ?_
  refine lv_iload_n hx hb dX4_asksEntry_3 rfl (lv_at hl 1 rfl) ?_
  have hPc := hP.sub (ws' := (MW cI cJ mo mN mD mP mH mR mQ mF mO near (nI n) (nI ec) (bI bt) dis par hubs rnks que far frm (nI vi) (nI cu) (nI pu) (nI pn) (nI wn) th)) [0, 1, 2, 3, 4, 5, 6, 7, 8] rfl
  refine x_ri (W.runV (As := [.int (nI u), .int (nI u)]) (rest := [.ref mo]) ⟨hx, hb, hml, hown, hts⟩ (m_wrong l dG cI cJ mo mN mD mP mH mR mQ mF mO near n ec bt dis par hubs rnks que far frm vi cu pu pn wn th (by omega) (nI u) (nI u)) (cwV 2 hts gX4_asksEntry_X4_wrong rfl rfl rfl (by decide +kernel) ⟨Nat.le_of_ble_eq_true rfl, Nat.le_of_ble_eq_true rfl⟩) (RPc.pre hPc hK (va_recv hK.1 hPc (ci := 4) (q0 := 0) rfl rfl)) rfl rfl hl.1 rfl (lv_room (Nat.le_of_ble_eq_true rfl)) dX4_asksEntry_4 ⟨Nat.zero_le _, Nat.zero_le _⟩) ?_
  rw [hw0]
  have hPc : va_P dG vwCl (MW cI cJ mo mN mD mP mH mR mQ mF mO near (nI n) (nI ec) (bI bt) dis par hubs rnks que far frm (nI vi) (nI cu) (nI pu) (nI pn) (nI wn) th ++ X) s.heap := hP
  have hDc : va_D A (MW cI cJ mo mN mD mP mH mR mQ mF mO near (nI n) (nI ec) (bI bt) dis par hubs rnks que far frm (nI vi) (nI cu) (nI pu) (nI pn) (nI wn) th ++ X) := hD
  refine va_calli (va_runV (As := [.int (nI 0)]) (rest := []) ⟨hx, hb, hml, hown, hts⟩ (m_goes l dG cI cJ A mo mN mD mP mH mR mQ mF mO near n ec bt dis par hubs rnks que far frm vi cu pu pn wn th 0 (by omega) _) (cwV 1 hts gX4_asksEntry_X4_goes rfl rfl rfl (by decide +kernel) ⟨Nat.le_of_ble_eq_true rfl, Nat.le_of_ble_eq_true rfl⟩) (WPc.pre hPc hDc hK (va_recv hK.1 hPc (ci := 4) (q0 := 0) rfl rfl)) rfl rfl hl.1 rfl (lv_room (Nat.le_of_ble_eq_true rfl)) dX4_asksEntry_7 ⟨Nat.zero_le _, Nat.zero_le _⟩) hS (fun q _ h => h) (fun q h => h) (fun r9 u9 t H locs ht hvm hw hB hz1 hk1 hS => ?_)
  obtain ⟨hP, hD⟩ := hB
  rw [ht] at hP
  have hP : va_P dG vwCl (MW cI cJ mo mN mD mP mH mR mQ mF mO near (nI n) (nI ec) (bI bt) dis par hubs rnks que far frm (nI vi) (nI cu) (nI pu) (nI pn) (nI wn) (nI 0) ++ X) H := hP
  have hD : va_D A (MW cI cJ mo mN mD mP mH mR mQ mF mO near (nI n) (nI ec) (bI bt) dis par hubs rnks que far frm (nI vi) (nI cu) (nI pu) (nI pn) (nI wn) (nI 0) ++ X) := hD
  rw [show r9 = bI true from hw]
  refine x_ifneB (tgt := 15) hx hb dX4_asksEntry_10 (by decide) (fun h9 => ?_) (fun h9 => absurd h9 (by decide))
  refine lv_iconst (v := (-1)) hx hb dX4_asksEntry_15 (by decide) ?_
  refine lv_istore_n (lv' := [(3, .int (-1)), (0, .ref mo), (1, .int (nI u)), (2, .int y)]) hx hb dX4_asksEntry_16 rfl hl (by decide) rfl (fun ls hl => ?_)
  refine lv_iconst (v := (nI 0)) hx hb dX4_asksEntry_17 (by decide) ?_
  refine lv_istore (lv' := [(4, .int (nI 0)), (3, .int (-1)), (0, .ref mo), (1, .int (nI u)), (2, .int y)]) hx hb dX4_asksEntry_18 hl (by decide) rfl (fun ls hl => ?_)
  refine lv_iconst (v := (nI 0)) hx hb dX4_asksEntry_20 (by decide) ?_
  refine lv_istore (lv' := [(5, .int (nI 0)), (4, .int (nI 0)), (3, .int (-1)), (0, .ref mo), (1, .int (nI u)), (2, .int y)]) hx hb dX4_asksEntry_21 hl (by decide) rfl (fun ls hl => ?_)
  have loop : ∀ (QQ : State → Prop) (n1 : Nat) (k : Nat), n < k + n1 → k ≤ n → (∀ (H : Heap) (locs : List Loc), va_P dG vwCl (MW cI cJ mo mN mD mP mH mR mQ mF mO near (nI n) (nI ec) (bI bt) dis par hubs rnks que far frm (nI vi) (nI cu) (nI pu) (nI pn) (nI wn) (nI 0) ++ X) H → va_D A (MW cI cJ mo mN mD mP mH mR mQ mF mO near (nI n) (nI ec) (bI bt) dis par hubs rnks que far frm (nI vi) (nI cu) (nI pu) (nI pn) (nI wn) (nI 0) ++ X) → va_S A s.heap H locs → ∀ ls : Array Slot, lv_has ls 7 [(0, .ref mo), (1, .int (nI u)), (2, .int y), (3, .int (eN (fnd (fun k => (L u k).isSome) y n))), (4, .int (nI (fb_ct (fun k => (L u k).isSome) n))), (5, .int (nI n))] → W p l e ({ frames := 2, cells := 0, slots := 0, locals := 43 } : Room) s m ([.ref mo, .int (nI u), .int y] : List Value).toArray below meth c H locs 0 0 QQ (F0 m 94 ls [])) → ∀ (H : Heap) (locs : List Loc), va_P dG vwCl (MW cI cJ mo mN mD mP mH mR mQ mF mO near (nI n) (nI ec) (bI bt) dis par hubs rnks que far frm (nI vi) (nI cu) (nI pu) (nI pn) (nI wn) (nI 0) ++ X) H → va_D A (MW cI cJ mo mN mD mP mH mR mQ mF mO near (nI n) (nI ec) (bI bt) dis par hubs rnks que far frm (nI vi) (nI cu) (nI pu) (nI pn) (nI wn) (nI 0) ++ X) → va_S A s.heap H locs → ∀ ls : Array Slot, lv_has ls 7 [(0, .ref mo), (1, .int (nI u)), (2, .int y), (3, .int (eN (fnd (fun k => (L u k).isSome) y k))), (4, .int (nI (fb_ct (fun k => (L u k).isSome) k))), (5, .int (nI k))] → W p l e ({ frames := 2, cells := 0, slots := 0, locals := 43 } : Room) s m ([.ref mo, .int (nI u), .int y] : List Value).toArray below meth c H locs 0 0 QQ (F0 m 23 ls []) := by
    intro QQ n1
    induction n1 with
    | zero => intro k h1 h2; exact absurd h1 (by omega)
    | succ n1 ih =>
      intro k h1 h2 kx H locs hP hD hS ls hl
      refine lv_iload hx hb dX4_asksEntry_23 (lv_at hl 5 rfl) ?_
      refine lv_aload_n hx hb dX4_asksEntry_25 rfl (lv_at hl 0 rfl) ?_
      refine va_get (D := dG) (ci := 4) (v := .int (nI n)) (C := RX4) (T := TX4) (N := 17) hx hb hts hiX4 hown hK.1 hP 0 rfl rfl 1 (by decide) hf39 (fun _ h9 => h9) rfl dX4_asksEntry_26 ?_
      refine x_icmp_geN (i := k) (j := n) (tgt := 94) hx hb (by omega) (by omega) dX4_asksEntry_29 (by decide) (fun c29 => ?_) (fun c29 => ?_)
      · skip
        have ek : k = n := by omega
        subst ek
        exact kx  H locs hP hD hS ls (lv_sub hl [0, 1, 2, 3, 4, 5] rfl)
      · skip
        refine lv_aload_n hx hb dX4_asksEntry_32 rfl (lv_at hl 0 rfl) ?_
        refine va_get (D := dG) (ci := 4) (v := .ref mD) (C := RX4) (T := TX4) (N := 17) hx hb hts hiX4 hown hK.1 hP 0 rfl rfl 4 (by decide) hf13 (fun _ h9 => h9) rfl dX4_asksEntry_33 ?_
        refine lv_iconst (v := (nI 0)) hx hb dX4_asksEntry_36 (by decide) ?_
        refine lv_iload_n hx hb dX4_asksEntry_37 rfl (lv_at hl 1 rfl) ?_
        refine lv_iload hx hb dX4_asksEntry_38 (lv_at hl 5 rfl) ?_
        have hPc : va_P dG vwCl [] H := fun k q h => by simp at h
        refine x_ri (W.runS (As := [.int (nI 0), .int (nI u), .int (nI k)]) (rest := [.ref mD]) ⟨hx, hb, hml, hown, hts⟩ (m_at l dG cI cJ 0 u k) (va_cwS 3 hts gX4_asksEntry_X4_at rfl rfl rfl (by decide +kernel) ⟨Nat.le_of_ble_eq_true rfl, Nat.le_of_ble_eq_true rfl⟩) (RPc.preS hPc hK) rfl rfl hl.1 rfl (lv_room (Nat.le_of_ble_eq_true rfl)) dX4_asksEntry_40 ⟨Nat.zero_le _, Nat.zero_le _⟩) ?_
        refine x_iald (f := dis) hx hb hK hP 2 rfl (by omega) (by decide) dX4_asksEntry_43 ?_
        rw [show dis (2304 * 0 + 48 * u + k) = (eN (L u k)) from (hR u k (by omega) (by omega)).1]
        rcases eu : L u k with _ | b
        · skip
          show W _ _ _ _ _ _ _ _ _ _ _ _ _ _ _ (F0 m 44 ls [.int (-1)])
          refine lv_iconst (v := (-1)) hx hb dX4_asksEntry_44 (by decide) ?_
          refine x_eqM_M (tgt := 52) hx hb dX4_asksEntry_45 (by decide) ?_
          refine lv_iconst (v := (nI 0)) hx hb dX4_asksEntry_52 (by decide) ?_
          refine lv_istore (lv' := [(6, .int (nI 0)), (0, .ref mo), (1, .int (nI u)), (2, .int y), (3, .int (eN (fnd (fun k => (L u k).isSome) y k))), (4, .int (nI (fb_ct (fun k => (L u k).isSome) k))), (5, .int (nI k))]) hx hb dX4_asksEntry_53 hl (by decide) rfl (fun ls hl => ?_)
          refine lv_iload hx hb dX4_asksEntry_55 (lv_at hl 0 rfl) ?_
          refine lv_if_eq (tgt := 71) hx hb dX4_asksEntry_57 (by decide) (fun _ => ?_) (fun h9 => absurd rfl h9)
          refine lv_iload_n hx hb dX4_asksEntry_71 rfl (lv_at hl 4 rfl) ?_
          refine lv_istore_n (lv' := [(3, .int (eN (fnd (fun k => (L u k).isSome) y k))), (6, .int (nI 0)), (0, .ref mo), (1, .int (nI u)), (2, .int y), (4, .int (nI (fb_ct (fun k => (L u k).isSome) k))), (5, .int (nI k))]) hx hb dX4_asksEntry_72 rfl hl (by decide) rfl (fun ls hl => ?_)
          refine lv_iload hx hb dX4_asksEntry_73 (lv_at hl 5 rfl) ?_
          refine lv_iload hx hb dX4_asksEntry_75 (lv_at hl 1 rfl) ?_
          refine lv_if_eq (tgt := 84) hx hb dX4_asksEntry_77 (by decide) (fun _ => ?_) (fun h9 => absurd rfl h9)
          refine lv_iconst (v := (nI 0)) hx hb dX4_asksEntry_84 (by decide) ?_
          refine x_addN (i := (fb_ct (fun k => (L u k).isSome) k)) (j := 0) hx hb dX4_asksEntry_85 ?_
          refine lv_istore (lv' := [(4, .int (nI ((fb_ct (fun k => (L u k).isSome) k) + 0))), (3, .int (eN (fnd (fun k => (L u k).isSome) y k))), (6, .int (nI 0)), (0, .ref mo), (1, .int (nI u)), (2, .int y), (5, .int (nI k))]) hx hb dX4_asksEntry_86 hl (by decide) rfl (fun ls hl => ?_)
          refine x_iincN (lv' := [(5, .int (nI (k + 1))), (4, .int (nI ((fb_ct (fun k => (L u k).isSome) k) + 0))), (3, .int (eN (fnd (fun k => (L u k).isSome) y k))), (6, .int (nI 0)), (0, .ref mo), (1, .int (nI u)), (2, .int y)]) hx hb dX4_asksEntry_88 hl (k := 6) rfl (by decide) rfl (fun ls hl => ?_)
          refine lv_goto (tgt := 23) hx hb dX4_asksEntry_91 (by decide) ?_
          have hl : lv_has ls 7 [(5, .int (nI (k + 1))), (4, .int (nI ((fb_ct (fun k => (L u k).isSome) k) + 0))), (3, .int (eN (fnd (fun k => (L u k).isSome) y (k + 1)))), (6, .int (nI 0)), (0, .ref mo), (1, .int (nI u)), (2, .int y)] := by rw [show fnd (fun k => (L u k).isSome) y (k + 1) = fnd (fun k => (L u k).isSome) y k from fnd_no (by rw [eu]; rfl)]; exact hl
          have hl : lv_has ls 7 [(5, .int (nI (k + 1))), (4, .int (nI (fb_ct (fun k => (L u k).isSome) (k + 1)))), (3, .int (eN (fnd (fun k => (L u k).isSome) y (k + 1)))), (6, .int (nI 0)), (0, .ref mo), (1, .int (nI u)), (2, .int y)] := by rw [fb_ct_succ, eu]; exact hl
          exact ih (k + 1) (by omega) (by omega) kx H locs hP hD hS ls (lv_sub hl [4, 5, 6, 2, 1, 0] rfl)
        · skip
          show W _ _ _ _ _ _ _ _ _ _ _ _ _ _ _ (F0 m 44 ls [.int (nI b)])
          have hb9 := hB u k b eu
          refine lv_iconst (v := (-1)) hx hb dX4_asksEntry_44 (by decide) ?_
          refine x_eqM_N (tgt := 52) hx hb (by omega) dX4_asksEntry_45 (by decide) ?_
          refine lv_iconst (v := (nI 1)) hx hb dX4_asksEntry_48 (by decide) ?_
          refine lv_goto (tgt := 53) hx hb dX4_asksEntry_49 (by decide) ?_
          refine lv_istore (lv' := [(6, .int (nI 1)), (0, .ref mo), (1, .int (nI u)), (2, .int y), (3, .int (eN (fnd (fun k => (L u k).isSome) y k))), (4, .int (nI (fb_ct (fun k => (L u k).isSome) k))), (5, .int (nI k))]) hx hb dX4_asksEntry_53 hl (by decide) rfl (fun ls hl => ?_)
          refine lv_iload hx hb dX4_asksEntry_55 (lv_at hl 0 rfl) ?_
          refine lv_if_eq (tgt := 71) hx hb dX4_asksEntry_57 (by decide) (fun h9 => absurd h9 (by decide)) (fun _ => ?_)
          refine lv_iload hx hb dX4_asksEntry_60 (lv_at hl 5 rfl) ?_
          refine lv_iload_n hx hb dX4_asksEntry_62 rfl (lv_at hl 3 rfl) ?_
          refine lv_icmp_ne (tgt := 71) hx hb dX4_asksEntry_63 (by decide) (fun c63 => ?_) (fun c63 => ?_)
          · skip
            refine lv_iload_n hx hb dX4_asksEntry_71 rfl (lv_at hl 4 rfl) ?_
            refine lv_istore_n (lv' := [(3, .int (eN (fnd (fun k => (L u k).isSome) y k))), (6, .int (nI 1)), (0, .ref mo), (1, .int (nI u)), (2, .int y), (4, .int (nI (fb_ct (fun k => (L u k).isSome) k))), (5, .int (nI k))]) hx hb dX4_asksEntry_72 rfl hl (by decide) rfl (fun ls hl => ?_)
            refine lv_iload hx hb dX4_asksEntry_73 (lv_at hl 5 rfl) ?_
            refine lv_iload hx hb dX4_asksEntry_75 (lv_at hl 1 rfl) ?_
            refine lv_if_eq (tgt := 84) hx hb dX4_asksEntry_77 (by decide) (fun h9 => absurd h9 (by decide)) (fun _ => ?_)
            refine lv_iconst (v := (nI 1)) hx hb dX4_asksEntry_80 (by decide) ?_
            refine lv_goto (tgt := 85) hx hb dX4_asksEntry_81 (by decide) ?_
            refine x_addN (i := (fb_ct (fun k => (L u k).isSome) k)) (j := 1) hx hb dX4_asksEntry_85 ?_
            refine lv_istore (lv' := [(4, .int (nI ((fb_ct (fun k => (L u k).isSome) k) + 1))), (3, .int (eN (fnd (fun k => (L u k).isSome) y k))), (6, .int (nI 1)), (0, .ref mo), (1, .int (nI u)), (2, .int y), (5, .int (nI k))]) hx hb dX4_asksEntry_86 hl (by decide) rfl (fun ls hl => ?_)
            refine x_iincN (lv' := [(5, .int (nI (k + 1))), (4, .int (nI ((fb_ct (fun k => (L u k).isSome) k) + 1))), (3, .int (eN (fnd (fun k => (L u k).isSome) y k))), (6, .int (nI 1)), (0, .ref mo), (1, .int (nI u)), (2, .int y)]) hx hb dX4_asksEntry_88 hl (k := 6) rfl (by decide) rfl (fun ls hl => ?_)
            refine lv_goto (tgt := 23) hx hb dX4_asksEntry_91 (by decide) ?_
            have hl : lv_has ls 7 [(5, .int (nI (k + 1))), (4, .int (nI ((fb_ct (fun k => (L u k).isSome) k) + 1))), (3, .int (eN (fnd (fun k => (L u k).isSome) y (k + 1)))), (6, .int (nI 1)), (0, .ref mo), (1, .int (nI u)), (2, .int y)] := by rw [show fnd (fun k => (L u k).isSome) y (k + 1) = fnd (fun k => (L u k).isSome) y k from fnd_ne c63]; exact hl
            have hl : lv_has ls 7 [(5, .int (nI (k + 1))), (4, .int (nI (fb_ct (fun k => (L u k).isSome) (k + 1)))), (3, .int (eN (fnd (fun k => (L u k).isSome) y (k + 1)))), (6, .int (nI 1)), (0, .ref mo), (1, .int (nI u)), (2, .int y)] := by rw [fb_ct_succ, eu]; exact hl
            exact ih (k + 1) (by omega) (by omega) kx H locs hP hD hS ls (lv_sub hl [4, 5, 6, 2, 1, 0] rfl)
          · skip
            refine lv_iload hx hb dX4_asksEntry_66 (lv_at hl 6 rfl) ?_
            refine lv_goto (tgt := 72) hx hb dX4_asksEntry_68 (by decide) ?_
            refine lv_istore_n (lv' := [(3, .int (nI k)), (6, .int (nI 1)), (0, .ref mo), (1, .int (nI u)), (2, .int y), (4, .int (nI (fb_ct (fun k => (L u k).isSome) k))), (5, .int (nI k))]) hx hb dX4_asksEntry_72 rfl hl (by decide) rfl (fun ls hl => ?_)
            refine lv_iload hx hb dX4_asksEntry_73 (lv_at hl 5 rfl) ?_
            refine lv_iload hx hb dX4_asksEntry_75 (lv_at hl 1 rfl) ?_
            refine lv_if_eq (tgt := 84) hx hb dX4_asksEntry_77 (by decide) (fun h9 => absurd h9 (by decide)) (fun _ => ?_)
            refine lv_iconst (v := (nI 1)) hx hb dX4_asksEntry_80 (by decide) ?_
            refine lv_goto (tgt := 85) hx hb dX4_asksEntry_81 (by decide) ?_
            refine x_addN (i := (fb_ct (fun k => (L u k).isSome) k)) (j := 1) hx hb dX4_asksEntry_85 ?_
            refine lv_istore (lv' := [(4, .int (nI ((fb_ct (fun k => (L u k).isSome) k) + 1))), (3, .int (nI k)), (6, .int (nI 1)), (0, .ref mo), (1, .int (nI u)), (2, .int y), (5, .int (nI k))]) hx hb dX4_asksEntry_86 hl (by decide) rfl (fun ls hl => ?_)
            refine x_iincN (lv' := [(5, .int (nI (k + 1))), (4, .int (nI ((fb_ct (fun k => (L u k).isSome) k) + 1))), (3, .int (nI k)), (6, .int (nI 1)), (0, .ref mo), (1, .int (nI u)), (2, .int y)]) hx hb dX4_asksEntry_88 hl (k := 6) rfl (by decide) rfl (fun ls hl => ?_)
            refine lv_goto (tgt := 23) hx hb dX4_asksEntry_91 (by decide) ?_
            have hl : lv_has ls 7 [(5, .int (nI (k + 1))), (4, .int (nI ((fb_ct (fun k => (L u k).isSome) k) + 1))), (3, .int (eN (fnd (fun k => (L u k).isSome) y (k + 1)))), (6, .int (nI 1)), (0, .ref mo), (1, .int (nI u)), (2, .int y)] := by rw [show fnd (fun k => (L u k).isSome) y (k + 1) = some k from fnd_yes (by rw [eu]; rfl) c63]; exact hl
            have hl : lv_has ls 7 [(5, .int (nI (k + 1))), (4, .int (nI (fb_ct (fun k => (L u k).isSome) (k + 1)))), (3, .int (eN (fnd (fun k => (L u k).isSome) y (k + 1)))), (6, .int (nI 1)), (0, .ref mo), (1, .int (nI u)), (2, .int y)] := by rw [fb_ct_succ, eu]; exact hl
            exact ih (k + 1) (by omega) (by omega) kx H locs hP hD hS ls (lv_sub hl [4, 5, 6, 2, 1, 0] rfl)
  refine loop _ 49 0 (by omega) (by omega) (fun  H locs hP hD hS ls hl => ?_) H locs hP hD hS ls (lv_sub hl [3, 4, 5, 2, 1, 0] rfl)
  have hl : lv_has ls 7 [(0, .ref mo), (1, .int (nI u)), (2, .int y), (3, .int (nI q0)), (4, .int (nI (fb_ct (fun k => (L u k).isSome) n))), (5, .int (nI n))] := by rw [hf] at hl; exact hl
  have hq9 := fnd_lt hf
  refine lv_aload_n hx hb dX4_asksEntry_94 rfl (lv_at hl 0 rfl) ?_
  refine lv_iload_n hx hb dX4_asksEntry_95 rfl (lv_at hl 3 rfl) ?_
  refine lv_iconst (v := (-1)) hx hb dX4_asksEntry_96 (by decide) ?_
  refine x_neM_N (tgt := 104) hx hb (by omega) dX4_asksEntry_97 (by decide) ?_
  refine lv_iconst (v := (nI 0)) hx hb dX4_asksEntry_104 (by decide) ?_
  have hPc : va_P dG vwCl (MW cI cJ mo mN mD mP mH mR mQ mF mO near (nI n) (nI ec) (bI bt) dis par hubs rnks que far frm (nI vi) (nI cu) (nI pu) (nI pn) (nI wn) (nI 0) ++ X) H := hP
  have hDc : va_D A (MW cI cJ mo mN mD mP mH mR mQ mF mO near (nI n) (nI ec) (bI bt) dis par hubs rnks que far frm (nI vi) (nI cu) (nI pu) (nI pn) (nI wn) (nI 0) ++ X) := hD
  refine va_calli (va_runV (As := [.int (nI 0)]) (rest := []) ⟨hx, hb, hml, hown, hts⟩ (m_goes l dG cI cJ A mo mN mD mP mH mR mQ mF mO near n ec bt dis par hubs rnks que far frm vi cu pu pn wn (nI 0) 0 (by omega) _) (cwV 1 hts gX4_asksEntry_X4_goes rfl rfl rfl (by decide +kernel) ⟨Nat.le_of_ble_eq_true rfl, Nat.le_of_ble_eq_true rfl⟩) (WPc.pre hPc hDc hK (va_recv hK.1 hPc (ci := 4) (q0 := 0) rfl rfl)) rfl rfl hl.1 rfl (lv_room (Nat.le_of_ble_eq_true rfl)) dX4_asksEntry_105 ⟨Nat.zero_le _, Nat.zero_le _⟩) hS (fun q _ h => h) (fun q h => h) (fun r9 u9 t H locs ht hvm hw hB hz1 hk1 hS => ?_)
  obtain ⟨hP, hD⟩ := hB
  rw [ht] at hP
  have hP : va_P dG vwCl (MW cI cJ mo mN mD mP mH mR mQ mF mO near (nI n) (nI ec) (bI bt) dis par hubs rnks que far frm (nI vi) (nI cu) (nI pu) (nI pn) (nI wn) (nI 0) ++ X) H := hP
  have hD : va_D A (MW cI cJ mo mN mD mP mH mR mQ mF mO near (nI n) (nI ec) (bI bt) dis par hubs rnks que far frm (nI vi) (nI cu) (nI pu) (nI pn) (nI wn) (nI 0) ++ X) := hD
  rw [show r9 = bI true from hw]
  refine x_ifeqB (tgt := 115) hx hb dX4_asksEntry_108 (by decide) (fun h9 => absurd h9 (by decide)) (fun h9 => ?_)
  refine lv_iload_n hx hb dX4_asksEntry_111 rfl (lv_at hl 3 rfl) ?_
  refine lv_goto (tgt := 116) hx hb dX4_asksEntry_112 (by decide) ?_
  exact W.iret (v := (nI q0)) hx hb hr (fun t ht hW => ⟨⟨_, (), rfl, rfl, by rw [ht]; exact hP, hD⟩, hS.F ht⟩) hS.2.2 dX4_asksEntry_116

set_option maxHeartbeats 4000000 in
set_option maxRecDepth 100000 in
/-- reference: entryHub -/
theorem m_entryHubX (l : Launch) (dG : va_G) (cI cJ : ClassId) (A : Nat → Prop) (mo mN mD mP mH mR mQ mF mO : Nat) (near : Nat → Int64) (n ec : Nat) (bt : Bool) (dis par hubs rnks que far frm : Nat → Int32) (vi cu pu pn wn : Nat) (th : Int32) (x y : Int32) (hn : n ≤ 48) (w : Nat) (hw9 : w < 4) (hne : ¬ w = 0) (hw0 : wr x x n bt = w) (X : va_W) : Met l yX4_entryHub wsX4_entryHub ({ frames := 3, cells := 0, slots := 0, locals := 69 } : Room) (WPc dG cI cJ [.ref mo, .int x, .int y] (MW cI cJ mo mN mD mP mH mR mQ mF mO near (nI n) (nI ec) (bI bt) dis par hubs rnks que far frm (nI vi) (nI cu) (nI pu) (nI pn) (nI wn) th ++ X) A) (va_Qi (S := Unit) (fun r _ => r = nI 0) (fun _ => WB dG A (MW cI cJ mo mN mD mP mH mR mQ mF mO near (nI n) (nI ec) (bI bt) dis par hubs rnks que far frm (nI vi) (nI cu) (nI pu) (nI pn) (nI wn) (nI w) ++ X)) A) 0 0 A := by
  refine Met.ofW (cc := cX4_entryHub) (maxL := 4) (ret := (some .int)) (by decide) rfl ?_
  intro p e s m args below meth c s₁ B9 hml hv
  obtain ⟨rfl, hP, hK, hD⟩ := hv
  have hx := B9.exec
  have hb := B9.bytes
  have hr := B9.returns
  have hts := atoms_spec (ws := wsX4_entryHub) B9.pre
  have hown : s.vm.findClass RX4 = some m.cls := findClass_of_methodNamed B9.named
  have hlocks := B9.notSynchronized
  have hS : va_S A s.heap s.heap [] := va_S.rf
  have hl := lv_entry ([.ref mo, .int x, .int y]) (n := 4) (Nat.le_of_ble_eq_true rfl)
  rw [lg_entry_eq]
  generalize (lg_sl ([.ref mo, .int x, .int y]) ++ List.replicate (4 - (lg_sl ([.ref mo, .int x, .int y])).length) Slot.unset).toArray = ls at hl ⊢
  have hl : lv_has ls 4 [(0, .ref mo), (1, .int x), (2, .int y)] := hl
  have hiX4 : ∀ w ∈ wsX40, w ∈ wsX4_entryHub := by decide +kernel
  have hf20 := hts (.fieldLink RX4 20 "LandmarkLeaModel" "hubs" "[I") (by decide +kernel)
  refine lv_aload_n hx hb dX4_entryHub_0 rfl (lv_at hl 0 rfl) ?_
  refine lv_iload_n hx hb dX4_entryHub_1 rfl (lv_at hl 1 rfl) ?_
  refine lv_iload_n hx hb dX4_entryHub_2 rfl (lv_at hl 2 rfl) ?_
  have hPc : va_P dG vwCl (MW cI cJ mo mN mD mP mH mR mQ mF mO near (nI n) (nI ec) (bI bt) dis par hubs rnks que far frm (nI vi) (nI cu) (nI pu) (nI pn) (nI wn) th ++ X) s.heap := hP
  have hDc : va_D A (MW cI cJ mo mN mD mP mH mR mQ mF mO near (nI n) (nI ec) (bI bt) dis par hubs rnks que far frm (nI vi) (nI cu) (nI pu) (nI pn) (nI wn) th ++ X) := hD
  refine va_calli (va_runV (As := [.int x, .int y]) (rest := []) ⟨hx, hb, hml, hown, hts⟩ (m_asksEntryX l dG cI cJ A mo mN mD mP mH mR mQ mF mO near n ec bt dis par hubs rnks que far frm vi cu pu pn wn th x y hn w hw9 hne hw0 _) (cwV 2 hts gX4_entryHub_X4_asksEntry rfl rfl rfl (by decide +kernel) ⟨Nat.le_of_ble_eq_true rfl, Nat.le_of_ble_eq_true rfl⟩) (WPc.pre hPc hDc hK (va_recv hK.1 hPc (ci := 4) (q0 := 0) rfl rfl)) rfl rfl hl.1 rfl (lv_room (Nat.le_of_ble_eq_true rfl)) dX4_entryHub_3 ⟨Nat.zero_le _, Nat.zero_le _⟩) hS (fun q _ h => h) (fun q h => h) (fun r9 u9 t H locs ht hvm hw hB hz1 hk1 hS => ?_)
  obtain ⟨hP, hD⟩ := hB
  rw [ht] at hP
  have hP : va_P dG vwCl (MW cI cJ mo mN mD mP mH mR mQ mF mO near (nI n) (nI ec) (bI bt) dis par hubs rnks que far frm (nI vi) (nI cu) (nI pu) (nI pn) (nI wn) (nI w) ++ X) H := hP
  have hD : va_D A (MW cI cJ mo mN mD mP mH mR mQ mF mO near (nI n) (nI ec) (bI bt) dis par hubs rnks que far frm (nI vi) (nI cu) (nI pu) (nI pn) (nI wn) (nI w) ++ X) := hD
  rw [show r9 = -1 from hw]
  refine lv_istore_n (lv' := [(3, .int (-1)), (0, .ref mo), (1, .int x), (2, .int y)]) hx hb dX4_entryHub_6 rfl hl (by decide) rfl (fun ls hl => ?_)
  refine lv_iload_n hx hb dX4_entryHub_7 rfl (lv_at hl 0 rfl) ?_
  refine lv_iconst (v := (-1)) hx hb dX4_entryHub_8 (by decide) ?_
  refine x_neM_M (tgt := 16) hx hb dX4_entryHub_9 (by decide) ?_
  refine lv_iconst (v := (nI 0)) hx hb dX4_entryHub_12 (by decide) ?_
  refine lv_goto (tgt := 22) hx hb dX4_entryHub_13 (by decide) ?_
  exact W.iret (v := (nI 0)) hx hb hr (fun t ht hW => ⟨⟨_, (), rfl, rfl, by rw [ht]; exact hP, hD⟩, hS.F ht⟩) hS.2.2 dX4_entryHub_22

set_option maxHeartbeats 4000000 in
set_option maxRecDepth 100000 in
/-- reference: entryHub -/
theorem m_entryHub3 (l : Launch) (dG : va_G) (cI cJ : ClassId) (A : Nat → Prop) (mo mN mD mP mH mR mQ mF mO : Nat) (near : Nat → Int64) (n ec : Nat) (bt : Bool) (dis par hubs rnks que far frm : Nat → Int32) (vi cu pu pn wn : Nat) (th : Int32) (L P : Nat → Nat → Option Nat) (hR : RepM 0 L P dis par) (hB : LBd L (2 ^ 30)) (hn : n ≤ 48) (u : Nat) (hu : u < n) (y : Int32) (hw0 : wr (nI u) (nI u) n bt = 0) (hf : fnd (fun k => (L u k).isSome) y n = none) (X : va_W) : Met l yX4_entryHub wsX4_entryHub ({ frames := 3, cells := 0, slots := 0, locals := 69 } : Room) (WPc dG cI cJ [.ref mo, .int (nI u), .int y] (MW cI cJ mo mN mD mP mH mR mQ mF mO near (nI n) (nI ec) (bI bt) dis par hubs rnks que far frm (nI vi) (nI cu) (nI pu) (nI pn) (nI wn) th ++ X) A) (va_Qi (S := Unit) (fun r _ => r = nI 0) (fun _ => WB dG A (MW cI cJ mo mN mD mP mH mR mQ mF mO near (nI n) (nI ec) (bI bt) dis par hubs rnks que far frm (nI vi) (nI cu) (nI pu) (nI pn) (nI wn) (nI 3) ++ X)) A) 0 0 A := by
  refine Met.ofW (cc := cX4_entryHub) (maxL := 4) (ret := (some .int)) (by decide) rfl ?_
  intro p e s m args below meth c s₁ B9 hml hv
  obtain ⟨rfl, hP, hK, hD⟩ := hv
  have hx := B9.exec
  have hb := B9.bytes
  have hr := B9.returns
  have hts := atoms_spec (ws := wsX4_entryHub) B9.pre
  have hown : s.vm.findClass RX4 = some m.cls := findClass_of_methodNamed B9.named
  have hlocks := B9.notSynchronized
  have hS : va_S A s.heap s.heap [] := va_S.rf
  have hl := lv_entry ([.ref mo, .int (nI u), .int y]) (n := 4) (Nat.le_of_ble_eq_true rfl)
  rw [lg_entry_eq]
  generalize (lg_sl ([.ref mo, .int (nI u), .int y]) ++ List.replicate (4 - (lg_sl ([.ref mo, .int (nI u), .int y])).length) Slot.unset).toArray = ls at hl ⊢
  have hl : lv_has ls 4 [(0, .ref mo), (1, .int (nI u)), (2, .int y)] := hl
  have hiX4 : ∀ w ∈ wsX40, w ∈ wsX4_entryHub := by decide +kernel
  have hf20 := hts (.fieldLink RX4 20 "LandmarkLeaModel" "hubs" "[I") (by decide +kernel)
  refine lv_aload_n hx hb dX4_entryHub_0 rfl (lv_at hl 0 rfl) ?_
  refine lv_iload_n hx hb dX4_entryHub_1 rfl (lv_at hl 1 rfl) ?_
  refine lv_iload_n hx hb dX4_entryHub_2 rfl (lv_at hl 2 rfl) ?_
  have hPc : va_P dG vwCl (MW cI cJ mo mN mD mP mH mR mQ mF mO near (nI n) (nI ec) (bI bt) dis par hubs rnks que far frm (nI vi) (nI cu) (nI pu) (nI pn) (nI wn) th ++ X) s.heap := hP
  have hDc : va_D A (MW cI cJ mo mN mD mP mH mR mQ mF mO near (nI n) (nI ec) (bI bt) dis par hubs rnks que far frm (nI vi) (nI cu) (nI pu) (nI pn) (nI wn) th ++ X) := hD
  refine va_calli (va_runV (As := [.int (nI u), .int y]) (rest := []) ⟨hx, hb, hml, hown, hts⟩ (m_asksEntry3 l dG cI cJ A mo mN mD mP mH mR mQ mF mO near n ec bt dis par hubs rnks que far frm vi cu pu pn wn th L P hR hB hn u hu y hw0 hf _) (cwV 2 hts gX4_entryHub_X4_asksEntry rfl rfl rfl (by decide +kernel) ⟨Nat.le_of_ble_eq_true rfl, Nat.le_of_ble_eq_true rfl⟩) (WPc.pre hPc hDc hK (va_recv hK.1 hPc (ci := 4) (q0 := 0) rfl rfl)) rfl rfl hl.1 rfl (lv_room (Nat.le_of_ble_eq_true rfl)) dX4_entryHub_3 ⟨Nat.zero_le _, Nat.zero_le _⟩) hS (fun q _ h => h) (fun q h => h) (fun r9 u9 t H locs ht hvm hw hB hz1 hk1 hS => ?_)
  obtain ⟨hP, hD⟩ := hB
  rw [ht] at hP
  have hP : va_P dG vwCl (MW cI cJ mo mN mD mP mH mR mQ mF mO near (nI n) (nI ec) (bI bt) dis par hubs rnks que far frm (nI vi) (nI cu) (nI pu) (nI pn) (nI wn) (nI 3) ++ X) H := hP
  have hD : va_D A (MW cI cJ mo mN mD mP mH mR mQ mF mO near (nI n) (nI ec) (bI bt) dis par hubs rnks que far frm (nI vi) (nI cu) (nI pu) (nI pn) (nI wn) (nI 3) ++ X) := hD
  rw [show r9 = -1 from hw]
  refine lv_istore_n (lv' := [(3, .int (-1)), (0, .ref mo), (1, .int (nI u)), (2, .int y)]) hx hb dX4_entryHub_6 rfl hl (by decide) rfl (fun ls hl => ?_)
  refine lv_iload_n hx hb dX4_entryHub_7 rfl (lv_at hl 0 rfl) ?_
  refine lv_iconst (v := (-1)) hx hb dX4_entryHub_8 (by decide) ?_
  refine x_neM_M (tgt := 16) hx hb dX4_entryHub_9 (by decide) ?_
  refine lv_iconst (v := (nI 0)) hx hb dX4_entryHub_12 (by decide) ?_
  refine lv_goto (tgt := 22) hx hb dX4_entryHub_13 (by decide) ?_
  exact W.iret (v := (nI 0)) hx hb hr (fun t ht hW => ⟨⟨_, (), rfl, rfl, by rw [ht]; exact hP, hD⟩, hS.F ht⟩) hS.2.2 dX4_entryHub_22

set_option maxHeartbeats 4000000 in
set_option maxRecDepth 100000 in
/-- reference: entryHub -/
theorem m_entryHub (l : Launch) (dG : va_G) (cI cJ : ClassId) (A : Nat → Prop) (mo mN mD mP mH mR mQ mF mO : Nat) (near : Nat → Int64) (n ec : Nat) (bt : Bool) (dis par hubs rnks que far frm : Nat → Int32) (vi cu pu pn wn : Nat) (th : Int32) (L P : Nat → Nat → Option Nat) (hR : RepM 0 L P dis par) (hB : LBd L (2 ^ 30)) (hn : n ≤ 48) (u : Nat) (hu : u < n) (y : Int32) (hw0 : wr (nI u) (nI u) n bt = 0) (q0 : Nat) (hf : fnd (fun k => (L u k).isSome) y n = some q0) (X : va_W) : Met l yX4_entryHub wsX4_entryHub ({ frames := 3, cells := 0, slots := 0, locals := 69 } : Room) (WPc dG cI cJ [.ref mo, .int (nI u), .int y] (MW cI cJ mo mN mD mP mH mR mQ mF mO near (nI n) (nI ec) (bI bt) dis par hubs rnks que far frm (nI vi) (nI cu) (nI pu) (nI pn) (nI wn) th ++ X) A) (va_Qi (S := Unit) (fun r _ => r = hubs q0) (fun _ => WB dG A (MW cI cJ mo mN mD mP mH mR mQ mF mO near (nI n) (nI ec) (bI bt) dis par hubs rnks que far frm (nI vi) (nI cu) (nI pu) (nI pn) (nI wn) (nI 0) ++ X)) A) 0 0 A := by
  refine Met.ofW (cc := cX4_entryHub) (maxL := 4) (ret := (some .int)) (by decide) rfl ?_
  intro p e s m args below meth c s₁ B9 hml hv
  obtain ⟨rfl, hP, hK, hD⟩ := hv
  have hx := B9.exec
  have hb := B9.bytes
  have hr := B9.returns
  have hts := atoms_spec (ws := wsX4_entryHub) B9.pre
  have hown : s.vm.findClass RX4 = some m.cls := findClass_of_methodNamed B9.named
  have hlocks := B9.notSynchronized
  have hS : va_S A s.heap s.heap [] := va_S.rf
  have hl := lv_entry ([.ref mo, .int (nI u), .int y]) (n := 4) (Nat.le_of_ble_eq_true rfl)
  rw [lg_entry_eq]
  generalize (lg_sl ([.ref mo, .int (nI u), .int y]) ++ List.replicate (4 - (lg_sl ([.ref mo, .int (nI u), .int y])).length) Slot.unset).toArray = ls at hl ⊢
  have hl : lv_has ls 4 [(0, .ref mo), (1, .int (nI u)), (2, .int y)] := hl
  have hiX4 : ∀ w ∈ wsX40, w ∈ wsX4_entryHub := by decide +kernel
  have hf20 := hts (.fieldLink RX4 20 "LandmarkLeaModel" "hubs" "[I") (by decide +kernel)
  refine lv_aload_n hx hb dX4_entryHub_0 rfl (lv_at hl 0 rfl) ?_
  refine lv_iload_n hx hb dX4_entryHub_1 rfl (lv_at hl 1 rfl) ?_
  refine lv_iload_n hx hb dX4_entryHub_2 rfl (lv_at hl 2 rfl) ?_
  have hPc : va_P dG vwCl (MW cI cJ mo mN mD mP mH mR mQ mF mO near (nI n) (nI ec) (bI bt) dis par hubs rnks que far frm (nI vi) (nI cu) (nI pu) (nI pn) (nI wn) th ++ X) s.heap := hP
  have hDc : va_D A (MW cI cJ mo mN mD mP mH mR mQ mF mO near (nI n) (nI ec) (bI bt) dis par hubs rnks que far frm (nI vi) (nI cu) (nI pu) (nI pn) (nI wn) th ++ X) := hD
  refine va_calli (va_runV (As := [.int (nI u), .int y]) (rest := []) ⟨hx, hb, hml, hown, hts⟩ (m_asksEntry l dG cI cJ A mo mN mD mP mH mR mQ mF mO near n ec bt dis par hubs rnks que far frm vi cu pu pn wn th L P hR hB hn u hu y hw0 q0 hf _) (cwV 2 hts gX4_entryHub_X4_asksEntry rfl rfl rfl (by decide +kernel) ⟨Nat.le_of_ble_eq_true rfl, Nat.le_of_ble_eq_true rfl⟩) (WPc.pre hPc hDc hK (va_recv hK.1 hPc (ci := 4) (q0 := 0) rfl rfl)) rfl rfl hl.1 rfl (lv_room (Nat.le_of_ble_eq_true rfl)) dX4_entryHub_3 ⟨Nat.zero_le _, Nat.zero_le _⟩) hS (fun q _ h => h) (fun q h => h) (fun r9 u9 t H locs ht hvm hw hB hz1 hk1 hS => ?_)
  obtain ⟨hP, hD⟩ := hB
  rw [ht] at hP
  have hP : va_P dG vwCl (MW cI cJ mo mN mD mP mH mR mQ mF mO near (nI n) (nI ec) (bI bt) dis par hubs rnks que far frm (nI vi) (nI cu) (nI pu) (nI pn) (nI wn) (nI 0) ++ X) H := hP
  have hD : va_D A (MW cI cJ mo mN mD mP mH mR mQ mF mO near (nI n) (nI ec) (bI bt) dis par hubs rnks que far frm (nI vi) (nI cu) (nI pu) (nI pn) (nI wn) (nI 0) ++ X) := hD
  rw [show r9 = nI q0 from hw]
  have hq9 := fnd_lt hf
  refine lv_istore_n (lv' := [(3, .int (nI q0)), (0, .ref mo), (1, .int (nI u)), (2, .int y)]) hx hb dX4_entryHub_6 rfl hl (by decide) rfl (fun ls hl => ?_)
  refine lv_iload_n hx hb dX4_entryHub_7 rfl (lv_at hl 0 rfl) ?_
  refine lv_iconst (v := (-1)) hx hb dX4_entryHub_8 (by decide) ?_
  refine x_neM_N (tgt := 16) hx hb (by omega) dX4_entryHub_9 (by decide) ?_
  refine lv_aload_n hx hb dX4_entryHub_16 rfl (lv_at hl 1 rfl) ?_
  refine va_get (D := dG) (ci := 4) (v := .ref mH) (C := RX4) (T := TX4) (N := 17) hx hb hts hiX4 hown hK.1 hP 0 rfl rfl 6 (by decide) hf20 (fun _ h9 => h9) rfl dX4_entryHub_17 ?_
  refine lv_iload_n hx hb dX4_entryHub_20 rfl (lv_at hl 0 rfl) ?_
  refine x_iald (f := hubs) hx hb hK hP 4 rfl (by omega) (by decide) dX4_entryHub_21 ?_
  exact W.iret (v := (hubs q0)) hx hb hr (fun t ht hW => ⟨⟨_, (), rfl, rfl, by rw [ht]; exact hP, hD⟩, hS.F ht⟩) hS.2.2 dX4_entryHub_22

set_option maxHeartbeats 4000000 in
set_option maxRecDepth 100000 in
/-- reference: entryDistance -/
theorem m_entryDistanceX (l : Launch) (dG : va_G) (cI cJ : ClassId) (A : Nat → Prop) (mo mN mD mP mH mR mQ mF mO : Nat) (near : Nat → Int64) (n ec : Nat) (bt : Bool) (dis par hubs rnks que far frm : Nat → Int32) (vi cu pu pn wn : Nat) (th : Int32) (x y : Int32) (hn : n ≤ 48) (w : Nat) (hw9 : w < 4) (hne : ¬ w = 0) (hw0 : wr x x n bt = w) (X : va_W) : Met l yX4_entryDistance wsX4_entryDistance ({ frames := 3, cells := 0, slots := 0, locals := 69 } : Room) (WPc dG cI cJ [.ref mo, .int x, .int y] (MW cI cJ mo mN mD mP mH mR mQ mF mO near (nI n) (nI ec) (bI bt) dis par hubs rnks que far frm (nI vi) (nI cu) (nI pu) (nI pn) (nI wn) th ++ X) A) (va_Qi (S := Unit) (fun r _ => r = nI 0) (fun _ => WB dG A (MW cI cJ mo mN mD mP mH mR mQ mF mO near (nI n) (nI ec) (bI bt) dis par hubs rnks que far frm (nI vi) (nI cu) (nI pu) (nI pn) (nI wn) (nI w) ++ X)) A) 0 0 A := by
  refine Met.ofW (cc := cX4_entryDistance) (maxL := 4) (ret := (some .int)) (by decide) rfl ?_
  intro p e s m args below meth c s₁ B9 hml hv
  obtain ⟨rfl, hP, hK, hD⟩ := hv
  have hx := B9.exec
  have hb := B9.bytes
  have hr := B9.returns
  have hts := atoms_spec (ws := wsX4_entryDistance) B9.pre
  have hown : s.vm.findClass RX4 = some m.cls := findClass_of_methodNamed B9.named
  have hlocks := B9.notSynchronized
  have hS : va_S A s.heap s.heap [] := va_S.rf
  have hl := lv_entry ([.ref mo, .int x, .int y]) (n := 4) (Nat.le_of_ble_eq_true rfl)
  rw [lg_entry_eq]
  generalize (lg_sl ([.ref mo, .int x, .int y]) ++ List.replicate (4 - (lg_sl ([.ref mo, .int x, .int y])).length) Slot.unset).toArray = ls at hl ⊢
  have hl : lv_has ls 4 [(0, .ref mo), (1, .int x), (2, .int y)] := hl
  have hiX4 : ∀ w ∈ wsX40, w ∈ wsX4_entryDistance := by decide +kernel
  have hf13 := hts (.fieldLink RX4 13 "LandmarkLeaModel" "distances" "[I") (by decide +kernel)
  refine lv_aload_n hx hb dX4_entryDistance_0 rfl (lv_at hl 0 rfl) ?_
  refine lv_iload_n hx hb dX4_entryDistance_1 rfl (lv_at hl 1 rfl) ?_
  refine lv_iload_n hx hb dX4_entryDistance_2 rfl (lv_at hl 2 rfl) ?_
  have hPc : va_P dG vwCl (MW cI cJ mo mN mD mP mH mR mQ mF mO near (nI n) (nI ec) (bI bt) dis par hubs rnks que far frm (nI vi) (nI cu) (nI pu) (nI pn) (nI wn) th ++ X) s.heap := hP
  have hDc : va_D A (MW cI cJ mo mN mD mP mH mR mQ mF mO near (nI n) (nI ec) (bI bt) dis par hubs rnks que far frm (nI vi) (nI cu) (nI pu) (nI pn) (nI wn) th ++ X) := hD
  refine va_calli (va_runV (As := [.int x, .int y]) (rest := []) ⟨hx, hb, hml, hown, hts⟩ (m_asksEntryX l dG cI cJ A mo mN mD mP mH mR mQ mF mO near n ec bt dis par hubs rnks que far frm vi cu pu pn wn th x y hn w hw9 hne hw0 _) (cwV 2 hts gX4_entryDistance_X4_asksEntry rfl rfl rfl (by decide +kernel) ⟨Nat.le_of_ble_eq_true rfl, Nat.le_of_ble_eq_true rfl⟩) (WPc.pre hPc hDc hK (va_recv hK.1 hPc (ci := 4) (q0 := 0) rfl rfl)) rfl rfl hl.1 rfl (lv_room (Nat.le_of_ble_eq_true rfl)) dX4_entryDistance_3 ⟨Nat.zero_le _, Nat.zero_le _⟩) hS (fun q _ h => h) (fun q h => h) (fun r9 u9 t H locs ht hvm hw hB hz1 hk1 hS => ?_)
  obtain ⟨hP, hD⟩ := hB
  rw [ht] at hP
  have hP : va_P dG vwCl (MW cI cJ mo mN mD mP mH mR mQ mF mO near (nI n) (nI ec) (bI bt) dis par hubs rnks que far frm (nI vi) (nI cu) (nI pu) (nI pn) (nI wn) (nI w) ++ X) H := hP
  have hD : va_D A (MW cI cJ mo mN mD mP mH mR mQ mF mO near (nI n) (nI ec) (bI bt) dis par hubs rnks que far frm (nI vi) (nI cu) (nI pu) (nI pn) (nI wn) (nI w) ++ X) := hD
  rw [show r9 = -1 from hw]
  refine lv_istore_n (lv' := [(3, .int (-1)), (0, .ref mo), (1, .int x), (2, .int y)]) hx hb dX4_entryDistance_6 rfl hl (by decide) rfl (fun ls hl => ?_)
  refine lv_iload_n hx hb dX4_entryDistance_7 rfl (lv_at hl 0 rfl) ?_
  refine lv_iconst (v := (-1)) hx hb dX4_entryDistance_8 (by decide) ?_
  refine x_neM_M (tgt := 16) hx hb dX4_entryDistance_9 (by decide) ?_
  refine lv_iconst (v := (nI 0)) hx hb dX4_entryDistance_12 (by decide) ?_
  refine lv_goto (tgt := 27) hx hb dX4_entryDistance_13 (by decide) ?_
  exact W.iret (v := (nI 0)) hx hb hr (fun t ht hW => ⟨⟨_, (), rfl, rfl, by rw [ht]; exact hP, hD⟩, hS.F ht⟩) hS.2.2 dX4_entryDistance_27

set_option maxHeartbeats 4000000 in
set_option maxRecDepth 100000 in
/-- reference: entryDistance -/
theorem m_entryDistance3 (l : Launch) (dG : va_G) (cI cJ : ClassId) (A : Nat → Prop) (mo mN mD mP mH mR mQ mF mO : Nat) (near : Nat → Int64) (n ec : Nat) (bt : Bool) (dis par hubs rnks que far frm : Nat → Int32) (vi cu pu pn wn : Nat) (th : Int32) (L P : Nat → Nat → Option Nat) (hR : RepM 0 L P dis par) (hB : LBd L (2 ^ 30)) (hn : n ≤ 48) (u : Nat) (hu : u < n) (y : Int32) (hw0 : wr (nI u) (nI u) n bt = 0) (hf : fnd (fun k => (L u k).isSome) y n = none) (X : va_W) : Met l yX4_entryDistance wsX4_entryDistance ({ frames := 3, cells := 0, slots := 0, locals := 69 } : Room) (WPc dG cI cJ [.ref mo, .int (nI u), .int y] (MW cI cJ mo mN mD mP mH mR mQ mF mO near (nI n) (nI ec) (bI bt) dis par hubs rnks que far frm (nI vi) (nI cu) (nI pu) (nI pn) (nI wn) th ++ X) A) (va_Qi (S := Unit) (fun r _ => r = nI 0) (fun _ => WB dG A (MW cI cJ mo mN mD mP mH mR mQ mF mO near (nI n) (nI ec) (bI bt) dis par hubs rnks que far frm (nI vi) (nI cu) (nI pu) (nI pn) (nI wn) (nI 3) ++ X)) A) 0 0 A := by
  refine Met.ofW (cc := cX4_entryDistance) (maxL := 4) (ret := (some .int)) (by decide) rfl ?_
  intro p e s m args below meth c s₁ B9 hml hv
  obtain ⟨rfl, hP, hK, hD⟩ := hv
  have hx := B9.exec
  have hb := B9.bytes
  have hr := B9.returns
  have hts := atoms_spec (ws := wsX4_entryDistance) B9.pre
  have hown : s.vm.findClass RX4 = some m.cls := findClass_of_methodNamed B9.named
  have hlocks := B9.notSynchronized
  have hS : va_S A s.heap s.heap [] := va_S.rf
  have hl := lv_entry ([.ref mo, .int (nI u), .int y]) (n := 4) (Nat.le_of_ble_eq_true rfl)
  rw [lg_entry_eq]
  generalize (lg_sl ([.ref mo, .int (nI u), .int y]) ++ List.replicate (4 - (lg_sl ([.ref mo, .int (nI u), .int y])).length) Slot.unset).toArray = ls at hl ⊢
  have hl : lv_has ls 4 [(0, .ref mo), (1, .int (nI u)), (2, .int y)] := hl
  have hiX4 : ∀ w ∈ wsX40, w ∈ wsX4_entryDistance := by decide +kernel
  have hf13 := hts (.fieldLink RX4 13 "LandmarkLeaModel" "distances" "[I") (by decide +kernel)
  refine lv_aload_n hx hb dX4_entryDistance_0 rfl (lv_at hl 0 rfl) ?_
  refine lv_iload_n hx hb dX4_entryDistance_1 rfl (lv_at hl 1 rfl) ?_
  refine lv_iload_n hx hb dX4_entryDistance_2 rfl (lv_at hl 2 rfl) ?_
  have hPc : va_P dG vwCl (MW cI cJ mo mN mD mP mH mR mQ mF mO near (nI n) (nI ec) (bI bt) dis par hubs rnks que far frm (nI vi) (nI cu) (nI pu) (nI pn) (nI wn) th ++ X) s.heap := hP
  have hDc : va_D A (MW cI cJ mo mN mD mP mH mR mQ mF mO near (nI n) (nI ec) (bI bt) dis par hubs rnks que far frm (nI vi) (nI cu) (nI pu) (nI pn) (nI wn) th ++ X) := hD
  refine va_calli (va_runV (As := [.int (nI u), .int y]) (rest := []) ⟨hx, hb, hml, hown, hts⟩ (m_asksEntry3 l dG cI cJ A mo mN mD mP mH mR mQ mF mO near n ec bt dis par hubs rnks que far frm vi cu pu pn wn th L P hR hB hn u hu y hw0 hf _) (cwV 2 hts gX4_entryDistance_X4_asksEntry rfl rfl rfl (by decide +kernel) ⟨Nat.le_of_ble_eq_true rfl, Nat.le_of_ble_eq_true rfl⟩) (WPc.pre hPc hDc hK (va_recv hK.1 hPc (ci := 4) (q0 := 0) rfl rfl)) rfl rfl hl.1 rfl (lv_room (Nat.le_of_ble_eq_true rfl)) dX4_entryDistance_3 ⟨Nat.zero_le _, Nat.zero_le _⟩) hS (fun q _ h => h) (fun q h => h) (fun r9 u9 t H locs ht hvm hw hB hz1 hk1 hS => ?_)
  obtain ⟨hP, hD⟩ := hB
  rw [ht] at hP
  have hP : va_P dG vwCl (MW cI cJ mo mN mD mP mH mR mQ mF mO near (nI n) (nI ec) (bI bt) dis par hubs rnks que far frm (nI vi) (nI cu) (nI pu) (nI pn) (nI wn) (nI 3) ++ X) H := hP
  have hD : va_D A (MW cI cJ mo mN mD mP mH mR mQ mF mO near (nI n) (nI ec) (bI bt) dis par hubs rnks que far frm (nI vi) (nI cu) (nI pu) (nI pn) (nI wn) (nI 3) ++ X) := hD
  rw [show r9 = -1 from hw]
  refine lv_istore_n (lv' := [(3, .int (-1)), (0, .ref mo), (1, .int (nI u)), (2, .int y)]) hx hb dX4_entryDistance_6 rfl hl (by decide) rfl (fun ls hl => ?_)
  refine lv_iload_n hx hb dX4_entryDistance_7 rfl (lv_at hl 0 rfl) ?_
  refine lv_iconst (v := (-1)) hx hb dX4_entryDistance_8 (by decide) ?_
  refine x_neM_M (tgt := 16) hx hb dX4_entryDistance_9 (by decide) ?_
  refine lv_iconst (v := (nI 0)) hx hb dX4_entryDistance_12 (by decide) ?_
  refine lv_goto (tgt := 27) hx hb dX4_entryDistance_13 (by decide) ?_
  exact W.iret (v := (nI 0)) hx hb hr (fun t ht hW => ⟨⟨_, (), rfl, rfl, by rw [ht]; exact hP, hD⟩, hS.F ht⟩) hS.2.2 dX4_entryDistance_27

set_option maxHeartbeats 4000000 in
set_option maxRecDepth 100000 in
/-- reference: entryDistance -/
theorem m_entryDistance (l : Launch) (dG : va_G) (cI cJ : ClassId) (A : Nat → Prop) (mo mN mD mP mH mR mQ mF mO : Nat) (near : Nat → Int64) (n ec : Nat) (bt : Bool) (dis par hubs rnks que far frm : Nat → Int32) (vi cu pu pn wn : Nat) (th : Int32) (L P : Nat → Nat → Option Nat) (hR : RepM 0 L P dis par) (hB : LBd L (2 ^ 30)) (hn : n ≤ 48) (u : Nat) (hu : u < n) (y : Int32) (hw0 : wr (nI u) (nI u) n bt = 0) (q0 : Nat) (hf : fnd (fun k => (L u k).isSome) y n = some q0) (X : va_W) : Met l yX4_entryDistance wsX4_entryDistance ({ frames := 3, cells := 0, slots := 0, locals := 69 } : Room) (WPc dG cI cJ [.ref mo, .int (nI u), .int y] (MW cI cJ mo mN mD mP mH mR mQ mF mO near (nI n) (nI ec) (bI bt) dis par hubs rnks que far frm (nI vi) (nI cu) (nI pu) (nI pn) (nI wn) th ++ X) A) (va_Qi (S := Unit) (fun r _ => r = eN (L u q0)) (fun _ => WB dG A (MW cI cJ mo mN mD mP mH mR mQ mF mO near (nI n) (nI ec) (bI bt) dis par hubs rnks que far frm (nI vi) (nI cu) (nI pu) (nI pn) (nI wn) (nI 0) ++ X)) A) 0 0 A := by
  refine Met.ofW (cc := cX4_entryDistance) (maxL := 4) (ret := (some .int)) (by decide) rfl ?_
  intro p e s m args below meth c s₁ B9 hml hv
  obtain ⟨rfl, hP, hK, hD⟩ := hv
  have hx := B9.exec
  have hb := B9.bytes
  have hr := B9.returns
  have hts := atoms_spec (ws := wsX4_entryDistance) B9.pre
  have hown : s.vm.findClass RX4 = some m.cls := findClass_of_methodNamed B9.named
  have hlocks := B9.notSynchronized
  have hS : va_S A s.heap s.heap [] := va_S.rf
  have hl := lv_entry ([.ref mo, .int (nI u), .int y]) (n := 4) (Nat.le_of_ble_eq_true rfl)
  rw [lg_entry_eq]
  generalize (lg_sl ([.ref mo, .int (nI u), .int y]) ++ List.replicate (4 - (lg_sl ([.ref mo, .int (nI u), .int y])).length) Slot.unset).toArray = ls at hl ⊢
  have hl : lv_has ls 4 [(0, .ref mo), (1, .int (nI u)), (2, .int y)] := hl
  have hiX4 : ∀ w ∈ wsX40, w ∈ wsX4_entryDistance := by decide +kernel
  have hf13 := hts (.fieldLink RX4 13 "LandmarkLeaModel" "distances" "[I") (by decide +kernel)
  refine lv_aload_n hx hb dX4_entryDistance_0 rfl (lv_at hl 0 rfl) ?_
  refine lv_iload_n hx hb dX4_entryDistance_1 rfl (lv_at hl 1 rfl) ?_
  refine lv_iload_n hx hb dX4_entryDistance_2 rfl (lv_at hl 2 rfl) ?_
  have hPc : va_P dG vwCl (MW cI cJ mo mN mD mP mH mR mQ mF mO near (nI n) (nI ec) (bI bt) dis par hubs rnks que far frm (nI vi) (nI cu) (nI pu) (nI pn) (nI wn) th ++ X) s.heap := hP
  have hDc : va_D A (MW cI cJ mo mN mD mP mH mR mQ mF mO near (nI n) (nI ec) (bI bt) dis par hubs rnks que far frm (nI vi) (nI cu) (nI pu) (nI pn) (nI wn) th ++ X) := hD
  refine va_calli (va_runV (As := [.int (nI u), .int y]) (rest := []) ⟨hx, hb, hml, hown, hts⟩ (m_asksEntry l dG cI cJ A mo mN mD mP mH mR mQ mF mO near n ec bt dis par hubs rnks que far frm vi cu pu pn wn th L P hR hB hn u hu y hw0 q0 hf _) (cwV 2 hts gX4_entryDistance_X4_asksEntry rfl rfl rfl (by decide +kernel) ⟨Nat.le_of_ble_eq_true rfl, Nat.le_of_ble_eq_true rfl⟩) (WPc.pre hPc hDc hK (va_recv hK.1 hPc (ci := 4) (q0 := 0) rfl rfl)) rfl rfl hl.1 rfl (lv_room (Nat.le_of_ble_eq_true rfl)) dX4_entryDistance_3 ⟨Nat.zero_le _, Nat.zero_le _⟩) hS (fun q _ h => h) (fun q h => h) (fun r9 u9 t H locs ht hvm hw hB hz1 hk1 hS => ?_)
  obtain ⟨hP, hD⟩ := hB
  rw [ht] at hP
  have hP : va_P dG vwCl (MW cI cJ mo mN mD mP mH mR mQ mF mO near (nI n) (nI ec) (bI bt) dis par hubs rnks que far frm (nI vi) (nI cu) (nI pu) (nI pn) (nI wn) (nI 0) ++ X) H := hP
  have hD : va_D A (MW cI cJ mo mN mD mP mH mR mQ mF mO near (nI n) (nI ec) (bI bt) dis par hubs rnks que far frm (nI vi) (nI cu) (nI pu) (nI pn) (nI wn) (nI 0) ++ X) := hD
  rw [show r9 = nI q0 from hw]
  have hq9 := fnd_lt hf
  refine lv_istore_n (lv' := [(3, .int (nI q0)), (0, .ref mo), (1, .int (nI u)), (2, .int y)]) hx hb dX4_entryDistance_6 rfl hl (by decide) rfl (fun ls hl => ?_)
  refine lv_iload_n hx hb dX4_entryDistance_7 rfl (lv_at hl 0 rfl) ?_
  refine lv_iconst (v := (-1)) hx hb dX4_entryDistance_8 (by decide) ?_
  refine x_neM_N (tgt := 16) hx hb (by omega) dX4_entryDistance_9 (by decide) ?_
  refine lv_aload_n hx hb dX4_entryDistance_16 rfl (lv_at hl 1 rfl) ?_
  refine va_get (D := dG) (ci := 4) (v := .ref mD) (C := RX4) (T := TX4) (N := 17) hx hb hts hiX4 hown hK.1 hP 0 rfl rfl 4 (by decide) hf13 (fun _ h9 => h9) rfl dX4_entryDistance_17 ?_
  refine lv_iconst (v := (nI 0)) hx hb dX4_entryDistance_20 (by decide) ?_
  refine lv_iload_n hx hb dX4_entryDistance_21 rfl (lv_at hl 2 rfl) ?_
  refine lv_iload_n hx hb dX4_entryDistance_22 rfl (lv_at hl 0 rfl) ?_
  have hPc : va_P dG vwCl [] H := fun k q h => by simp at h
  refine x_ri (W.runS (As := [.int (nI 0), .int (nI u), .int (nI q0)]) (rest := [.ref mD]) ⟨hx, hb, hml, hown, hts⟩ (m_at l dG cI cJ 0 u q0) (va_cwS 3 hts gX4_entryDistance_X4_at rfl rfl rfl (by decide +kernel) ⟨Nat.le_of_ble_eq_true rfl, Nat.le_of_ble_eq_true rfl⟩) (RPc.preS hPc hK) rfl rfl hl.1 rfl (lv_room (Nat.le_of_ble_eq_true rfl)) dX4_entryDistance_23 ⟨Nat.zero_le _, Nat.zero_le _⟩) ?_
  refine x_iald (f := dis) hx hb hK hP 2 rfl (by omega) (by decide) dX4_entryDistance_26 ?_
  rw [show dis (2304 * 0 + 48 * u + q0) = (eN (L u q0)) from (hR u q0 (by omega) (by omega)).1]
  exact W.iret (v := (eN (L u q0))) hx hb hr (fun t ht hW => ⟨⟨_, (), rfl, rfl, by rw [ht]; exact hP, hD⟩, hS.F ht⟩) hS.2.2 dX4_entryDistance_27

set_option maxHeartbeats 4000000 in
set_option maxRecDepth 100000 in
/-- reference: entryParent -/
theorem m_entryParentX (l : Launch) (dG : va_G) (cI cJ : ClassId) (A : Nat → Prop) (mo mN mD mP mH mR mQ mF mO : Nat) (near : Nat → Int64) (n ec : Nat) (bt : Bool) (dis par hubs rnks que far frm : Nat → Int32) (vi cu pu pn wn : Nat) (th : Int32) (x y : Int32) (hn : n ≤ 48) (w : Nat) (hw9 : w < 4) (hne : ¬ w = 0) (hw0 : wr x x n bt = w) (X : va_W) : Met l yX4_entryParent wsX4_entryParent ({ frames := 3, cells := 0, slots := 0, locals := 69 } : Room) (WPc dG cI cJ [.ref mo, .int x, .int y] (MW cI cJ mo mN mD mP mH mR mQ mF mO near (nI n) (nI ec) (bI bt) dis par hubs rnks que far frm (nI vi) (nI cu) (nI pu) (nI pn) (nI wn) th ++ X) A) (va_Qi (S := Unit) (fun r _ => r = nI 0) (fun _ => WB dG A (MW cI cJ mo mN mD mP mH mR mQ mF mO near (nI n) (nI ec) (bI bt) dis par hubs rnks que far frm (nI vi) (nI cu) (nI pu) (nI pn) (nI wn) (nI w) ++ X)) A) 0 0 A := by
  refine Met.ofW (cc := cX4_entryParent) (maxL := 4) (ret := (some .int)) (by decide) rfl ?_
  intro p e s m args below meth c s₁ B9 hml hv
  obtain ⟨rfl, hP, hK, hD⟩ := hv
  have hx := B9.exec
  have hb := B9.bytes
  have hr := B9.returns
  have hts := atoms_spec (ws := wsX4_entryParent) B9.pre
  have hown : s.vm.findClass RX4 = some m.cls := findClass_of_methodNamed B9.named
  have hlocks := B9.notSynchronized
  have hS : va_S A s.heap s.heap [] := va_S.rf
  have hl := lv_entry ([.ref mo, .int x, .int y]) (n := 4) (Nat.le_of_ble_eq_true rfl)
  rw [lg_entry_eq]
  generalize (lg_sl ([.ref mo, .int x, .int y]) ++ List.replicate (4 - (lg_sl ([.ref mo, .int x, .int y])).length) Slot.unset).toArray = ls at hl ⊢
  have hl : lv_has ls 4 [(0, .ref mo), (1, .int x), (2, .int y)] := hl
  have hiX4 : ∀ w ∈ wsX40, w ∈ wsX4_entryParent := by decide +kernel
  have hf17 := hts (.fieldLink RX4 17 "LandmarkLeaModel" "parents" "[I") (by decide +kernel)
  refine lv_aload_n hx hb dX4_entryParent_0 rfl (lv_at hl 0 rfl) ?_
  refine lv_iload_n hx hb dX4_entryParent_1 rfl (lv_at hl 1 rfl) ?_
  refine lv_iload_n hx hb dX4_entryParent_2 rfl (lv_at hl 2 rfl) ?_
  have hPc : va_P dG vwCl (MW cI cJ mo mN mD mP mH mR mQ mF mO near (nI n) (nI ec) (bI bt) dis par hubs rnks que far frm (nI vi) (nI cu) (nI pu) (nI pn) (nI wn) th ++ X) s.heap := hP
  have hDc : va_D A (MW cI cJ mo mN mD mP mH mR mQ mF mO near (nI n) (nI ec) (bI bt) dis par hubs rnks que far frm (nI vi) (nI cu) (nI pu) (nI pn) (nI wn) th ++ X) := hD
  refine va_calli (va_runV (As := [.int x, .int y]) (rest := []) ⟨hx, hb, hml, hown, hts⟩ (m_asksEntryX l dG cI cJ A mo mN mD mP mH mR mQ mF mO near n ec bt dis par hubs rnks que far frm vi cu pu pn wn th x y hn w hw9 hne hw0 _) (cwV 2 hts gX4_entryParent_X4_asksEntry rfl rfl rfl (by decide +kernel) ⟨Nat.le_of_ble_eq_true rfl, Nat.le_of_ble_eq_true rfl⟩) (WPc.pre hPc hDc hK (va_recv hK.1 hPc (ci := 4) (q0 := 0) rfl rfl)) rfl rfl hl.1 rfl (lv_room (Nat.le_of_ble_eq_true rfl)) dX4_entryParent_3 ⟨Nat.zero_le _, Nat.zero_le _⟩) hS (fun q _ h => h) (fun q h => h) (fun r9 u9 t H locs ht hvm hw hB hz1 hk1 hS => ?_)
  obtain ⟨hP, hD⟩ := hB
  rw [ht] at hP
  have hP : va_P dG vwCl (MW cI cJ mo mN mD mP mH mR mQ mF mO near (nI n) (nI ec) (bI bt) dis par hubs rnks que far frm (nI vi) (nI cu) (nI pu) (nI pn) (nI wn) (nI w) ++ X) H := hP
  have hD : va_D A (MW cI cJ mo mN mD mP mH mR mQ mF mO near (nI n) (nI ec) (bI bt) dis par hubs rnks que far frm (nI vi) (nI cu) (nI pu) (nI pn) (nI wn) (nI w) ++ X) := hD
  rw [show r9 = -1 from hw]
  refine lv_istore_n (lv' := [(3, .int (-1)), (0, .ref mo), (1, .int x), (2, .int y)]) hx hb dX4_entryParent_6 rfl hl (by decide) rfl (fun ls hl => ?_)
  refine lv_iload_n hx hb dX4_entryParent_7 rfl (lv_at hl 0 rfl) ?_
  refine lv_iconst (v := (-1)) hx hb dX4_entryParent_8 (by decide) ?_
  refine x_neM_M (tgt := 16) hx hb dX4_entryParent_9 (by decide) ?_
  refine lv_iconst (v := (nI 0)) hx hb dX4_entryParent_12 (by decide) ?_
  refine lv_goto (tgt := 27) hx hb dX4_entryParent_13 (by decide) ?_
  exact W.iret (v := (nI 0)) hx hb hr (fun t ht hW => ⟨⟨_, (), rfl, rfl, by rw [ht]; exact hP, hD⟩, hS.F ht⟩) hS.2.2 dX4_entryParent_27

set_option maxHeartbeats 4000000 in
set_option maxRecDepth 100000 in
/-- reference: entryParent -/
theorem m_entryParent3 (l : Launch) (dG : va_G) (cI cJ : ClassId) (A : Nat → Prop) (mo mN mD mP mH mR mQ mF mO : Nat) (near : Nat → Int64) (n ec : Nat) (bt : Bool) (dis par hubs rnks que far frm : Nat → Int32) (vi cu pu pn wn : Nat) (th : Int32) (L P : Nat → Nat → Option Nat) (hR : RepM 0 L P dis par) (hB : LBd L (2 ^ 30)) (hn : n ≤ 48) (u : Nat) (hu : u < n) (y : Int32) (hw0 : wr (nI u) (nI u) n bt = 0) (hf : fnd (fun k => (L u k).isSome) y n = none) (X : va_W) : Met l yX4_entryParent wsX4_entryParent ({ frames := 3, cells := 0, slots := 0, locals := 69 } : Room) (WPc dG cI cJ [.ref mo, .int (nI u), .int y] (MW cI cJ mo mN mD mP mH mR mQ mF mO near (nI n) (nI ec) (bI bt) dis par hubs rnks que far frm (nI vi) (nI cu) (nI pu) (nI pn) (nI wn) th ++ X) A) (va_Qi (S := Unit) (fun r _ => r = nI 0) (fun _ => WB dG A (MW cI cJ mo mN mD mP mH mR mQ mF mO near (nI n) (nI ec) (bI bt) dis par hubs rnks que far frm (nI vi) (nI cu) (nI pu) (nI pn) (nI wn) (nI 3) ++ X)) A) 0 0 A := by
  refine Met.ofW (cc := cX4_entryParent) (maxL := 4) (ret := (some .int)) (by decide) rfl ?_
  intro p e s m args below meth c s₁ B9 hml hv
  obtain ⟨rfl, hP, hK, hD⟩ := hv
  have hx := B9.exec
  have hb := B9.bytes
  have hr := B9.returns
  have hts := atoms_spec (ws := wsX4_entryParent) B9.pre
  have hown : s.vm.findClass RX4 = some m.cls := findClass_of_methodNamed B9.named
  have hlocks := B9.notSynchronized
  have hS : va_S A s.heap s.heap [] := va_S.rf
  have hl := lv_entry ([.ref mo, .int (nI u), .int y]) (n := 4) (Nat.le_of_ble_eq_true rfl)
  rw [lg_entry_eq]
  generalize (lg_sl ([.ref mo, .int (nI u), .int y]) ++ List.replicate (4 - (lg_sl ([.ref mo, .int (nI u), .int y])).length) Slot.unset).toArray = ls at hl ⊢
  have hl : lv_has ls 4 [(0, .ref mo), (1, .int (nI u)), (2, .int y)] := hl
  have hiX4 : ∀ w ∈ wsX40, w ∈ wsX4_entryParent := by decide +kernel
  have hf17 := hts (.fieldLink RX4 17 "LandmarkLeaModel" "parents" "[I") (by decide +kernel)
  refine lv_aload_n hx hb dX4_entryParent_0 rfl (lv_at hl 0 rfl) ?_
  refine lv_iload_n hx hb dX4_entryParent_1 rfl (lv_at hl 1 rfl) ?_
  refine lv_iload_n hx hb dX4_entryParent_2 rfl (lv_at hl 2 rfl) ?_
  have hPc : va_P dG vwCl (MW cI cJ mo mN mD mP mH mR mQ mF mO near (nI n) (nI ec) (bI bt) dis par hubs rnks que far frm (nI vi) (nI cu) (nI pu) (nI pn) (nI wn) th ++ X) s.heap := hP
  have hDc : va_D A (MW cI cJ mo mN mD mP mH mR mQ mF mO near (nI n) (nI ec) (bI bt) dis par hubs rnks que far frm (nI vi) (nI cu) (nI pu) (nI pn) (nI wn) th ++ X) := hD
  refine va_calli (va_runV (As := [.int (nI u), .int y]) (rest := []) ⟨hx, hb, hml, hown, hts⟩ (m_asksEntry3 l dG cI cJ A mo mN mD mP mH mR mQ mF mO near n ec bt dis par hubs rnks que far frm vi cu pu pn wn th L P hR hB hn u hu y hw0 hf _) (cwV 2 hts gX4_entryParent_X4_asksEntry rfl rfl rfl (by decide +kernel) ⟨Nat.le_of_ble_eq_true rfl, Nat.le_of_ble_eq_true rfl⟩) (WPc.pre hPc hDc hK (va_recv hK.1 hPc (ci := 4) (q0 := 0) rfl rfl)) rfl rfl hl.1 rfl (lv_room (Nat.le_of_ble_eq_true rfl)) dX4_entryParent_3 ⟨Nat.zero_le _, Nat.zero_le _⟩) hS (fun q _ h => h) (fun q h => h) (fun r9 u9 t H locs ht hvm hw hB hz1 hk1 hS => ?_)
  obtain ⟨hP, hD⟩ := hB
  rw [ht] at hP
  have hP : va_P dG vwCl (MW cI cJ mo mN mD mP mH mR mQ mF mO near (nI n) (nI ec) (bI bt) dis par hubs rnks que far frm (nI vi) (nI cu) (nI pu) (nI pn) (nI wn) (nI 3) ++ X) H := hP
  have hD : va_D A (MW cI cJ mo mN mD mP mH mR mQ mF mO near (nI n) (nI ec) (bI bt) dis par hubs rnks que far frm (nI vi) (nI cu) (nI pu) (nI pn) (nI wn) (nI 3) ++ X) := hD
  rw [show r9 = -1 from hw]
  refine lv_istore_n (lv' := [(3, .int (-1)), (0, .ref mo), (1, .int (nI u)), (2, .int y)]) hx hb dX4_entryParent_6 rfl hl (by decide) rfl (fun ls hl => ?_)
  refine lv_iload_n hx hb dX4_entryParent_7 rfl (lv_at hl 0 rfl) ?_
  refine lv_iconst (v := (-1)) hx hb dX4_entryParent_8 (by decide) ?_
  refine x_neM_M (tgt := 16) hx hb dX4_entryParent_9 (by decide) ?_
  refine lv_iconst (v := (nI 0)) hx hb dX4_entryParent_12 (by decide) ?_
  refine lv_goto (tgt := 27) hx hb dX4_entryParent_13 (by decide) ?_
  exact W.iret (v := (nI 0)) hx hb hr (fun t ht hW => ⟨⟨_, (), rfl, rfl, by rw [ht]; exact hP, hD⟩, hS.F ht⟩) hS.2.2 dX4_entryParent_27

set_option maxHeartbeats 4000000 in
set_option maxRecDepth 100000 in
/-- reference: entryParent -/
theorem m_entryParent (l : Launch) (dG : va_G) (cI cJ : ClassId) (A : Nat → Prop) (mo mN mD mP mH mR mQ mF mO : Nat) (near : Nat → Int64) (n ec : Nat) (bt : Bool) (dis par hubs rnks que far frm : Nat → Int32) (vi cu pu pn wn : Nat) (th : Int32) (L P : Nat → Nat → Option Nat) (hR : RepM 0 L P dis par) (hB : LBd L (2 ^ 30)) (hn : n ≤ 48) (u : Nat) (hu : u < n) (y : Int32) (hw0 : wr (nI u) (nI u) n bt = 0) (q0 : Nat) (hf : fnd (fun k => (L u k).isSome) y n = some q0) (hs9 : (L u q0).isSome = true) (X : va_W) : Met l yX4_entryParent wsX4_entryParent ({ frames := 3, cells := 0, slots := 0, locals := 69 } : Room) (WPc dG cI cJ [.ref mo, .int (nI u), .int y] (MW cI cJ mo mN mD mP mH mR mQ mF mO near (nI n) (nI ec) (bI bt) dis par hubs rnks que far frm (nI vi) (nI cu) (nI pu) (nI pn) (nI wn) th ++ X) A) (va_Qi (S := Unit) (fun r _ => r = eN (P u q0)) (fun _ => WB dG A (MW cI cJ mo mN mD mP mH mR mQ mF mO near (nI n) (nI ec) (bI bt) dis par hubs rnks que far frm (nI vi) (nI cu) (nI pu) (nI pn) (nI wn) (nI 0) ++ X)) A) 0 0 A := by
  refine Met.ofW (cc := cX4_entryParent) (maxL := 4) (ret := (some .int)) (by decide) rfl ?_
  intro p e s m args below meth c s₁ B9 hml hv
  obtain ⟨rfl, hP, hK, hD⟩ := hv
  have hx := B9.exec
  have hb := B9.bytes
  have hr := B9.returns
  have hts := atoms_spec (ws := wsX4_entryParent) B9.pre
  have hown : s.vm.findClass RX4 = some m.cls := findClass_of_methodNamed B9.named
  have hlocks := B9.notSynchronized
  have hS : va_S A s.heap s.heap [] := va_S.rf
  have hl := lv_entry ([.ref mo, .int (nI u), .int y]) (n := 4) (Nat.le_of_ble_eq_true rfl)
  rw [lg_entry_eq]
  generalize (lg_sl ([.ref mo, .int (nI u), .int y]) ++ List.replicate (4 - (lg_sl ([.ref mo, .int (nI u), .int y])).length) Slot.unset).toArray = ls at hl ⊢
  have hl : lv_has ls 4 [(0, .ref mo), (1, .int (nI u)), (2, .int y)] := hl
  have hiX4 : ∀ w ∈ wsX40, w ∈ wsX4_entryParent := by decide +kernel
  have hf17 := hts (.fieldLink RX4 17 "LandmarkLeaModel" "parents" "[I") (by decide +kernel)
  refine lv_aload_n hx hb dX4_entryParent_0 rfl (lv_at hl 0 rfl) ?_
  refine lv_iload_n hx hb dX4_entryParent_1 rfl (lv_at hl 1 rfl) ?_
  refine lv_iload_n hx hb dX4_entryParent_2 rfl (lv_at hl 2 rfl) ?_
  have hPc : va_P dG vwCl (MW cI cJ mo mN mD mP mH mR mQ mF mO near (nI n) (nI ec) (bI bt) dis par hubs rnks que far frm (nI vi) (nI cu) (nI pu) (nI pn) (nI wn) th ++ X) s.heap := hP
  have hDc : va_D A (MW cI cJ mo mN mD mP mH mR mQ mF mO near (nI n) (nI ec) (bI bt) dis par hubs rnks que far frm (nI vi) (nI cu) (nI pu) (nI pn) (nI wn) th ++ X) := hD
  refine va_calli (va_runV (As := [.int (nI u), .int y]) (rest := []) ⟨hx, hb, hml, hown, hts⟩ (m_asksEntry l dG cI cJ A mo mN mD mP mH mR mQ mF mO near n ec bt dis par hubs rnks que far frm vi cu pu pn wn th L P hR hB hn u hu y hw0 q0 hf _) (cwV 2 hts gX4_entryParent_X4_asksEntry rfl rfl rfl (by decide +kernel) ⟨Nat.le_of_ble_eq_true rfl, Nat.le_of_ble_eq_true rfl⟩) (WPc.pre hPc hDc hK (va_recv hK.1 hPc (ci := 4) (q0 := 0) rfl rfl)) rfl rfl hl.1 rfl (lv_room (Nat.le_of_ble_eq_true rfl)) dX4_entryParent_3 ⟨Nat.zero_le _, Nat.zero_le _⟩) hS (fun q _ h => h) (fun q h => h) (fun r9 u9 t H locs ht hvm hw hB hz1 hk1 hS => ?_)
  obtain ⟨hP, hD⟩ := hB
  rw [ht] at hP
  have hP : va_P dG vwCl (MW cI cJ mo mN mD mP mH mR mQ mF mO near (nI n) (nI ec) (bI bt) dis par hubs rnks que far frm (nI vi) (nI cu) (nI pu) (nI pn) (nI wn) (nI 0) ++ X) H := hP
  have hD : va_D A (MW cI cJ mo mN mD mP mH mR mQ mF mO near (nI n) (nI ec) (bI bt) dis par hubs rnks que far frm (nI vi) (nI cu) (nI pu) (nI pn) (nI wn) (nI 0) ++ X) := hD
  rw [show r9 = nI q0 from hw]
  have hq9 := fnd_lt hf
  refine lv_istore_n (lv' := [(3, .int (nI q0)), (0, .ref mo), (1, .int (nI u)), (2, .int y)]) hx hb dX4_entryParent_6 rfl hl (by decide) rfl (fun ls hl => ?_)
  refine lv_iload_n hx hb dX4_entryParent_7 rfl (lv_at hl 0 rfl) ?_
  refine lv_iconst (v := (-1)) hx hb dX4_entryParent_8 (by decide) ?_
  refine x_neM_N (tgt := 16) hx hb (by omega) dX4_entryParent_9 (by decide) ?_
  refine lv_aload_n hx hb dX4_entryParent_16 rfl (lv_at hl 1 rfl) ?_
  refine va_get (D := dG) (ci := 4) (v := .ref mP) (C := RX4) (T := TX4) (N := 17) hx hb hts hiX4 hown hK.1 hP 0 rfl rfl 5 (by decide) hf17 (fun _ h9 => h9) rfl dX4_entryParent_17 ?_
  refine lv_iconst (v := (nI 0)) hx hb dX4_entryParent_20 (by decide) ?_
  refine lv_iload_n hx hb dX4_entryParent_21 rfl (lv_at hl 2 rfl) ?_
  refine lv_iload_n hx hb dX4_entryParent_22 rfl (lv_at hl 0 rfl) ?_
  have hPc : va_P dG vwCl [] H := fun k q h => by simp at h
  refine x_ri (W.runS (As := [.int (nI 0), .int (nI u), .int (nI q0)]) (rest := [.ref mP]) ⟨hx, hb, hml, hown, hts⟩ (m_at l dG cI cJ 0 u q0) (va_cwS 3 hts gX4_entryParent_X4_at rfl rfl rfl (by decide +kernel) ⟨Nat.le_of_ble_eq_true rfl, Nat.le_of_ble_eq_true rfl⟩) (RPc.preS hPc hK) rfl rfl hl.1 rfl (lv_room (Nat.le_of_ble_eq_true rfl)) dX4_entryParent_23 ⟨Nat.zero_le _, Nat.zero_le _⟩) ?_
  refine x_iald (f := par) hx hb hK hP 3 rfl (by omega) (by decide) dX4_entryParent_26 ?_
  rw [show par (2304 * 0 + 48 * u + q0) = (eN (P u q0)) from hR.p (by omega) (by omega) hs9]
  exact W.iret (v := (eN (P u q0))) hx hb hr (fun t ht hW => ⟨⟨_, (), rfl, rfl, by rw [ht]; exact hP, hD⟩, hS.F ht⟩) hS.2.2 dX4_entryParent_27

set_option maxHeartbeats 4000000 in
set_option maxRecDepth 100000 in
/-- reference: distance -/
theorem m_distanceX (l : Launch) (dG : va_G) (cI cJ : ClassId) (A : Nat → Prop) (mo mN mD mP mH mR mQ mF mO : Nat) (near : Nat → Int64) (n ec : Nat) (bt : Bool) (dis par hubs rnks que far frm : Nat → Int32) (vi cu pu pn wn : Nat) (th : Int32) (x y : Int32) (hn : n ≤ 48) (w : Nat) (hw9 : w < 4) (hne : ¬ w = 0) (hw0 : wr x y n bt = w) (X : va_W) : Met l yX4_distance wsX4_distance ({ frames := 3, cells := 0, slots := 0, locals := 73 } : Room) (WPc dG cI cJ [.ref mo, .int x, .int y] (MW cI cJ mo mN mD mP mH mR mQ mF mO near (nI n) (nI ec) (bI bt) dis par hubs rnks que far frm (nI vi) (nI cu) (nI pu) (nI pn) (nI wn) th ++ X) A) (va_Qi (S := Unit) (fun r _ => r = nI 0) (fun _ => WB dG A (MW cI cJ mo mN mD mP mH mR mQ mF mO near (nI n) (nI ec) (bI bt) dis par hubs rnks que far frm (nI vi) (nI cu) (nI pu) (nI pn) (nI wn) (nI w) ++ X)) A) 0 0 A := by
  refine Met.ofW (cc := cX4_distance) (maxL := 3) (ret := (some .int)) (by decide) rfl ?_
  intro p e s m args below meth c s₁ B9 hml hv
  obtain ⟨rfl, hP, hK, hD⟩ := hv
  have hx := B9.exec
  have hb := B9.bytes
  have hr := B9.returns
  have hts := atoms_spec (ws := wsX4_distance) B9.pre
  have hown : s.vm.findClass RX4 = some m.cls := findClass_of_methodNamed B9.named
  have hlocks := B9.notSynchronized
  have hS : va_S A s.heap s.heap [] := va_S.rf
  have hl := lv_entry ([.ref mo, .int x, .int y]) (n := 3) (Nat.le_of_ble_eq_true rfl)
  rw [lg_entry_eq]
  generalize (lg_sl ([.ref mo, .int x, .int y]) ++ List.replicate (3 - (lg_sl ([.ref mo, .int x, .int y])).length) Slot.unset).toArray = ls at hl ⊢
  have hl : lv_has ls 3 [(0, .ref mo), (1, .int x), (2, .int y)] := hl
  refine lv_aload_n hx hb dX4_distance_0 rfl (lv_at hl 0 rfl) ?_
  refine lv_aload_n hx hb dX4_distance_1 rfl (lv_at hl 0 rfl) ?_
  refine lv_iload_n hx hb dX4_distance_2 rfl (lv_at hl 1 rfl) ?_
  refine lv_iload_n hx hb dX4_distance_3 rfl (lv_at hl 2 rfl) ?_
  have hPc := hP.sub (ws' := (MW cI cJ mo mN mD mP mH mR mQ mF mO near (nI n) (nI ec) (bI bt) dis par hubs rnks que far frm (nI vi) (nI cu) (nI pu) (nI pn) (nI wn) th)) [0, 1, 2, 3, 4, 5, 6, 7, 8] rfl
  refine x_ri (W.runV (As := [.int x, .int y]) (rest := [.ref mo]) ⟨hx, hb, hml, hown, hts⟩ (m_wrong l dG cI cJ mo mN mD mP mH mR mQ mF mO near n ec bt dis par hubs rnks que far frm vi cu pu pn wn th (by omega) x y) (cwV 2 hts gX4_distance_X4_wrong rfl rfl rfl (by decide +kernel) ⟨Nat.le_of_ble_eq_true rfl, Nat.le_of_ble_eq_true rfl⟩) (RPc.pre hPc hK (va_recv hK.1 hPc (ci := 4) (q0 := 0) rfl rfl)) rfl rfl hl.1 rfl (lv_room (Nat.le_of_ble_eq_true rfl)) dX4_distance_4 ⟨Nat.zero_le _, Nat.zero_le _⟩) ?_
  rw [hw0]
  have hPc : va_P dG vwCl (MW cI cJ mo mN mD mP mH mR mQ mF mO near (nI n) (nI ec) (bI bt) dis par hubs rnks que far frm (nI vi) (nI cu) (nI pu) (nI pn) (nI wn) th ++ X) s.heap := hP
  have hDc : va_D A (MW cI cJ mo mN mD mP mH mR mQ mF mO near (nI n) (nI ec) (bI bt) dis par hubs rnks que far frm (nI vi) (nI cu) (nI pu) (nI pn) (nI wn) th ++ X) := hD
  refine va_calli (va_runV (As := [.int (nI w)]) (rest := []) ⟨hx, hb, hml, hown, hts⟩ (m_goes l dG cI cJ A mo mN mD mP mH mR mQ mF mO near n ec bt dis par hubs rnks que far frm vi cu pu pn wn th w (by omega) _) (cwV 1 hts gX4_distance_X4_goes rfl rfl rfl (by decide +kernel) ⟨Nat.le_of_ble_eq_true rfl, Nat.le_of_ble_eq_true rfl⟩) (WPc.pre hPc hDc hK (va_recv hK.1 hPc (ci := 4) (q0 := 0) rfl rfl)) rfl rfl hl.1 rfl (lv_room (Nat.le_of_ble_eq_true rfl)) dX4_distance_7 ⟨Nat.zero_le _, Nat.zero_le _⟩) hS (fun q _ h => h) (fun q h => h) (fun r9 u9 t H locs ht hvm hw hB hz1 hk1 hS => ?_)
  obtain ⟨hP, hD⟩ := hB
  rw [ht] at hP
  have hP : va_P dG vwCl (MW cI cJ mo mN mD mP mH mR mQ mF mO near (nI n) (nI ec) (bI bt) dis par hubs rnks que far frm (nI vi) (nI cu) (nI pu) (nI pn) (nI wn) (nI w) ++ X) H := hP
  have hD : va_D A (MW cI cJ mo mN mD mP mH mR mQ mF mO near (nI n) (nI ec) (bI bt) dis par hubs rnks que far frm (nI vi) (nI cu) (nI pu) (nI pn) (nI wn) (nI w) ++ X) := hD
  rw [show r9 = bI false from hw.trans (by rw [decide_eq_false hne])]
  refine x_ifeqB (tgt := 22) hx hb dX4_distance_10 (by decide) (fun h9 => ?_) (fun h9 => absurd h9 (by decide))
  refine lv_iconst (v := (nI 0)) hx hb dX4_distance_22 (by decide) ?_
  exact W.iret (v := (nI 0)) hx hb hr (fun t ht hW => ⟨⟨_, (), rfl, rfl, by rw [ht]; exact hP, hD⟩, hS.F ht⟩) hS.2.2 dX4_distance_23

set_option maxHeartbeats 4000000 in
set_option maxRecDepth 100000 in
/-- reference: distance -/
theorem m_distance (l : Launch) (dG : va_G) (cI cJ : ClassId) (A : Nat → Prop) (mo mN mD mP mH mR mQ mF mO : Nat) (near : Nat → Int64) (n ec : Nat) (bt : Bool) (dis par hubs rnks que far frm : Nat → Int32) (vi cu pu pn wn : Nat) (th : Int32) (L P : Nat → Nat → Option Nat) (hR : RepM 0 L P dis par) (hB : LBd L (2 ^ 30)) (hn : n ≤ 48) (u v : Nat) (hu : u < n) (hv : v < n) (hw0 : wr (nI u) (nI v) n bt = 0) (X : va_W) : Met l yX4_distance wsX4_distance ({ frames := 3, cells := 0, slots := 0, locals := 73 } : Room) (WPc dG cI cJ [.ref mo, .int (nI u), .int (nI v)] (MW cI cJ mo mN mD mP mH mR mQ mF mO near (nI n) (nI ec) (bI bt) dis par hubs rnks que far frm (nI vi) (nI cu) (nI pu) (nI pn) (nI wn) th ++ X) A) (va_Qi (S := Unit) (fun r _ => r = eN (es L u v n)) (fun _ => WB dG A (MW cI cJ mo mN mD mP mH mR mQ mF mO near (nI n) (nI ec) (bI bt) dis par hubs rnks que far frm (nI vi) (nI cu) (nI pu) (nI pn) (nI wn) (nI 0) ++ X)) A) 0 0 A := by
  refine Met.ofW (cc := cX4_distance) (maxL := 3) (ret := (some .int)) (by decide) rfl ?_
  intro p e s m args below meth c s₁ B9 hml hv
  obtain ⟨rfl, hP, hK, hD⟩ := hv
  have hx := B9.exec
  have hb := B9.bytes
  have hr := B9.returns
  have hts := atoms_spec (ws := wsX4_distance) B9.pre
  have hown : s.vm.findClass RX4 = some m.cls := findClass_of_methodNamed B9.named
  have hlocks := B9.notSynchronized
  have hS : va_S A s.heap s.heap [] := va_S.rf
  have hl := lv_entry ([.ref mo, .int (nI u), .int (nI v)]) (n := 3) (Nat.le_of_ble_eq_true rfl)
  rw [lg_entry_eq]
  generalize (lg_sl ([.ref mo, .int (nI u), .int (nI v)]) ++ List.replicate (3 - (lg_sl ([.ref mo, .int (nI u), .int (nI v)])).length) Slot.unset).toArray = ls at hl ⊢
  have hl : lv_has ls 3 [(0, .ref mo), (1, .int (nI u)), (2, .int (nI v))] := hl
  refine lv_aload_n hx hb dX4_distance_0 rfl (lv_at hl 0 rfl) ?_
  refine lv_aload_n hx hb dX4_distance_1 rfl (lv_at hl 0 rfl) ?_
  refine lv_iload_n hx hb dX4_distance_2 rfl (lv_at hl 1 rfl) ?_
  refine lv_iload_n hx hb dX4_distance_3 rfl (lv_at hl 2 rfl) ?_
  have hPc := hP.sub (ws' := (MW cI cJ mo mN mD mP mH mR mQ mF mO near (nI n) (nI ec) (bI bt) dis par hubs rnks que far frm (nI vi) (nI cu) (nI pu) (nI pn) (nI wn) th)) [0, 1, 2, 3, 4, 5, 6, 7, 8] rfl
  refine x_ri (W.runV (As := [.int (nI u), .int (nI v)]) (rest := [.ref mo]) ⟨hx, hb, hml, hown, hts⟩ (m_wrong l dG cI cJ mo mN mD mP mH mR mQ mF mO near n ec bt dis par hubs rnks que far frm vi cu pu pn wn th (by omega) (nI u) (nI v)) (cwV 2 hts gX4_distance_X4_wrong rfl rfl rfl (by decide +kernel) ⟨Nat.le_of_ble_eq_true rfl, Nat.le_of_ble_eq_true rfl⟩) (RPc.pre hPc hK (va_recv hK.1 hPc (ci := 4) (q0 := 0) rfl rfl)) rfl rfl hl.1 rfl (lv_room (Nat.le_of_ble_eq_true rfl)) dX4_distance_4 ⟨Nat.zero_le _, Nat.zero_le _⟩) ?_
  rw [hw0]
  have hPc : va_P dG vwCl (MW cI cJ mo mN mD mP mH mR mQ mF mO near (nI n) (nI ec) (bI bt) dis par hubs rnks que far frm (nI vi) (nI cu) (nI pu) (nI pn) (nI wn) th ++ X) s.heap := hP
  have hDc : va_D A (MW cI cJ mo mN mD mP mH mR mQ mF mO near (nI n) (nI ec) (bI bt) dis par hubs rnks que far frm (nI vi) (nI cu) (nI pu) (nI pn) (nI wn) th ++ X) := hD
  refine va_calli (va_runV (As := [.int (nI 0)]) (rest := []) ⟨hx, hb, hml, hown, hts⟩ (m_goes l dG cI cJ A mo mN mD mP mH mR mQ mF mO near n ec bt dis par hubs rnks que far frm vi cu pu pn wn th 0 (by omega) _) (cwV 1 hts gX4_distance_X4_goes rfl rfl rfl (by decide +kernel) ⟨Nat.le_of_ble_eq_true rfl, Nat.le_of_ble_eq_true rfl⟩) (WPc.pre hPc hDc hK (va_recv hK.1 hPc (ci := 4) (q0 := 0) rfl rfl)) rfl rfl hl.1 rfl (lv_room (Nat.le_of_ble_eq_true rfl)) dX4_distance_7 ⟨Nat.zero_le _, Nat.zero_le _⟩) hS (fun q _ h => h) (fun q h => h) (fun r9 u9 t H locs ht hvm hw hB hz1 hk1 hS => ?_)
  obtain ⟨hP, hD⟩ := hB
  rw [ht] at hP
  have hP : va_P dG vwCl (MW cI cJ mo mN mD mP mH mR mQ mF mO near (nI n) (nI ec) (bI bt) dis par hubs rnks que far frm (nI vi) (nI cu) (nI pu) (nI pn) (nI wn) (nI 0) ++ X) H := hP
  have hD : va_D A (MW cI cJ mo mN mD mP mH mR mQ mF mO near (nI n) (nI ec) (bI bt) dis par hubs rnks que far frm (nI vi) (nI cu) (nI pu) (nI pn) (nI wn) (nI 0) ++ X) := hD
  rw [show r9 = bI true from hw]
  refine x_ifeqB (tgt := 22) hx hb dX4_distance_10 (by decide) (fun h9 => absurd h9 (by decide)) (fun h9 => ?_)
  refine lv_aload_n hx hb dX4_distance_13 rfl (lv_at hl 0 rfl) ?_
  refine lv_iload_n hx hb dX4_distance_14 rfl (lv_at hl 1 rfl) ?_
  refine lv_iload_n hx hb dX4_distance_15 rfl (lv_at hl 2 rfl) ?_
  have hPc := hP.sub (ws' := (MW cI cJ mo mN mD mP mH mR mQ mF mO near (nI n) (nI ec) (bI bt) dis par hubs rnks que far frm (nI vi) (nI cu) (nI pu) (nI pn) (nI wn) (nI 0))) [0, 1, 2, 3, 4, 5, 6, 7, 8] rfl
  refine x_ri (W.runV (As := [.int (nI u), .int (nI v)]) (rest := []) ⟨hx, hb, hml, hown, hts⟩ (m_between l dG cI cJ mo mN mD mP mH mR mQ mF mO near n ec bt dis par hubs rnks que far frm vi cu pu pn wn (nI 0) L P hR hB hn (by omega) u v (by omega) (by omega)) (cwV 2 hts gX4_distance_X4_between rfl rfl rfl (by decide +kernel) ⟨Nat.le_of_ble_eq_true rfl, Nat.le_of_ble_eq_true rfl⟩) (RPc.pre hPc hK (va_recv hK.1 hPc (ci := 4) (q0 := 0) rfl rfl)) rfl rfl hl.1 rfl (lv_room (Nat.le_of_ble_eq_true rfl)) dX4_distance_16 ⟨Nat.zero_le _, Nat.zero_le _⟩) ?_
  refine lv_goto (tgt := 23) hx hb dX4_distance_19 (by decide) ?_
  exact W.iret (v := (eN (es L u v n))) hx hb hr (fun t ht hW => ⟨⟨_, (), rfl, rfl, by rw [ht]; exact hP, hD⟩, hS.F ht⟩) hS.2.2 dX4_distance_23

set_option maxHeartbeats 4000000 in
set_option maxRecDepth 100000 in
/-- reference: hub -/
theorem m_hubX (l : Launch) (dG : va_G) (cI cJ : ClassId) (A : Nat → Prop) (mo mN mD mP mH mR mQ mF mO : Nat) (near : Nat → Int64) (n ec : Nat) (bt : Bool) (dis par hubs rnks que far frm : Nat → Int32) (vi cu pu pn wn : Nat) (th : Int32) (x y : Int32) (hn : n ≤ 48) (w : Nat) (hw9 : w < 4) (hne : ¬ w = 0) (hw0 : wr x y n bt = w) (X : va_W) : Met l yX4_hub wsX4_hub ({ frames := 4, cells := 0, slots := 0, locals := 100 } : Room) (WPc dG cI cJ [.ref mo, .int x, .int y] (MW cI cJ mo mN mD mP mH mR mQ mF mO near (nI n) (nI ec) (bI bt) dis par hubs rnks que far frm (nI vi) (nI cu) (nI pu) (nI pn) (nI wn) th ++ X) A) (va_Qi (S := Unit) (fun r _ => r = nI 0) (fun _ => WB dG A (MW cI cJ mo mN mD mP mH mR mQ mF mO near (nI n) (nI ec) (bI bt) dis par hubs rnks que far frm (nI vi) (nI cu) (nI pu) (nI pn) (nI wn) (nI w) ++ X)) A) 0 0 A := by
  refine Met.ofW (cc := cX4_hub) (maxL := 4) (ret := (some .int)) (by decide) rfl ?_
  intro p e s m args below meth c s₁ B9 hml hv
  obtain ⟨rfl, hP, hK, hD⟩ := hv
  have hx := B9.exec
  have hb := B9.bytes
  have hr := B9.returns
  have hts := atoms_spec (ws := wsX4_hub) B9.pre
  have hown : s.vm.findClass RX4 = some m.cls := findClass_of_methodNamed B9.named
  have hlocks := B9.notSynchronized
  have hS : va_S A s.heap s.heap [] := va_S.rf
  have hl := lv_entry ([.ref mo, .int x, .int y]) (n := 4) (Nat.le_of_ble_eq_true rfl)
  rw [lg_entry_eq]
  generalize (lg_sl ([.ref mo, .int x, .int y]) ++ List.replicate (4 - (lg_sl ([.ref mo, .int x, .int y])).length) Slot.unset).toArray = ls at hl ⊢
  have hl : lv_has ls 4 [(0, .ref mo), (1, .int x), (2, .int y)] := hl
  have hiX4 : ∀ w ∈ wsX40, w ∈ wsX4_hub := by decide +kernel
  have hf20 := hts (.fieldLink RX4 20 "LandmarkLeaModel" "hubs" "[I") (by decide +kernel)
  refine lv_aload_n hx hb dX4_hub_0 rfl (lv_at hl 0 rfl) ?_
  refine lv_aload_n hx hb dX4_hub_1 rfl (lv_at hl 0 rfl) ?_
  refine lv_iload_n hx hb dX4_hub_2 rfl (lv_at hl 1 rfl) ?_
  refine lv_iload_n hx hb dX4_hub_3 rfl (lv_at hl 2 rfl) ?_
  have hPc := hP.sub (ws' := (MW cI cJ mo mN mD mP mH mR mQ mF mO near (nI n) (nI ec) (bI bt) dis par hubs rnks que far frm (nI vi) (nI cu) (nI pu) (nI pn) (nI wn) th)) [0, 1, 2, 3, 4, 5, 6, 7, 8] rfl
  refine x_ri (W.runV (As := [.int x, .int y]) (rest := [.ref mo]) ⟨hx, hb, hml, hown, hts⟩ (m_wrong l dG cI cJ mo mN mD mP mH mR mQ mF mO near n ec bt dis par hubs rnks que far frm vi cu pu pn wn th (by omega) x y) (cwV 2 hts gX4_hub_X4_wrong rfl rfl rfl (by decide +kernel) ⟨Nat.le_of_ble_eq_true rfl, Nat.le_of_ble_eq_true rfl⟩) (RPc.pre hPc hK (va_recv hK.1 hPc (ci := 4) (q0 := 0) rfl rfl)) rfl rfl hl.1 rfl (lv_room (Nat.le_of_ble_eq_true rfl)) dX4_hub_4 ⟨Nat.zero_le _, Nat.zero_le _⟩) ?_
  rw [hw0]
  have hPc : va_P dG vwCl (MW cI cJ mo mN mD mP mH mR mQ mF mO near (nI n) (nI ec) (bI bt) dis par hubs rnks que far frm (nI vi) (nI cu) (nI pu) (nI pn) (nI wn) th ++ X) s.heap := hP
  have hDc : va_D A (MW cI cJ mo mN mD mP mH mR mQ mF mO near (nI n) (nI ec) (bI bt) dis par hubs rnks que far frm (nI vi) (nI cu) (nI pu) (nI pn) (nI wn) th ++ X) := hD
  refine va_calli (va_runV (As := [.int (nI w)]) (rest := []) ⟨hx, hb, hml, hown, hts⟩ (m_goes l dG cI cJ A mo mN mD mP mH mR mQ mF mO near n ec bt dis par hubs rnks que far frm vi cu pu pn wn th w (by omega) _) (cwV 1 hts gX4_hub_X4_goes rfl rfl rfl (by decide +kernel) ⟨Nat.le_of_ble_eq_true rfl, Nat.le_of_ble_eq_true rfl⟩) (WPc.pre hPc hDc hK (va_recv hK.1 hPc (ci := 4) (q0 := 0) rfl rfl)) rfl rfl hl.1 rfl (lv_room (Nat.le_of_ble_eq_true rfl)) dX4_hub_7 ⟨Nat.zero_le _, Nat.zero_le _⟩) hS (fun q _ h => h) (fun q h => h) (fun r9 u9 t H locs ht hvm hw hB hz1 hk1 hS => ?_)
  obtain ⟨hP, hD⟩ := hB
  rw [ht] at hP
  have hP : va_P dG vwCl (MW cI cJ mo mN mD mP mH mR mQ mF mO near (nI n) (nI ec) (bI bt) dis par hubs rnks que far frm (nI vi) (nI cu) (nI pu) (nI pn) (nI wn) (nI w) ++ X) H := hP
  have hD : va_D A (MW cI cJ mo mN mD mP mH mR mQ mF mO near (nI n) (nI ec) (bI bt) dis par hubs rnks que far frm (nI vi) (nI cu) (nI pu) (nI pn) (nI wn) (nI w) ++ X) := hD
  rw [show r9 = bI false from hw.trans (by rw [decide_eq_false hne])]
  refine x_ifneB (tgt := 15) hx hb dX4_hub_10 (by decide) (fun h9 => absurd h9 (by decide)) (fun h9 => ?_)
  refine lv_iconst (v := (nI 0)) hx hb dX4_hub_13 (by decide) ?_
  exact W.iret (v := (nI 0)) hx hb hr (fun t ht hW => ⟨⟨_, (), rfl, rfl, by rw [ht]; exact hP, hD⟩, hS.F ht⟩) hS.2.2 dX4_hub_14

set_option maxHeartbeats 4000000 in
set_option maxRecDepth 100000 in
/-- reference: hub -/
theorem m_hub (l : Launch) (dG : va_G) (cI cJ : ClassId) (A : Nat → Prop) (mo mN mD mP mH mR mQ mF mO : Nat) (near : Nat → Int64) (n ec : Nat) (bt : Bool) (dis par hubs rnks que far frm : Nat → Int32) (vi cu pu pn wn : Nat) (th : Int32) (L P : Nat → Nat → Option Nat) (hR : RepM 0 L P dis par) (hB : LBd L (2 ^ 30)) (hn : n ≤ 48) (u v : Nat) (hu : u < n) (hv : v < n) (hw0 : wr (nI u) (nI v) n bt = 0) (hb0 : Nat → Nat) (hhb : ∀ k, k < n → hubs k = nI (hb0 k)) (X : va_W) : Met l yX4_hub wsX4_hub ({ frames := 4, cells := 0, slots := 0, locals := 100 } : Room) (WPc dG cI cJ [.ref mo, .int (nI u), .int (nI v)] (MW cI cJ mo mN mD mP mH mR mQ mF mO near (nI n) (nI ec) (bI bt) dis par hubs rnks que far frm (nI vi) (nI cu) (nI pu) (nI pn) (nI wn) th ++ X) A) (va_Qi (S := Unit) (fun r _ => r = eN ((mr L u v n).map hb0)) (fun _ => WB dG A (MW cI cJ mo mN mD mP mH mR mQ mF mO near (nI n) (nI ec) (bI bt) dis par hubs rnks que far frm (nI vi) (nI cu) (nI pu) (nI pn) (nI wn) (nI 0) ++ X)) A) 0 0 A := by
  refine Met.ofW (cc := cX4_hub) (maxL := 4) (ret := (some .int)) (by decide) rfl ?_
  intro p e s m args below meth c s₁ B9 hml hv
  obtain ⟨rfl, hP, hK, hD⟩ := hv
  have hx := B9.exec
  have hb := B9.bytes
  have hr := B9.returns
  have hts := atoms_spec (ws := wsX4_hub) B9.pre
  have hown : s.vm.findClass RX4 = some m.cls := findClass_of_methodNamed B9.named
  have hlocks := B9.notSynchronized
  have hS : va_S A s.heap s.heap [] := va_S.rf
  have hl := lv_entry ([.ref mo, .int (nI u), .int (nI v)]) (n := 4) (Nat.le_of_ble_eq_true rfl)
  rw [lg_entry_eq]
  generalize (lg_sl ([.ref mo, .int (nI u), .int (nI v)]) ++ List.replicate (4 - (lg_sl ([.ref mo, .int (nI u), .int (nI v)])).length) Slot.unset).toArray = ls at hl ⊢
  have hl : lv_has ls 4 [(0, .ref mo), (1, .int (nI u)), (2, .int (nI v))] := hl
  have hiX4 : ∀ w ∈ wsX40, w ∈ wsX4_hub := by decide +kernel
  have hf20 := hts (.fieldLink RX4 20 "LandmarkLeaModel" "hubs" "[I") (by decide +kernel)
  refine lv_aload_n hx hb dX4_hub_0 rfl (lv_at hl 0 rfl) ?_
  refine lv_aload_n hx hb dX4_hub_1 rfl (lv_at hl 0 rfl) ?_
  refine lv_iload_n hx hb dX4_hub_2 rfl (lv_at hl 1 rfl) ?_
  refine lv_iload_n hx hb dX4_hub_3 rfl (lv_at hl 2 rfl) ?_
  have hPc := hP.sub (ws' := (MW cI cJ mo mN mD mP mH mR mQ mF mO near (nI n) (nI ec) (bI bt) dis par hubs rnks que far frm (nI vi) (nI cu) (nI pu) (nI pn) (nI wn) th)) [0, 1, 2, 3, 4, 5, 6, 7, 8] rfl
  refine x_ri (W.runV (As := [.int (nI u), .int (nI v)]) (rest := [.ref mo]) ⟨hx, hb, hml, hown, hts⟩ (m_wrong l dG cI cJ mo mN mD mP mH mR mQ mF mO near n ec bt dis par hubs rnks que far frm vi cu pu pn wn th (by omega) (nI u) (nI v)) (cwV 2 hts gX4_hub_X4_wrong rfl rfl rfl (by decide +kernel) ⟨Nat.le_of_ble_eq_true rfl, Nat.le_of_ble_eq_true rfl⟩) (RPc.pre hPc hK (va_recv hK.1 hPc (ci := 4) (q0 := 0) rfl rfl)) rfl rfl hl.1 rfl (lv_room (Nat.le_of_ble_eq_true rfl)) dX4_hub_4 ⟨Nat.zero_le _, Nat.zero_le _⟩) ?_
  rw [hw0]
  have hPc : va_P dG vwCl (MW cI cJ mo mN mD mP mH mR mQ mF mO near (nI n) (nI ec) (bI bt) dis par hubs rnks que far frm (nI vi) (nI cu) (nI pu) (nI pn) (nI wn) th ++ X) s.heap := hP
  have hDc : va_D A (MW cI cJ mo mN mD mP mH mR mQ mF mO near (nI n) (nI ec) (bI bt) dis par hubs rnks que far frm (nI vi) (nI cu) (nI pu) (nI pn) (nI wn) th ++ X) := hD
  refine va_calli (va_runV (As := [.int (nI 0)]) (rest := []) ⟨hx, hb, hml, hown, hts⟩ (m_goes l dG cI cJ A mo mN mD mP mH mR mQ mF mO near n ec bt dis par hubs rnks que far frm vi cu pu pn wn th 0 (by omega) _) (cwV 1 hts gX4_hub_X4_goes rfl rfl rfl (by decide +kernel) ⟨Nat.le_of_ble_eq_true rfl, Nat.le_of_ble_eq_true rfl⟩) (WPc.pre hPc hDc hK (va_recv hK.1 hPc (ci := 4) (q0 := 0) rfl rfl)) rfl rfl hl.1 rfl (lv_room (Nat.le_of_ble_eq_true rfl)) dX4_hub_7 ⟨Nat.zero_le _, Nat.zero_le _⟩) hS (fun q _ h => h) (fun q h => h) (fun r9 u9 t H locs ht hvm hw hB hz1 hk1 hS => ?_)
  obtain ⟨hP, hD⟩ := hB
  rw [ht] at hP
  have hP : va_P dG vwCl (MW cI cJ mo mN mD mP mH mR mQ mF mO near (nI n) (nI ec) (bI bt) dis par hubs rnks que far frm (nI vi) (nI cu) (nI pu) (nI pn) (nI wn) (nI 0) ++ X) H := hP
  have hD : va_D A (MW cI cJ mo mN mD mP mH mR mQ mF mO near (nI n) (nI ec) (bI bt) dis par hubs rnks que far frm (nI vi) (nI cu) (nI pu) (nI pn) (nI wn) (nI 0) ++ X) := hD
  rw [show r9 = bI true from hw]
  refine x_ifneB (tgt := 15) hx hb dX4_hub_10 (by decide) (fun h9 => ?_) (fun h9 => absurd h9 (by decide))
  refine lv_aload_n hx hb dX4_hub_15 rfl (lv_at hl 0 rfl) ?_
  refine lv_iload_n hx hb dX4_hub_16 rfl (lv_at hl 1 rfl) ?_
  refine lv_iload_n hx hb dX4_hub_17 rfl (lv_at hl 2 rfl) ?_
  have hPc := hP.sub (ws' := (MW cI cJ mo mN mD mP mH mR mQ mF mO near (nI n) (nI ec) (bI bt) dis par hubs rnks que far frm (nI vi) (nI cu) (nI pu) (nI pn) (nI wn) (nI 0))) [0, 1, 2, 3, 4, 5, 6, 7, 8] rfl
  refine x_ri (W.runV (As := [.int (nI u), .int (nI v)]) (rest := []) ⟨hx, hb, hml, hown, hts⟩ (m_rankBetween l dG cI cJ mo mN mD mP mH mR mQ mF mO near n ec bt dis par hubs rnks que far frm vi cu pu pn wn (nI 0) L P hR hB hn (by omega) u v (by omega) (by omega)) (cwV 2 hts gX4_hub_X4_rankBetween rfl rfl rfl (by decide +kernel) ⟨Nat.le_of_ble_eq_true rfl, Nat.le_of_ble_eq_true rfl⟩) (RPc.pre hPc hK (va_recv hK.1 hPc (ci := 4) (q0 := 0) rfl rfl)) rfl rfl hl.1 rfl (lv_room (Nat.le_of_ble_eq_true rfl)) dX4_hub_18 ⟨Nat.zero_le _, Nat.zero_le _⟩) ?_
  refine lv_istore_n (lv' := [(3, .int (eN (mr L u v n))), (0, .ref mo), (1, .int (nI u)), (2, .int (nI v))]) hx hb dX4_hub_21 rfl hl (by decide) rfl (fun ls hl => ?_)
  rcases hm : mr L u v n with _ | q
  · skip
    have hl : lv_has ls 4 [(3, .int (-1)), (0, .ref mo), (1, .int (nI u)), (2, .int (nI v))] := by rw [hm] at hl; exact hl
    refine lv_iload_n hx hb dX4_hub_22 rfl (lv_at hl 0 rfl) ?_
    refine lv_iconst (v := (-1)) hx hb dX4_hub_23 (by decide) ?_
    refine x_neM_M (tgt := 31) hx hb dX4_hub_24 (by decide) ?_
    refine lv_iconst (v := (-1)) hx hb dX4_hub_27 (by decide) ?_
    refine lv_goto (tgt := 37) hx hb dX4_hub_28 (by decide) ?_
    exact W.iret (v := (-1)) hx hb hr (fun t ht hW => ⟨⟨_, (), rfl, rfl, by rw [ht]; exact hP, hD⟩, hS.F ht⟩) hS.2.2 dX4_hub_37
  · skip
    have hl : lv_has ls 4 [(3, .int (nI q)), (0, .ref mo), (1, .int (nI u)), (2, .int (nI v))] := by rw [hm] at hl; exact hl
    have ho := mr_ok hm
    refine lv_iload_n hx hb dX4_hub_22 rfl (lv_at hl 0 rfl) ?_
    refine lv_iconst (v := (-1)) hx hb dX4_hub_23 (by decide) ?_
    refine x_neM_N (tgt := 31) hx hb (by omega) dX4_hub_24 (by decide) ?_
    refine lv_aload_n hx hb dX4_hub_31 rfl (lv_at hl 1 rfl) ?_
    refine va_get (D := dG) (ci := 4) (v := .ref mH) (C := RX4) (T := TX4) (N := 17) hx hb hts hiX4 hown hK.1 hP 0 rfl rfl 6 (by decide) hf20 (fun _ h9 => h9) rfl dX4_hub_32 ?_
    refine lv_iload_n hx hb dX4_hub_35 rfl (lv_at hl 0 rfl) ?_
    refine x_iald (f := hubs) hx hb hK hP 4 rfl (by omega) (by decide) dX4_hub_36 ?_
    rw [show hubs q = (nI (hb0 q)) from hhb q ho.1]
    exact W.iret (v := (nI (hb0 q))) hx hb hr (fun t ht hW => ⟨⟨_, (), rfl, rfl, by rw [ht]; exact hP, hD⟩, hS.F ht⟩) hS.2.2 dX4_hub_37

set_option maxHeartbeats 4000000 in
set_option maxRecDepth 100000 in
/-- reference: pathVertex -/
theorem m_pathVertexX (l : Launch) (dG : va_G) (cI cJ : ClassId) (A : Nat → Prop) (mo mN mD mP mH mR mQ mF mO : Nat) (near : Nat → Int64) (n ec : Nat) (bt : Bool) (dis par hubs rnks que far frm : Nat → Int32) (vi cu pu pn wn : Nat) (th : Int32) (x y z : Int32) (hn : n ≤ 48) (w : Nat) (hw9 : w < 4) (hne : ¬ w = 0) (hw0 : wr x y n bt = w) (X : va_W) : Met l yX4_pathVertex wsX4_pathVertex ({ frames := 4, cells := 0, slots := 0, locals := 100 } : Room) (WPc dG cI cJ [.ref mo, .int x, .int y, .int z] (MW cI cJ mo mN mD mP mH mR mQ mF mO near (nI n) (nI ec) (bI bt) dis par hubs rnks que far frm (nI vi) (nI cu) (nI pu) (nI pn) (nI wn) th ++ X) A) (va_Qi (S := Unit) (fun r _ => r = nI 0) (fun _ => WB dG A (MW cI cJ mo mN mD mP mH mR mQ mF mO near (nI n) (nI ec) (bI bt) dis par hubs rnks que far frm (nI vi) (nI cu) (nI pu) (nI pn) (nI wn) (nI w) ++ X)) A) 0 0 A := by
  refine Met.ofW (cc := cX4_pathVertex) (maxL := 8) (ret := (some .int)) (by decide) rfl ?_
  intro p e s m args below meth c s₁ B9 hml hv
  obtain ⟨rfl, hP, hK, hD⟩ := hv
  have hx := B9.exec
  have hb := B9.bytes
  have hr := B9.returns
  have hts := atoms_spec (ws := wsX4_pathVertex) B9.pre
  have hown : s.vm.findClass RX4 = some m.cls := findClass_of_methodNamed B9.named
  have hlocks := B9.notSynchronized
  have hS : va_S A s.heap s.heap [] := va_S.rf
  have hl := lv_entry ([.ref mo, .int x, .int y, .int z]) (n := 8) (Nat.le_of_ble_eq_true rfl)
  rw [lg_entry_eq]
  generalize (lg_sl ([.ref mo, .int x, .int y, .int z]) ++ List.replicate (8 - (lg_sl ([.ref mo, .int x, .int y, .int z])).length) Slot.unset).toArray = ls at hl ⊢
  have hl : lv_has ls 8 [(0, .ref mo), (1, .int x), (2, .int y), (3, .int z)] := hl
  refine lv_aload_n hx hb dX4_pathVertex_0 rfl (lv_at hl 0 rfl) ?_
  refine lv_iload_n hx hb dX4_pathVertex_1 rfl (lv_at hl 1 rfl) ?_
  refine lv_iload_n hx hb dX4_pathVertex_2 rfl (lv_at hl 2 rfl) ?_
  have hPc := hP.sub (ws' := (MW cI cJ mo mN mD mP mH mR mQ mF mO near (nI n) (nI ec) (bI bt) dis par hubs rnks que far frm (nI vi) (nI cu) (nI pu) (nI pn) (nI wn) th)) [0, 1, 2, 3, 4, 5, 6, 7, 8] rfl
  refine x_ri (W.runV (As := [.int x, .int y]) (rest := []) ⟨hx, hb, hml, hown, hts⟩ (m_wrong l dG cI cJ mo mN mD mP mH mR mQ mF mO near n ec bt dis par hubs rnks que far frm vi cu pu pn wn th (by omega) x y) (cwV 2 hts gX4_pathVertex_X4_wrong rfl rfl rfl (by decide +kernel) ⟨Nat.le_of_ble_eq_true rfl, Nat.le_of_ble_eq_true rfl⟩) (RPc.pre hPc hK (va_recv hK.1 hPc (ci := 4) (q0 := 0) rfl rfl)) rfl rfl hl.1 rfl (lv_room (Nat.le_of_ble_eq_true rfl)) dX4_pathVertex_3 ⟨Nat.zero_le _, Nat.zero_le _⟩) ?_
  rw [hw0]
  refine lv_istore (lv' := [(4, .int (nI w)), (0, .ref mo), (1, .int x), (2, .int y), (3, .int z)]) hx hb dX4_pathVertex_6 hl (by decide) rfl (fun ls hl => ?_)
  refine lv_aload_n hx hb dX4_pathVertex_8 rfl (lv_at hl 1 rfl) ?_
  refine lv_iload hx hb dX4_pathVertex_9 (lv_at hl 0 rfl) ?_
  refine lv_if_le (tgt := 19) hx hb dX4_pathVertex_11 (by decide) (fun h9 => absurd h9 (nI_nle (by omega) (by omega))) (fun _ => ?_)
  refine lv_iload hx hb dX4_pathVertex_14 (lv_at hl 0 rfl) ?_
  refine lv_goto (tgt := 28) hx hb dX4_pathVertex_16 (by decide) ?_
  have hPc : va_P dG vwCl (MW cI cJ mo mN mD mP mH mR mQ mF mO near (nI n) (nI ec) (bI bt) dis par hubs rnks que far frm (nI vi) (nI cu) (nI pu) (nI pn) (nI wn) th ++ X) s.heap := hP
  have hDc : va_D A (MW cI cJ mo mN mD mP mH mR mQ mF mO near (nI n) (nI ec) (bI bt) dis par hubs rnks que far frm (nI vi) (nI cu) (nI pu) (nI pn) (nI wn) th ++ X) := hD
  refine va_calli (va_runV (As := [.int (nI w)]) (rest := []) ⟨hx, hb, hml, hown, hts⟩ (m_goes l dG cI cJ A mo mN mD mP mH mR mQ mF mO near n ec bt dis par hubs rnks que far frm vi cu pu pn wn th w (by omega) _) (cwV 1 hts gX4_pathVertex_X4_goes rfl rfl rfl (by decide +kernel) ⟨Nat.le_of_ble_eq_true rfl, Nat.le_of_ble_eq_true rfl⟩) (WPc.pre hPc hDc hK (va_recv hK.1 hPc (ci := 4) (q0 := 0) rfl rfl)) rfl rfl hl.1 rfl (lv_room (Nat.le_of_ble_eq_true rfl)) dX4_pathVertex_28 ⟨Nat.zero_le _, Nat.zero_le _⟩) hS (fun q _ h => h) (fun q h => h) (fun r9 u9 t H locs ht hvm hw hB hz1 hk1 hS => ?_)
  obtain ⟨hP, hD⟩ := hB
  rw [ht] at hP
  have hP : va_P dG vwCl (MW cI cJ mo mN mD mP mH mR mQ mF mO near (nI n) (nI ec) (bI bt) dis par hubs rnks que far frm (nI vi) (nI cu) (nI pu) (nI pn) (nI wn) (nI w) ++ X) H := hP
  have hD : va_D A (MW cI cJ mo mN mD mP mH mR mQ mF mO near (nI n) (nI ec) (bI bt) dis par hubs rnks que far frm (nI vi) (nI cu) (nI pu) (nI pn) (nI wn) (nI w) ++ X) := hD
  rw [show r9 = bI false from hw.trans (by rw [decide_eq_false hne])]
  refine x_ifneB (tgt := 36) hx hb dX4_pathVertex_31 (by decide) (fun h9 => absurd h9 (by decide)) (fun h9 => ?_)
  refine lv_iconst (v := (nI 0)) hx hb dX4_pathVertex_34 (by decide) ?_
  exact W.iret (v := (nI 0)) hx hb hr (fun t ht hW => ⟨⟨_, (), rfl, rfl, by rw [ht]; exact hP, hD⟩, hS.F ht⟩) hS.2.2 dX4_pathVertex_35

set_option maxHeartbeats 4000000 in
set_option maxRecDepth 100000 in
/-- reference: pathVertex -/
theorem m_pathVertex3 (l : Launch) (dG : va_G) (cI cJ : ClassId) (A : Nat → Prop) (mo mN mD mP mH mR mQ mF mO : Nat) (near : Nat → Int64) (n ec : Nat) (bt : Bool) (dis par hubs rnks que far frm : Nat → Int32) (vi cu pu pn wn : Nat) (th : Int32) (hn : n ≤ 48) (x y z : Int32) (hz : z < 0) (hw0 : wr x y n bt = 0) (X : va_W) : Met l yX4_pathVertex wsX4_pathVertex ({ frames := 4, cells := 0, slots := 0, locals := 100 } : Room) (WPc dG cI cJ [.ref mo, .int x, .int y, .int z] (MW cI cJ mo mN mD mP mH mR mQ mF mO near (nI n) (nI ec) (bI bt) dis par hubs rnks que far frm (nI vi) (nI cu) (nI pu) (nI pn) (nI wn) th ++ X) A) (va_Qi (S := Unit) (fun r _ => r = nI 0) (fun _ => WB dG A (MW cI cJ mo mN mD mP mH mR mQ mF mO near (nI n) (nI ec) (bI bt) dis par hubs rnks que far frm (nI vi) (nI cu) (nI pu) (nI pn) (nI wn) (nI 3) ++ X)) A) 0 0 A := by
  refine Met.ofW (cc := cX4_pathVertex) (maxL := 8) (ret := (some .int)) (by decide) rfl ?_
  intro p e s m args below meth c s₁ B9 hml hv
  obtain ⟨rfl, hP, hK, hD⟩ := hv
  have hx := B9.exec
  have hb := B9.bytes
  have hr := B9.returns
  have hts := atoms_spec (ws := wsX4_pathVertex) B9.pre
  have hown : s.vm.findClass RX4 = some m.cls := findClass_of_methodNamed B9.named
  have hlocks := B9.notSynchronized
  have hS : va_S A s.heap s.heap [] := va_S.rf
  have hl := lv_entry ([.ref mo, .int x, .int y, .int z]) (n := 8) (Nat.le_of_ble_eq_true rfl)
  rw [lg_entry_eq]
  generalize (lg_sl ([.ref mo, .int x, .int y, .int z]) ++ List.replicate (8 - (lg_sl ([.ref mo, .int x, .int y, .int z])).length) Slot.unset).toArray = ls at hl ⊢
  have hl : lv_has ls 8 [(0, .ref mo), (1, .int x), (2, .int y), (3, .int z)] := hl
  refine lv_aload_n hx hb dX4_pathVertex_0 rfl (lv_at hl 0 rfl) ?_
  refine lv_iload_n hx hb dX4_pathVertex_1 rfl (lv_at hl 1 rfl) ?_
  refine lv_iload_n hx hb dX4_pathVertex_2 rfl (lv_at hl 2 rfl) ?_
  have hPc := hP.sub (ws' := (MW cI cJ mo mN mD mP mH mR mQ mF mO near (nI n) (nI ec) (bI bt) dis par hubs rnks que far frm (nI vi) (nI cu) (nI pu) (nI pn) (nI wn) th)) [0, 1, 2, 3, 4, 5, 6, 7, 8] rfl
  refine x_ri (W.runV (As := [.int x, .int y]) (rest := []) ⟨hx, hb, hml, hown, hts⟩ (m_wrong l dG cI cJ mo mN mD mP mH mR mQ mF mO near n ec bt dis par hubs rnks que far frm vi cu pu pn wn th (by omega) x y) (cwV 2 hts gX4_pathVertex_X4_wrong rfl rfl rfl (by decide +kernel) ⟨Nat.le_of_ble_eq_true rfl, Nat.le_of_ble_eq_true rfl⟩) (RPc.pre hPc hK (va_recv hK.1 hPc (ci := 4) (q0 := 0) rfl rfl)) rfl rfl hl.1 rfl (lv_room (Nat.le_of_ble_eq_true rfl)) dX4_pathVertex_3 ⟨Nat.zero_le _, Nat.zero_le _⟩) ?_
  rw [hw0]
  refine lv_istore (lv' := [(4, .int (nI 0)), (0, .ref mo), (1, .int x), (2, .int y), (3, .int z)]) hx hb dX4_pathVertex_6 hl (by decide) rfl (fun ls hl => ?_)
  refine lv_aload_n hx hb dX4_pathVertex_8 rfl (lv_at hl 1 rfl) ?_
  refine lv_iload hx hb dX4_pathVertex_9 (lv_at hl 0 rfl) ?_
  refine lv_if_le (tgt := 19) hx hb dX4_pathVertex_11 (by decide) (fun _ => ?_) (fun h9 => absurd (by decide) h9)
  refine lv_iload_n hx hb dX4_pathVertex_19 rfl (lv_at hl 4 rfl) ?_
  refine lv_if_ge (tgt := 27) hx hb dX4_pathVertex_20 (by decide) (fun c20 => ?_) (fun c20 => ?_)
  · skip
    exact absurd hz (Int32.not_lt.mpr c20)
  · skip
    refine lv_iconst (v := (nI 3)) hx hb dX4_pathVertex_23 (by decide) ?_
    refine lv_goto (tgt := 28) hx hb dX4_pathVertex_24 (by decide) ?_
    have hPc : va_P dG vwCl (MW cI cJ mo mN mD mP mH mR mQ mF mO near (nI n) (nI ec) (bI bt) dis par hubs rnks que far frm (nI vi) (nI cu) (nI pu) (nI pn) (nI wn) th ++ X) s.heap := hP
    have hDc : va_D A (MW cI cJ mo mN mD mP mH mR mQ mF mO near (nI n) (nI ec) (bI bt) dis par hubs rnks que far frm (nI vi) (nI cu) (nI pu) (nI pn) (nI wn) th ++ X) := hD
    refine va_calli (va_runV (As := [.int (nI 3)]) (rest := []) ⟨hx, hb, hml, hown, hts⟩ (m_goes l dG cI cJ A mo mN mD mP mH mR mQ mF mO near n ec bt dis par hubs rnks que far frm vi cu pu pn wn th 3 (by omega) _) (cwV 1 hts gX4_pathVertex_X4_goes rfl rfl rfl (by decide +kernel) ⟨Nat.le_of_ble_eq_true rfl, Nat.le_of_ble_eq_true rfl⟩) (WPc.pre hPc hDc hK (va_recv hK.1 hPc (ci := 4) (q0 := 0) rfl rfl)) rfl rfl hl.1 rfl (lv_room (Nat.le_of_ble_eq_true rfl)) dX4_pathVertex_28 ⟨Nat.zero_le _, Nat.zero_le _⟩) hS (fun q _ h => h) (fun q h => h) (fun r9 u9 t H locs ht hvm hw hB hz1 hk1 hS => ?_)
    obtain ⟨hP, hD⟩ := hB
    rw [ht] at hP
    have hP : va_P dG vwCl (MW cI cJ mo mN mD mP mH mR mQ mF mO near (nI n) (nI ec) (bI bt) dis par hubs rnks que far frm (nI vi) (nI cu) (nI pu) (nI pn) (nI wn) (nI 3) ++ X) H := hP
    have hD : va_D A (MW cI cJ mo mN mD mP mH mR mQ mF mO near (nI n) (nI ec) (bI bt) dis par hubs rnks que far frm (nI vi) (nI cu) (nI pu) (nI pn) (nI wn) (nI 3) ++ X) := hD
    rw [show r9 = bI false from hw]
    refine x_ifneB (tgt := 36) hx hb dX4_pathVertex_31 (by decide) (fun h9 => absurd h9 (by decide)) (fun h9 => ?_)
    refine lv_iconst (v := (nI 0)) hx hb dX4_pathVertex_34 (by decide) ?_
    exact W.iret (v := (nI 0)) hx hb hr (fun t ht hW => ⟨⟨_, (), rfl, rfl, by rw [ht]; exact hP, hD⟩, hS.F ht⟩) hS.2.2 dX4_pathVertex_35

set_option maxHeartbeats 4000000 in
set_option maxRecDepth 100000 in
/-- reference: pathVertex -/
theorem m_pathVertexN (l : Launch) (dG : va_G) (cI cJ : ClassId) (A : Nat → Prop) (mo mN mD mP mH mR mQ mF mO : Nat) (near : Nat → Int64) (n ec : Nat) (bt : Bool) (dis par hubs rnks que far frm : Nat → Int32) (vi cu pu pn wn : Nat) (th : Int32) (L P : Nat → Nat → Option Nat) (hR : RepM 0 L P dis par) (hB : LBd L (2 ^ 30)) (hn : n ≤ 48) (u v : Nat) (hu : u < n) (hv : v < n) (hw0 : wr (nI u) (nI v) n bt = 0) (pl : Nat) (hpl : pl < 2 ^ 31) (hm : mr L u v n = none) (X : va_W) : Met l yX4_pathVertex wsX4_pathVertex ({ frames := 4, cells := 0, slots := 0, locals := 100 } : Room) (WPc dG cI cJ [.ref mo, .int (nI u), .int (nI v), .int (nI pl)] (MW cI cJ mo mN mD mP mH mR mQ mF mO near (nI n) (nI ec) (bI bt) dis par hubs rnks que far frm (nI vi) (nI cu) (nI pu) (nI pn) (nI wn) th ++ X) A) (va_Qi (S := Unit) (fun r9 _ => r9 = -1) (fun _ => WB dG A (MW cI cJ mo mN mD mP mH mR mQ mF mO near (nI n) (nI ec) (bI bt) dis par hubs rnks que far frm (nI vi) (nI cu) (nI pu) (nI pn) (nI wn) (nI 0) ++ X)) A) 0 0 A := by
  refine Met.ofW (cc := cX4_pathVertex) (maxL := 8) (ret := (some .int)) (by decide) rfl ?_
  intro p e s m args below meth c s₁ B9 hml hv
  obtain ⟨rfl, hP, hK, hD⟩ := hv
  have hx := B9.exec
  have hb := B9.bytes
  have hr := B9.returns
  have hts := atoms_spec (ws := wsX4_pathVertex) B9.pre
  have hown : s.vm.findClass RX4 = some m.cls := findClass_of_methodNamed B9.named
  have hlocks := B9.notSynchronized
  have hS : va_S A s.heap s.heap [] := va_S.rf
  have hl := lv_entry ([.ref mo, .int (nI u), .int (nI v), .int (nI pl)]) (n := 8) (Nat.le_of_ble_eq_true rfl)
  rw [lg_entry_eq]
  generalize (lg_sl ([.ref mo, .int (nI u), .int (nI v), .int (nI pl)]) ++ List.replicate (8 - (lg_sl ([.ref mo, .int (nI u), .int (nI v), .int (nI pl)])).length) Slot.unset).toArray = ls at hl ⊢
  have hl : lv_has ls 8 [(0, .ref mo), (1, .int (nI u)), (2, .int (nI v)), (3, .int (nI pl))] := hl
  refine lv_aload_n hx hb dX4_pathVertex_0 rfl (lv_at hl 0 rfl) ?_
  refine lv_iload_n hx hb dX4_pathVertex_1 rfl (lv_at hl 1 rfl) ?_
  refine lv_iload_n hx hb dX4_pathVertex_2 rfl (lv_at hl 2 rfl) ?_
  have hPc := hP.sub (ws' := (MW cI cJ mo mN mD mP mH mR mQ mF mO near (nI n) (nI ec) (bI bt) dis par hubs rnks que far frm (nI vi) (nI cu) (nI pu) (nI pn) (nI wn) th)) [0, 1, 2, 3, 4, 5, 6, 7, 8] rfl
  refine x_ri (W.runV (As := [.int (nI u), .int (nI v)]) (rest := []) ⟨hx, hb, hml, hown, hts⟩ (m_wrong l dG cI cJ mo mN mD mP mH mR mQ mF mO near n ec bt dis par hubs rnks que far frm vi cu pu pn wn th (by omega) (nI u) (nI v)) (cwV 2 hts gX4_pathVertex_X4_wrong rfl rfl rfl (by decide +kernel) ⟨Nat.le_of_ble_eq_true rfl, Nat.le_of_ble_eq_true rfl⟩) (RPc.pre hPc hK (va_recv hK.1 hPc (ci := 4) (q0 := 0) rfl rfl)) rfl rfl hl.1 rfl (lv_room (Nat.le_of_ble_eq_true rfl)) dX4_pathVertex_3 ⟨Nat.zero_le _, Nat.zero_le _⟩) ?_
  rw [hw0]
  refine lv_istore (lv' := [(4, .int (nI 0)), (0, .ref mo), (1, .int (nI u)), (2, .int (nI v)), (3, .int (nI pl))]) hx hb dX4_pathVertex_6 hl (by decide) rfl (fun ls hl => ?_)
  refine lv_aload_n hx hb dX4_pathVertex_8 rfl (lv_at hl 1 rfl) ?_
  refine lv_iload hx hb dX4_pathVertex_9 (lv_at hl 0 rfl) ?_
  refine lv_if_le (tgt := 19) hx hb dX4_pathVertex_11 (by decide) (fun _ => ?_) (fun h9 => absurd (by decide) h9)
  refine lv_iload_n hx hb dX4_pathVertex_19 rfl (lv_at hl 4 rfl) ?_
  refine x_ifgeN (tgt := 27) hx hb (by omega) dX4_pathVertex_20 (by decide) ?_
  refine lv_iconst (v := (nI 0)) hx hb dX4_pathVertex_27 (by decide) ?_
  have hPc : va_P dG vwCl (MW cI cJ mo mN mD mP mH mR mQ mF mO near (nI n) (nI ec) (bI bt) dis par hubs rnks que far frm (nI vi) (nI cu) (nI pu) (nI pn) (nI wn) th ++ X) s.heap := hP
  have hDc : va_D A (MW cI cJ mo mN mD mP mH mR mQ mF mO near (nI n) (nI ec) (bI bt) dis par hubs rnks que far frm (nI vi) (nI cu) (nI pu) (nI pn) (nI wn) th ++ X) := hD
  refine va_calli (va_runV (As := [.int (nI 0)]) (rest := []) ⟨hx, hb, hml, hown, hts⟩ (m_goes l dG cI cJ A mo mN mD mP mH mR mQ mF mO near n ec bt dis par hubs rnks que far frm vi cu pu pn wn th 0 (by omega) _) (cwV 1 hts gX4_pathVertex_X4_goes rfl rfl rfl (by decide +kernel) ⟨Nat.le_of_ble_eq_true rfl, Nat.le_of_ble_eq_true rfl⟩) (WPc.pre hPc hDc hK (va_recv hK.1 hPc (ci := 4) (q0 := 0) rfl rfl)) rfl rfl hl.1 rfl (lv_room (Nat.le_of_ble_eq_true rfl)) dX4_pathVertex_28 ⟨Nat.zero_le _, Nat.zero_le _⟩) hS (fun q _ h => h) (fun q h => h) (fun r9 u9 t H locs ht hvm hw hB hz1 hk1 hS => ?_)
  obtain ⟨hP, hD⟩ := hB
  rw [ht] at hP
  have hP : va_P dG vwCl (MW cI cJ mo mN mD mP mH mR mQ mF mO near (nI n) (nI ec) (bI bt) dis par hubs rnks que far frm (nI vi) (nI cu) (nI pu) (nI pn) (nI wn) (nI 0) ++ X) H := hP
  have hD : va_D A (MW cI cJ mo mN mD mP mH mR mQ mF mO near (nI n) (nI ec) (bI bt) dis par hubs rnks que far frm (nI vi) (nI cu) (nI pu) (nI pn) (nI wn) (nI 0) ++ X) := hD
  rw [show r9 = bI true from hw]
  refine x_ifneB (tgt := 36) hx hb dX4_pathVertex_31 (by decide) (fun h9 => ?_) (fun h9 => absurd h9 (by decide))
  refine lv_aload_n hx hb dX4_pathVertex_36 rfl (lv_at hl 1 rfl) ?_
  refine lv_iload_n hx hb dX4_pathVertex_37 rfl (lv_at hl 2 rfl) ?_
  refine lv_iload_n hx hb dX4_pathVertex_38 rfl (lv_at hl 3 rfl) ?_
  have hPc := hP.sub (ws' := (MW cI cJ mo mN mD mP mH mR mQ mF mO near (nI n) (nI ec) (bI bt) dis par hubs rnks que far frm (nI vi) (nI cu) (nI pu) (nI pn) (nI wn) (nI 0))) [0, 1, 2, 3, 4, 5, 6, 7, 8] rfl
  refine x_ri (W.runV (As := [.int (nI u), .int (nI v)]) (rest := []) ⟨hx, hb, hml, hown, hts⟩ (m_rankBetween l dG cI cJ mo mN mD mP mH mR mQ mF mO near n ec bt dis par hubs rnks que far frm vi cu pu pn wn (nI 0) L P hR hB hn (by omega) u v (by omega) (by omega)) (cwV 2 hts gX4_pathVertex_X4_rankBetween rfl rfl rfl (by decide +kernel) ⟨Nat.le_of_ble_eq_true rfl, Nat.le_of_ble_eq_true rfl⟩) (RPc.pre hPc hK (va_recv hK.1 hPc (ci := 4) (q0 := 0) rfl rfl)) rfl rfl hl.1 rfl (lv_room (Nat.le_of_ble_eq_true rfl)) dX4_pathVertex_39 ⟨Nat.zero_le _, Nat.zero_le _⟩) ?_
  rw [hm]
  show W _ _ _ _ _ _ _ _ _ _ _ _ _ _ _ (F0 m 42 ls [.int (-1)])
  refine lv_istore (lv' := [(5, .int (-1)), (4, .int (nI 0)), (0, .ref mo), (1, .int (nI u)), (2, .int (nI v)), (3, .int (nI pl))]) hx hb dX4_pathVertex_42 hl (by decide) rfl (fun ls hl => ?_)
  refine lv_iload hx hb dX4_pathVertex_44 (lv_at hl 0 rfl) ?_
  refine lv_iconst (v := (-1)) hx hb dX4_pathVertex_46 (by decide) ?_
  refine x_neM_M (tgt := 52) hx hb dX4_pathVertex_47 (by decide) ?_
  refine lv_iconst (v := (-1)) hx hb dX4_pathVertex_50 (by decide) ?_
  exact W.iret (v := (-1)) hx hb hr (fun t ht hW => ⟨⟨_, (), rfl, rfl, by rw [ht]; exact hP, hD⟩, hS.F ht⟩) hS.2.2 dX4_pathVertex_51

set_option maxHeartbeats 4000000 in
set_option maxRecDepth 100000 in
/-- reference: pathVertex -/
theorem m_pathVertex (l : Launch) (dG : va_G) (cI cJ : ClassId) (A : Nat → Prop) (mo mN mD mP mH mR mQ mF mO : Nat) (near : Nat → Int64) (n ec : Nat) (bt : Bool) (dis par hubs rnks que far frm : Nat → Int32) (vi cu pu pn wn : Nat) (th : Int32) (L P : Nat → Nat → Option Nat) (hR : RepM 0 L P dis par) (hB : LBd L (2 ^ 30)) (hn : n ≤ 48) (u v : Nat) (hu : u < n) (hv : v < n) (hw0 : wr (nI u) (nI v) n bt = 0) (pl : Nat) (hpl : pl < 2 ^ 31) (r h tu tv : Nat) (hm : mr L u v n = some r) (hr0 : r < 48) (hh : h < 48) (eh : hubs r = nI h) (htu : tu < 48) (htv : tv < 48) (hCu : Chain L P r h u tu) (hCv : Chain L P r h v tv) (X : va_W) : Met l yX4_pathVertex wsX4_pathVertex ({ frames := 4, cells := 0, slots := 0, locals := 100 } : Room) (WPc dG cI cJ [.ref mo, .int (nI u), .int (nI v), .int (nI pl)] (MW cI cJ mo mN mD mP mH mR mQ mF mO near (nI n) (nI ec) (bI bt) dis par hubs rnks que far frm (nI vi) (nI cu) (nI pu) (nI pn) (nI wn) th ++ X) A) (va_Qi (S := Unit) (fun r9 _ => r9 = (if tu + tv < pl then -1 else if pl ≤ tu then nI (cl P r u pl) else nI (cl P r v (tu + tv - pl)))) (fun _ => WB dG A (MW cI cJ mo mN mD mP mH mR mQ mF mO near (nI n) (nI ec) (bI bt) dis par hubs rnks que far frm (nI vi) (nI cu) (nI pu) (nI pn) (nI wn) (nI 0) ++ X)) A) 0 0 A := by
  refine Met.ofW (cc := cX4_pathVertex) (maxL := 8) (ret := (some .int)) (by decide) rfl ?_
  intro p e s m args below meth c s₁ B9 hml hv
  obtain ⟨rfl, hP, hK, hD⟩ := hv
  have hx := B9.exec
  have hb := B9.bytes
  have hr := B9.returns
  have hts := atoms_spec (ws := wsX4_pathVertex) B9.pre
  have hown : s.vm.findClass RX4 = some m.cls := findClass_of_methodNamed B9.named
  have hlocks := B9.notSynchronized
  have hS : va_S A s.heap s.heap [] := va_S.rf
  have hl := lv_entry ([.ref mo, .int (nI u), .int (nI v), .int (nI pl)]) (n := 8) (Nat.le_of_ble_eq_true rfl)
  rw [lg_entry_eq]
  generalize (lg_sl ([.ref mo, .int (nI u), .int (nI v), .int (nI pl)]) ++ List.replicate (8 - (lg_sl ([.ref mo, .int (nI u), .int (nI v), .int (nI pl)])).length) Slot.unset).toArray = ls at hl ⊢
  have hl : lv_has ls 8 [(0, .ref mo), (1, .int (nI u)), (2, .int (nI v)), (3, .int (nI pl))] := hl
  refine lv_aload_n hx hb dX4_pathVertex_0 rfl (lv_at hl 0 rfl) ?_
  refine lv_iload_n hx hb dX4_pathVertex_1 rfl (lv_at hl 1 rfl) ?_
  refine lv_iload_n hx hb dX4_pathVertex_2 rfl (lv_at hl 2 rfl) ?_
  have hPc := hP.sub (ws' := (MW cI cJ mo mN mD mP mH mR mQ mF mO near (nI n) (nI ec) (bI bt) dis par hubs rnks que far frm (nI vi) (nI cu) (nI pu) (nI pn) (nI wn) th)) [0, 1, 2, 3, 4, 5, 6, 7, 8] rfl
  refine x_ri (W.runV (As := [.int (nI u), .int (nI v)]) (rest := []) ⟨hx, hb, hml, hown, hts⟩ (m_wrong l dG cI cJ mo mN mD mP mH mR mQ mF mO near n ec bt dis par hubs rnks que far frm vi cu pu pn wn th (by omega) (nI u) (nI v)) (cwV 2 hts gX4_pathVertex_X4_wrong rfl rfl rfl (by decide +kernel) ⟨Nat.le_of_ble_eq_true rfl, Nat.le_of_ble_eq_true rfl⟩) (RPc.pre hPc hK (va_recv hK.1 hPc (ci := 4) (q0 := 0) rfl rfl)) rfl rfl hl.1 rfl (lv_room (Nat.le_of_ble_eq_true rfl)) dX4_pathVertex_3 ⟨Nat.zero_le _, Nat.zero_le _⟩) ?_
  rw [hw0]
  refine lv_istore (lv' := [(4, .int (nI 0)), (0, .ref mo), (1, .int (nI u)), (2, .int (nI v)), (3, .int (nI pl))]) hx hb dX4_pathVertex_6 hl (by decide) rfl (fun ls hl => ?_)
  refine lv_aload_n hx hb dX4_pathVertex_8 rfl (lv_at hl 1 rfl) ?_
  refine lv_iload hx hb dX4_pathVertex_9 (lv_at hl 0 rfl) ?_
  refine lv_if_le (tgt := 19) hx hb dX4_pathVertex_11 (by decide) (fun _ => ?_) (fun h9 => absurd (by decide) h9)
  refine lv_iload_n hx hb dX4_pathVertex_19 rfl (lv_at hl 4 rfl) ?_
  refine x_ifgeN (tgt := 27) hx hb (by omega) dX4_pathVertex_20 (by decide) ?_
  refine lv_iconst (v := (nI 0)) hx hb dX4_pathVertex_27 (by decide) ?_
  have hPc : va_P dG vwCl (MW cI cJ mo mN mD mP mH mR mQ mF mO near (nI n) (nI ec) (bI bt) dis par hubs rnks que far frm (nI vi) (nI cu) (nI pu) (nI pn) (nI wn) th ++ X) s.heap := hP
  have hDc : va_D A (MW cI cJ mo mN mD mP mH mR mQ mF mO near (nI n) (nI ec) (bI bt) dis par hubs rnks que far frm (nI vi) (nI cu) (nI pu) (nI pn) (nI wn) th ++ X) := hD
  refine va_calli (va_runV (As := [.int (nI 0)]) (rest := []) ⟨hx, hb, hml, hown, hts⟩ (m_goes l dG cI cJ A mo mN mD mP mH mR mQ mF mO near n ec bt dis par hubs rnks que far frm vi cu pu pn wn th 0 (by omega) _) (cwV 1 hts gX4_pathVertex_X4_goes rfl rfl rfl (by decide +kernel) ⟨Nat.le_of_ble_eq_true rfl, Nat.le_of_ble_eq_true rfl⟩) (WPc.pre hPc hDc hK (va_recv hK.1 hPc (ci := 4) (q0 := 0) rfl rfl)) rfl rfl hl.1 rfl (lv_room (Nat.le_of_ble_eq_true rfl)) dX4_pathVertex_28 ⟨Nat.zero_le _, Nat.zero_le _⟩) hS (fun q _ h => h) (fun q h => h) (fun r9 u9 t H locs ht hvm hw hB hz1 hk1 hS => ?_)
  obtain ⟨hP, hD⟩ := hB
  rw [ht] at hP
  have hP : va_P dG vwCl (MW cI cJ mo mN mD mP mH mR mQ mF mO near (nI n) (nI ec) (bI bt) dis par hubs rnks que far frm (nI vi) (nI cu) (nI pu) (nI pn) (nI wn) (nI 0) ++ X) H := hP
  have hD : va_D A (MW cI cJ mo mN mD mP mH mR mQ mF mO near (nI n) (nI ec) (bI bt) dis par hubs rnks que far frm (nI vi) (nI cu) (nI pu) (nI pn) (nI wn) (nI 0) ++ X) := hD
  rw [show r9 = bI true from hw]
  refine x_ifneB (tgt := 36) hx hb dX4_pathVertex_31 (by decide) (fun h9 => ?_) (fun h9 => absurd h9 (by decide))
  refine lv_aload_n hx hb dX4_pathVertex_36 rfl (lv_at hl 1 rfl) ?_
  refine lv_iload_n hx hb dX4_pathVertex_37 rfl (lv_at hl 2 rfl) ?_
  refine lv_iload_n hx hb dX4_pathVertex_38 rfl (lv_at hl 3 rfl) ?_
  have hPc := hP.sub (ws' := (MW cI cJ mo mN mD mP mH mR mQ mF mO near (nI n) (nI ec) (bI bt) dis par hubs rnks que far frm (nI vi) (nI cu) (nI pu) (nI pn) (nI wn) (nI 0))) [0, 1, 2, 3, 4, 5, 6, 7, 8] rfl
  refine x_ri (W.runV (As := [.int (nI u), .int (nI v)]) (rest := []) ⟨hx, hb, hml, hown, hts⟩ (m_rankBetween l dG cI cJ mo mN mD mP mH mR mQ mF mO near n ec bt dis par hubs rnks que far frm vi cu pu pn wn (nI 0) L P hR hB hn (by omega) u v (by omega) (by omega)) (cwV 2 hts gX4_pathVertex_X4_rankBetween rfl rfl rfl (by decide +kernel) ⟨Nat.le_of_ble_eq_true rfl, Nat.le_of_ble_eq_true rfl⟩) (RPc.pre hPc hK (va_recv hK.1 hPc (ci := 4) (q0 := 0) rfl rfl)) rfl rfl hl.1 rfl (lv_room (Nat.le_of_ble_eq_true rfl)) dX4_pathVertex_39 ⟨Nat.zero_le _, Nat.zero_le _⟩) ?_
  rw [hm]
  show W _ _ _ _ _ _ _ _ _ _ _ _ _ _ _ (F0 m 42 ls [.int (nI r)])
  refine lv_istore (lv' := [(5, .int (nI r)), (4, .int (nI 0)), (0, .ref mo), (1, .int (nI u)), (2, .int (nI v)), (3, .int (nI pl))]) hx hb dX4_pathVertex_42 hl (by decide) rfl (fun ls hl => ?_)
  refine lv_iload hx hb dX4_pathVertex_44 (lv_at hl 0 rfl) ?_
  refine lv_iconst (v := (-1)) hx hb dX4_pathVertex_46 (by decide) ?_
  refine x_neM_N (tgt := 52) hx hb (by omega) dX4_pathVertex_47 (by decide) ?_
  refine lv_aload_n hx hb dX4_pathVertex_52 rfl (lv_at hl 2 rfl) ?_
  refine lv_iload_n hx hb dX4_pathVertex_53 rfl (lv_at hl 3 rfl) ?_
  refine lv_iload hx hb dX4_pathVertex_54 (lv_at hl 0 rfl) ?_
  have hPc := hP.sub (ws' := (MW cI cJ mo mN mD mP mH mR mQ mF mO near (nI n) (nI ec) (bI bt) dis par hubs rnks que far frm (nI vi) (nI cu) (nI pu) (nI pn) (nI wn) (nI 0))) [0, 1, 2, 3, 4, 5, 6, 7, 8] rfl
  refine x_ri (W.runV (As := [.int (nI u), .int (nI r)]) (rest := []) ⟨hx, hb, hml, hown, hts⟩ (m_steps l dG cI cJ mo mN mD mP mH mR mQ mF mO near n ec bt dis par hubs rnks que far frm vi cu pu pn wn (nI 0) L P hR r u h tu hr0 (by omega) htu hCu hh eh) (cwV 2 hts gX4_pathVertex_X4_steps rfl rfl rfl (by decide +kernel) ⟨Nat.le_of_ble_eq_true rfl, Nat.le_of_ble_eq_true rfl⟩) (RPc.pre hPc hK (va_recv hK.1 hPc (ci := 4) (q0 := 0) rfl rfl)) rfl rfl hl.1 rfl (lv_room (Nat.le_of_ble_eq_true rfl)) dX4_pathVertex_56 ⟨Nat.zero_le _, Nat.zero_le _⟩) ?_
  refine lv_istore (lv' := [(6, .int (nI tu)), (5, .int (nI r)), (4, .int (nI 0)), (0, .ref mo), (1, .int (nI u)), (2, .int (nI v)), (3, .int (nI pl))]) hx hb dX4_pathVertex_59 hl (by decide) rfl (fun ls hl => ?_)
  refine lv_aload_n hx hb dX4_pathVertex_61 rfl (lv_at hl 3 rfl) ?_
  refine lv_iload_n hx hb dX4_pathVertex_62 rfl (lv_at hl 5 rfl) ?_
  refine lv_iload hx hb dX4_pathVertex_63 (lv_at hl 1 rfl) ?_
  have hPc := hP.sub (ws' := (MW cI cJ mo mN mD mP mH mR mQ mF mO near (nI n) (nI ec) (bI bt) dis par hubs rnks que far frm (nI vi) (nI cu) (nI pu) (nI pn) (nI wn) (nI 0))) [0, 1, 2, 3, 4, 5, 6, 7, 8] rfl
  refine x_ri (W.runV (As := [.int (nI v), .int (nI r)]) (rest := []) ⟨hx, hb, hml, hown, hts⟩ (m_steps l dG cI cJ mo mN mD mP mH mR mQ mF mO near n ec bt dis par hubs rnks que far frm vi cu pu pn wn (nI 0) L P hR r v h tv hr0 (by omega) htv hCv hh eh) (cwV 2 hts gX4_pathVertex_X4_steps rfl rfl rfl (by decide +kernel) ⟨Nat.le_of_ble_eq_true rfl, Nat.le_of_ble_eq_true rfl⟩) (RPc.pre hPc hK (va_recv hK.1 hPc (ci := 4) (q0 := 0) rfl rfl)) rfl rfl hl.1 rfl (lv_room (Nat.le_of_ble_eq_true rfl)) dX4_pathVertex_65 ⟨Nat.zero_le _, Nat.zero_le _⟩) ?_
  refine lv_istore (lv' := [(7, .int (nI tv)), (6, .int (nI tu)), (5, .int (nI r)), (4, .int (nI 0)), (0, .ref mo), (1, .int (nI u)), (2, .int (nI v)), (3, .int (nI pl))]) hx hb dX4_pathVertex_68 hl (by decide) rfl (fun ls hl => ?_)
  refine lv_iload_n hx hb dX4_pathVertex_70 rfl (lv_at hl 7 rfl) ?_
  refine lv_iload hx hb dX4_pathVertex_71 (lv_at hl 1 rfl) ?_
  refine lv_iload hx hb dX4_pathVertex_73 (lv_at hl 0 rfl) ?_
  refine x_addN (i := tu) (j := tv) hx hb dX4_pathVertex_75 ?_
  refine x_icmp_leN (i := pl) (j := (tu + tv)) (tgt := 83) hx hb (by omega) (by omega) dX4_pathVertex_76 (by decide) (fun c76 => ?_) (fun c76 => ?_)
  · skip
    refine lv_iload_n hx hb dX4_pathVertex_83 rfl (lv_at hl 7 rfl) ?_
    refine lv_iload hx hb dX4_pathVertex_84 (lv_at hl 1 rfl) ?_
    refine x_icmp_gtN (i := pl) (j := tu) (tgt := 100) hx hb (by omega) (by omega) dX4_pathVertex_86 (by decide) (fun c86 => ?_) (fun c86 => ?_)
    · skip
      refine lv_aload_n hx hb dX4_pathVertex_100 rfl (lv_at hl 4 rfl) ?_
      refine lv_iload_n hx hb dX4_pathVertex_101 rfl (lv_at hl 6 rfl) ?_
      refine lv_iload hx hb dX4_pathVertex_102 (lv_at hl 2 rfl) ?_
      refine lv_iload hx hb dX4_pathVertex_104 (lv_at hl 1 rfl) ?_
      refine lv_iload hx hb dX4_pathVertex_106 (lv_at hl 0 rfl) ?_
      refine x_addN (i := tu) (j := tv) hx hb dX4_pathVertex_108 ?_
      refine lv_iload_n hx hb dX4_pathVertex_109 rfl (lv_at hl 7 rfl) ?_
      refine x_subN (i := (tu + tv)) (j := pl) hx hb (by omega) dX4_pathVertex_110 ?_
      have hPc := hP.sub (ws' := (MW cI cJ mo mN mD mP mH mR mQ mF mO near (nI n) (nI ec) (bI bt) dis par hubs rnks que far frm (nI vi) (nI cu) (nI pu) (nI pn) (nI wn) (nI 0))) [0, 1, 2, 3, 4, 5, 6, 7, 8] rfl
      refine x_ri (W.runV (As := [.int (nI v), .int (nI r), .int (nI ((tu + tv) - pl))]) (rest := []) ⟨hx, hb, hml, hown, hts⟩ (m_stepped l dG cI cJ mo mN mD mP mH mR mQ mF mO near n ec bt dis par hubs rnks que far frm vi cu pu pn wn (nI 0) L P hR r v h tv hr0 (by omega) htv hCv (tu + tv - pl) (by omega)) (cwV 3 hts gX4_pathVertex_X4_stepped rfl rfl rfl (by decide +kernel) ⟨Nat.le_of_ble_eq_true rfl, Nat.le_of_ble_eq_true rfl⟩) (RPc.pre hPc hK (va_recv hK.1 hPc (ci := 4) (q0 := 0) rfl rfl)) rfl rfl hl.1 rfl (lv_room (Nat.le_of_ble_eq_true rfl)) dX4_pathVertex_111 ⟨Nat.zero_le _, Nat.zero_le _⟩) ?_
      exact W.iret (v := (nI (cl P r v (tu + tv - pl)))) hx hb hr (fun t ht hW => ⟨⟨_, (), rfl, by rw [if_neg (by omega), if_neg (by omega)], by rw [ht]; exact hP, hD⟩, hS.F ht⟩) hS.2.2 dX4_pathVertex_114
    · skip
      refine lv_aload_n hx hb dX4_pathVertex_89 rfl (lv_at hl 4 rfl) ?_
      refine lv_iload_n hx hb dX4_pathVertex_90 rfl (lv_at hl 5 rfl) ?_
      refine lv_iload hx hb dX4_pathVertex_91 (lv_at hl 2 rfl) ?_
      refine lv_iload_n hx hb dX4_pathVertex_93 rfl (lv_at hl 7 rfl) ?_
      have hPc := hP.sub (ws' := (MW cI cJ mo mN mD mP mH mR mQ mF mO near (nI n) (nI ec) (bI bt) dis par hubs rnks que far frm (nI vi) (nI cu) (nI pu) (nI pn) (nI wn) (nI 0))) [0, 1, 2, 3, 4, 5, 6, 7, 8] rfl
      refine x_ri (W.runV (As := [.int (nI u), .int (nI r), .int (nI pl)]) (rest := []) ⟨hx, hb, hml, hown, hts⟩ (m_stepped l dG cI cJ mo mN mD mP mH mR mQ mF mO near n ec bt dis par hubs rnks que far frm vi cu pu pn wn (nI 0) L P hR r u h tu hr0 (by omega) htu hCu pl (by omega)) (cwV 3 hts gX4_pathVertex_X4_stepped rfl rfl rfl (by decide +kernel) ⟨Nat.le_of_ble_eq_true rfl, Nat.le_of_ble_eq_true rfl⟩) (RPc.pre hPc hK (va_recv hK.1 hPc (ci := 4) (q0 := 0) rfl rfl)) rfl rfl hl.1 rfl (lv_room (Nat.le_of_ble_eq_true rfl)) dX4_pathVertex_94 ⟨Nat.zero_le _, Nat.zero_le _⟩) ?_
      refine lv_goto (tgt := 114) hx hb dX4_pathVertex_97 (by decide) ?_
      exact W.iret (v := (nI (cl P r u pl))) hx hb hr (fun t ht hW => ⟨⟨_, (), rfl, by rw [if_neg (by omega), if_pos (by omega)], by rw [ht]; exact hP, hD⟩, hS.F ht⟩) hS.2.2 dX4_pathVertex_114
  · skip
    refine lv_iconst (v := (-1)) hx hb dX4_pathVertex_79 (by decide) ?_
    refine lv_goto (tgt := 114) hx hb dX4_pathVertex_80 (by decide) ?_
    exact W.iret (v := (-1)) hx hb hr (fun t ht hW => ⟨⟨_, (), rfl, by rw [if_pos (by omega)], by rw [ht]; exact hP, hD⟩, hS.F ht⟩) hS.2.2 dX4_pathVertex_114
