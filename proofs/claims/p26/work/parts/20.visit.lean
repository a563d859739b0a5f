/-! Searches: one visit -/
set_option maxHeartbeats 4000000 in
set_option maxRecDepth 100000 in
/-- Searches.forgetCounts -/
theorem c_forgetCounts (l : Launch) (dG : va_G) (cI cJ : ClassId) (A : Nat → Prop) (g lb se qa qb qc : Nat) (qv qd qp : Nat → Int32) (ql : Int32) (qs : Int64) (vi pr wr : Int32) (X : va_W) : Met l yX2_forgetCounts wsX2_forgetCounts ({ frames := 0, cells := 0, slots := 0, locals := 0 } : Room) (WPc dG cI cJ [.ref se] (SW cI g lb se qa qb qc qv qd qp ql qs vi pr wr ++ X) A) (va_Qv (S := Unit) (fun _ => True) (fun _ => WB dG A (SW cI g lb se qa qb qc qv qd qp ql qs (nI 0) (nI 0) (nI 0) ++ X)) A) 0 0 A := by
  refine Met.ofW (cc := cX2_forgetCounts) (maxL := 1) (ret := none) (by decide) rfl ?_
  intro p e s m args below meth c s₁ B9 hml hv
  obtain ⟨rfl, hP, hK, hD⟩ := hv
  have hx := B9.exec
  have hb := B9.bytes
  have hr := B9.returns
  have hts := atoms_spec (ws := wsX2_forgetCounts) B9.pre
  have hown : s.vm.findClass RX2 = some m.cls := findClass_of_methodNamed B9.named
  have hlocks := B9.notSynchronized
  have hS : va_S A s.heap s.heap [] := va_S.rf
  have hl := lv_entry ([.ref se]) (n := 1) (Nat.le_of_ble_eq_true rfl)
  rw [lg_entry_eq]
  generalize (lg_sl ([.ref se]) ++ List.replicate (1 - (lg_sl ([.ref se])).length) Slot.unset).toArray = ls at hl ⊢
  have hl : lv_has ls 1 [(0, .ref se)] := hl
  have hiX2 : ∀ w ∈ wsX20, w ∈ wsX2_forgetCounts := by decide +kernel
  have hf37 := hts (.fieldLink RX2 37 "LandmarkLea$Searches" "visitCount" "I") (by decide +kernel)
  have hf40 := hts (.fieldLink RX2 40 "LandmarkLea$Searches" "prunedCount" "I") (by decide +kernel)
  have hf43 := hts (.fieldLink RX2 43 "LandmarkLea$Searches" "writtenCount" "I") (by decide +kernel)
  refine lv_aload_n hx hb dX2_forgetCounts_0 rfl (lv_at hl 0 rfl) ?_
  refine lv_iconst (v := (nI 0)) hx hb dX2_forgetCounts_1 (by decide) ?_
  refine va_put (D := dG) (ci := 2) (v := .int (nI 0)) (ty := .int) (C := RX2) (T := TX2) (N := 10) hx hb hts hiX2 tyX2 tyX2_ok nmX2 hown hK.1 hP hD hS 0 rfl rfl 7 (by decide) hf37 (fun _ h9 => h9) rfl (by decide +kernel) rfl rfl (Nat.le_of_ble_eq_true rfl) dX2_forgetCounts_2 (fun H locs hP hD hS => ?_)
  have hP : va_P dG vwCl (SW cI g lb se qa qb qc qv qd qp ql qs (nI 0) pr wr ++ X) H := hP
  have hD : va_D A (SW cI g lb se qa qb qc qv qd qp ql qs (nI 0) pr wr ++ X) := hD
  refine lv_aload_n hx hb dX2_forgetCounts_5 rfl (lv_at hl 0 rfl) ?_
  refine lv_iconst (v := (nI 0)) hx hb dX2_forgetCounts_6 (by decide) ?_
  refine va_put (D := dG) (ci := 2) (v := .int (nI 0)) (ty := .int) (C := RX2) (T := TX2) (N := 10) hx hb hts hiX2 tyX2 tyX2_ok nmX2 hown hK.1 hP hD hS 0 rfl rfl 8 (by decide) hf40 (fun _ h9 => h9) rfl (by decide +kernel) rfl rfl (Nat.le_of_ble_eq_true rfl) dX2_forgetCounts_7 (fun H locs hP hD hS => ?_)
  have hP : va_P dG vwCl (SW cI g lb se qa qb qc qv qd qp ql qs (nI 0) (nI 0) wr ++ X) H := hP
  have hD : va_D A (SW cI g lb se qa qb qc qv qd qp ql qs (nI 0) (nI 0) wr ++ X) := hD
  refine lv_aload_n hx hb dX2_forgetCounts_10 rfl (lv_at hl 0 rfl) ?_
  refine lv_iconst (v := (nI 0)) hx hb dX2_forgetCounts_11 (by decide) ?_
  refine va_put (D := dG) (ci := 2) (v := .int (nI 0)) (ty := .int) (C := RX2) (T := TX2) (N := 10) hx hb hts hiX2 tyX2 tyX2_ok nmX2 hown hK.1 hP hD hS 0 rfl rfl 9 (by decide) hf43 (fun _ h9 => h9) rfl (by decide +kernel) rfl rfl (Nat.le_of_ble_eq_true rfl) dX2_forgetCounts_12 (fun H locs hP hD hS => ?_)
  have hP : va_P dG vwCl (SW cI g lb se qa qb qc qv qd qp ql qs (nI 0) (nI 0) (nI 0) ++ X) H := hP
  have hD : va_D A (SW cI g lb se qa qb qc qv qd qp ql qs (nI 0) (nI 0) (nI 0) ++ X) := hD
  exact W.vret hx hb hr (fun t ht hW => ⟨⟨(), rfl, trivial, by rw [ht]; exact hP, hD⟩, hS.F ht⟩) hS.2.2 dX2_forgetCounts_15

set_option maxHeartbeats 4000000 in
set_option maxRecDepth 100000 in
/-- Searches.countOfPruned -/
theorem c_countOfPruned (l : Launch) (dG : va_G) (cI cJ : ClassId) (g lb se qa qb qc : Nat) (qv qd qp : Nat → Int32) (ql : Int32) (qs : Int64) (vi pr wr : Int32) : Met l yX2_countOfPruned wsX2_countOfPruned ({ frames := 0, cells := 0, slots := 0, locals := 0 } : Room) (RPc dG cI cJ [.ref se] (SW cI g lb se qa qb qc qv qd qp ql qs vi pr wr)) (vp_Si (fun r9 => r9 = pr)) 0 0 (fun _ => False) := by
  refine Met.ofW (cc := cX2_countOfPruned) (maxL := 1) (ret := (some .int)) (by decide) rfl ?_
  intro p e s m args below meth c s₁ B9 hml hv
  obtain ⟨rfl, hP, hK⟩ := hv
  have hx := B9.exec
  have hb := B9.bytes
  have hr := B9.returns
  have hts := atoms_spec (ws := wsX2_countOfPruned) B9.pre
  have hown : s.vm.findClass RX2 = some m.cls := findClass_of_methodNamed B9.named
  have hlocks := B9.notSynchronized
  have hl := lv_entry ([.ref se]) (n := 1) (Nat.le_of_ble_eq_true rfl)
  rw [lg_entry_eq]
  generalize (lg_sl ([.ref se]) ++ List.replicate (1 - (lg_sl ([.ref se])).length) Slot.unset).toArray = ls at hl ⊢
  have hl : lv_has ls 1 [(0, .ref se)] := hl
  have hiX2 : ∀ w ∈ wsX20, w ∈ wsX2_countOfPruned := by decide +kernel
  have hf40 := hts (.fieldLink RX2 40 "LandmarkLea$Searches" "prunedCount" "I") (by decide +kernel)
  refine lv_aload_n hx hb dX2_countOfPruned_0 rfl (lv_at hl 0 rfl) ?_
  refine va_get (D := dG) (ci := 2) (v := .int pr) (C := RX2) (T := TX2) (N := 10) hx hb hts hiX2 hown hK.1 hP 0 rfl rfl 8 (by decide) hf40 (fun _ h9 => h9) rfl dX2_countOfPruned_1 ?_
  exact W.iret (v := pr) hx hb hr (fun t ht hW => ⟨_, rfl, rfl, ht⟩) (fun _ h => nomatch h) dX2_countOfPruned_4

set_option maxHeartbeats 4000000 in
set_option maxRecDepth 100000 in
/-- Searches.countOfWritten -/
theorem c_countOfWritten (l : Launch) (dG : va_G) (cI cJ : ClassId) (g lb se qa qb qc : Nat) (qv qd qp : Nat → Int32) (ql : Int32) (qs : Int64) (vi pr wr : Int32) : Met l yX2_countOfWritten wsX2_countOfWritten ({ frames := 0, cells := 0, slots := 0, locals := 0 } : Room) (RPc dG cI cJ [.ref se] (SW cI g lb se qa qb qc qv qd qp ql qs vi pr wr)) (vp_Si (fun r9 => r9 = wr)) 0 0 (fun _ => False) := by
  refine Met.ofW (cc := cX2_countOfWritten) (maxL := 1) (ret := (some .int)) (by decide) rfl ?_
  intro p e s m args below meth c s₁ B9 hml hv
  obtain ⟨rfl, hP, hK⟩ := hv
  have hx := B9.exec
  have hb := B9.bytes
  have hr := B9.returns
  have hts := atoms_spec (ws := wsX2_countOfWritten) B9.pre
  have hown : s.vm.findClass RX2 = some m.cls := findClass_of_methodNamed B9.named
  have hlocks := B9.notSynchronized
  have hl := lv_entry ([.ref se]) (n := 1) (Nat.le_of_ble_eq_true rfl)
  rw [lg_entry_eq]
  generalize (lg_sl ([.ref se]) ++ List.replicate (1 - (lg_sl ([.ref se])).length) Slot.unset).toArray = ls at hl ⊢
  have hl : lv_has ls 1 [(0, .ref se)] := hl
  have hiX2 : ∀ w ∈ wsX20, w ∈ wsX2_countOfWritten := by decide +kernel
  have hf43 := hts (.fieldLink RX2 43 "LandmarkLea$Searches" "writtenCount" "I") (by decide +kernel)
  refine lv_aload_n hx hb dX2_countOfWritten_0 rfl (lv_at hl 0 rfl) ?_
  refine va_get (D := dG) (ci := 2) (v := .int wr) (C := RX2) (T := TX2) (N := 10) hx hb hts hiX2 hown hK.1 hP 0 rfl rfl 9 (by decide) hf43 (fun _ h9 => h9) rfl dX2_countOfWritten_1 ?_
  exact W.iret (v := wr) hx hb hr (fun t ht hW => ⟨_, rfl, rfl, ht⟩) (fun _ h => nomatch h) dX2_countOfWritten_4

set_option maxHeartbeats 4000000 in
set_option maxRecDepth 100000 in
/-- Searches.enqueue -/
theorem c_enqueue (l : Launch) (dG : va_G) (cI cJ : ClassId) (A : Nat → Prop) (g lb se qa qb qc : Nat) (qv qd qp : Nat → Int32) (q0 : Nat) (qs : Int64) (vi pr wr : Int32) (v d : Nat) (p0 : Option Nat) (hv : v < 48) (hq0 : q0 < 48) (X : va_W) : Met l yX2_enqueue wsX2_enqueue ({ frames := 1, cells := 0, slots := 0, locals := 20 } : Room) (WPc dG cI cJ [.ref se, .int (nI v), .int (nI d), .int (eN p0)] (SW cI g lb se qa qb qc qv qd qp (nI q0) qs vi pr wr ++ X) A) (va_Qv (S := Unit) (fun _ => True) (fun _ => WB dG A (SW cI g lb se qa qb qc (upd qv q0 (nI v)) (upd qd q0 (nI d)) (upd qp q0 (eN p0)) (nI (q0 + 1)) (qs ||| ((1 : Int64) <<< ((nI v).toInt64 &&& 63))) vi pr wr ++ X)) A) 0 0 A := by
  refine Met.ofW (cc := cX2_enqueue) (maxL := 4) (ret := none) (by decide) rfl ?_
  intro p e s m args below meth c s₁ B9 hml hv
  obtain ⟨rfl, hP, hK, hD⟩ := hv
  have hx := B9.exec
  have hb := B9.bytes
  have hr := B9.returns
  have hts := atoms_spec (ws := wsX2_enqueue) B9.pre
  have hown : s.vm.findClass RX2 = some m.cls := findClass_of_methodNamed B9.named
  have hlocks := B9.notSynchronized
  have hS : va_S A s.heap s.heap [] := va_S.rf
  have hl := lv_entry ([.ref se, .int (nI v), .int (nI d), .int (eN p0)]) (n := 4) (Nat.le_of_ble_eq_true rfl)
  rw [lg_entry_eq]
  generalize (lg_sl ([.ref se, .int (nI v), .int (nI d), .int (eN p0)]) ++ List.replicate (4 - (lg_sl ([.ref se, .int (nI v), .int (nI d), .int (eN p0)])).length) Slot.unset).toArray = ls at hl ⊢
  have hl : lv_has ls 4 [(0, .ref se), (1, .int (nI v)), (2, .int (nI d)), (3, .int (eN p0))] := hl
  have hiX2 : ∀ w ∈ wsX20, w ∈ wsX2_enqueue := by decide +kernel
  have hf19 := hts (.fieldLink RX2 19 "LandmarkLea$Searches" "queueVertices" "[I") (by decide +kernel)
  have hf23 := hts (.fieldLink RX2 23 "LandmarkLea$Searches" "queueDistances" "[I") (by decide +kernel)
  have hf26 := hts (.fieldLink RX2 26 "LandmarkLea$Searches" "queueParents" "[I") (by decide +kernel)
  have hf29 := hts (.fieldLink RX2 29 "LandmarkLea$Searches" "queueLength" "I") (by decide +kernel)
  have hf33 := hts (.fieldLink RX2 33 "LandmarkLea$Searches" "queuedSet" "J") (by decide +kernel)
  refine lv_iload_n hx hb dX2_enqueue_0 rfl (lv_at hl 1 rfl) ?_
  have hPc : va_P dG vwCl [] s.heap := fun k q h => by simp at h
  refine x_ri (va_runSN (As := [.int (nI v)]) (rest := []) ⟨hx, hb, hml, hown, hts⟩ (c_isRow l dG cI cJ v (by omega)) ⟨va_cnB 1 hts gX2_enqueue_X3_isRow_n83 rfl rfl rfl hK.2.2.2.2.2.1 (hts (.initialized RX3) (by decide +kernel)) (by decide +kernel) ⟨Nat.le_of_ble_eq_true rfl, Nat.le_of_ble_eq_true rfl⟩, hts (.static yX3_isRow) (by decide +kernel), trivial⟩ (RPc.preS hPc hK) rfl rfl hl.1 rfl (lv_room (Nat.le_of_ble_eq_true rfl)) dX2_enqueue_1 ⟨Nat.zero_le _, Nat.zero_le _⟩).run ?_
  refine x_ifeqB (tgt := 69) hx hb dX2_enqueue_4 (by decide) (fun c4 => ?_) (fun c4 => ?_)
  · skip
    exact absurd hv (of_decide_eq_false c4)
  · skip
    refine lv_aload_n hx hb dX2_enqueue_7 rfl (lv_at hl 0 rfl) ?_
    refine va_get (D := dG) (ci := 2) (v := .int (nI q0)) (C := RX2) (T := TX2) (N := 10) hx hb hts hiX2 hown hK.1 hP 0 rfl rfl 5 (by decide) hf29 (fun _ h9 => h9) rfl dX2_enqueue_8 ?_
    have hPc : va_P dG vwCl [] s.heap := fun k q h => by simp at h
    refine x_ri (va_runSN (As := [.int (nI q0)]) (rest := []) ⟨hx, hb, hml, hown, hts⟩ (c_isRow l dG cI cJ q0 (by omega)) ⟨va_cnB 1 hts gX2_enqueue_X3_isRow_n83 rfl rfl rfl hK.2.2.2.2.2.1 (hts (.initialized RX3) (by decide +kernel)) (by decide +kernel) ⟨Nat.le_of_ble_eq_true rfl, Nat.le_of_ble_eq_true rfl⟩, hts (.static yX3_isRow) (by decide +kernel), trivial⟩ (RPc.preS hPc hK) rfl rfl hl.1 rfl (lv_room (Nat.le_of_ble_eq_true rfl)) dX2_enqueue_11 ⟨Nat.zero_le _, Nat.zero_le _⟩).run ?_
    refine x_ifeqB (tgt := 69) hx hb dX2_enqueue_14 (by decide) (fun c14 => ?_) (fun c14 => ?_)
    · skip
      exact absurd hq0 (of_decide_eq_false c14)
    · skip
      refine lv_aload_n hx hb dX2_enqueue_17 rfl (lv_at hl 0 rfl) ?_
      refine lv_dup hx hb dX2_enqueue_18 rfl ?_
      refine va_get (D := dG) (ci := 2) (v := .long qs) (C := RX2) (T := TX2) (N := 10) hx hb hts hiX2 hown hK.1 hP 0 rfl rfl 6 (by decide) hf33 (fun _ h9 => h9) rfl dX2_enqueue_19 ?_
      refine lv_lconst (v := 1) hx hb dX2_enqueue_22 rfl ?_
      refine lv_iload_n hx hb dX2_enqueue_23 rfl (lv_at hl 1 rfl) ?_
      refine lv_lshl (v := (1 <<< ((nI v).toInt64 &&& 63))) hx hb dX2_enqueue_24 rfl ?_
      refine lv_lor hx hb dX2_enqueue_25 ?_
      refine va_put (D := dG) (ci := 2) (v := .long (qs ||| (1 <<< ((nI v).toInt64 &&& 63)))) (ty := .long) (C := RX2) (T := TX2) (N := 10) hx hb hts hiX2 tyX2 tyX2_ok nmX2 hown hK.1 hP hD hS 0 rfl rfl 6 (by decide) hf33 (fun _ h9 => h9) rfl (by decide +kernel) rfl rfl (Nat.le_of_ble_eq_true rfl) dX2_enqueue_26 (fun H locs hP hD hS => ?_)
      have hP : va_P dG vwCl (SW cI g lb se qa qb qc qv qd qp (nI q0) (qs ||| (1 <<< ((nI v).toInt64 &&& 63))) vi pr wr ++ X) H := hP
      have hD : va_D A (SW cI g lb se qa qb qc qv qd qp (nI q0) (qs ||| (1 <<< ((nI v).toInt64 &&& 63))) vi pr wr ++ X) := hD
      refine lv_aload_n hx hb dX2_enqueue_29 rfl (lv_at hl 0 rfl) ?_
      refine va_get (D := dG) (ci := 2) (v := .ref qa) (C := RX2) (T := TX2) (N := 10) hx hb hts hiX2 hown hK.1 hP 0 rfl rfl 2 (by decide) hf19 (fun _ h9 => h9) rfl dX2_enqueue_30 ?_
      refine lv_aload_n hx hb dX2_enqueue_33 rfl (lv_at hl 0 rfl) ?_
      refine va_get (D := dG) (ci := 2) (v := .int (nI q0)) (C := RX2) (T := TX2) (N := 10) hx hb hts hiX2 hown hK.1 hP 0 rfl rfl 5 (by decide) hf29 (fun _ h9 => h9) rfl dX2_enqueue_34 ?_
      refine lv_iload_n hx hb dX2_enqueue_37 rfl (lv_at hl 1 rfl) ?_
      refine x_iast (f := qv) hx hb hK hP hD hS 1 rfl (by omega) (by decide) dX2_enqueue_38 (fun H locs hP hD hS => ?_)
      have hP : va_P dG vwCl (SW cI g lb se qa qb qc (upd qv q0 (nI v)) qd qp (nI q0) (qs ||| (1 <<< ((nI v).toInt64 &&& 63))) vi pr wr ++ X) H := hP
      have hD : va_D A (SW cI g lb se qa qb qc (upd qv q0 (nI v)) qd qp (nI q0) (qs ||| (1 <<< ((nI v).toInt64 &&& 63))) vi pr wr ++ X) := hD
      refine lv_aload_n hx hb dX2_enqueue_39 rfl (lv_at hl 0 rfl) ?_
      refine va_get (D := dG) (ci := 2) (v := .ref qb) (C := RX2) (T := TX2) (N := 10) hx hb hts hiX2 hown hK.1 hP 0 rfl rfl 3 (by decide) hf23 (fun _ h9 => h9) rfl dX2_enqueue_40 ?_
      refine lv_aload_n hx hb dX2_enqueue_43 rfl (lv_at hl 0 rfl) ?_
      refine va_get (D := dG) (ci := 2) (v := .int (nI q0)) (C := RX2) (T := TX2) (N := 10) hx hb hts hiX2 hown hK.1 hP 0 rfl rfl 5 (by decide) hf29 (fun _ h9 => h9) rfl dX2_enqueue_44 ?_
      refine lv_iload_n hx hb dX2_enqueue_47 rfl (lv_at hl 2 rfl) ?_
      refine x_iast (f := qd) hx hb hK hP hD hS 2 rfl (by omega) (by decide) dX2_enqueue_48 (fun H locs hP hD hS => ?_)
      have hP : va_P dG vwCl (SW cI g lb se qa qb qc (upd qv q0 (nI v)) (upd qd q0 (nI d)) qp (nI q0) (qs ||| (1 <<< ((nI v).toInt64 &&& 63))) vi pr wr ++ X) H := hP
      have hD : va_D A (SW cI g lb se qa qb qc (upd qv q0 (nI v)) (upd qd q0 (nI d)) qp (nI q0) (qs ||| (1 <<< ((nI v).toInt64 &&& 63))) vi pr wr ++ X) := hD
      refine lv_aload_n hx hb dX2_enqueue_49 rfl (lv_at hl 0 rfl) ?_
      refine va_get (D := dG) (ci := 2) (v := .ref qc) (C := RX2) (T := TX2) (N := 10) hx hb hts hiX2 hown hK.1 hP 0 rfl rfl 4 (by decide) hf26 (fun _ h9 => h9) rfl dX2_enqueue_50 ?_
      refine lv_aload_n hx hb dX2_enqueue_53 rfl (lv_at hl 0 rfl) ?_
      refine va_get (D := dG) (ci := 2) (v := .int (nI q0)) (C := RX2) (T := TX2) (N := 10) hx hb hts hiX2 hown hK.1 hP 0 rfl rfl 5 (by decide) hf29 (fun _ h9 => h9) rfl dX2_enqueue_54 ?_
      refine lv_iload_n hx hb dX2_enqueue_57 rfl (lv_at hl 3 rfl) ?_
      refine x_iast (f := qp) hx hb hK hP hD hS 3 rfl (by omega) (by decide) dX2_enqueue_58 (fun H locs hP hD hS => ?_)
      have hP : va_P dG vwCl (SW cI g lb se qa qb qc (upd qv q0 (nI v)) (upd qd q0 (nI d)) (upd qp q0 (eN p0)) (nI q0) (qs ||| (1 <<< ((nI v).toInt64 &&& 63))) vi pr wr ++ X) H := hP
      have hD : va_D A (SW cI g lb se qa qb qc (upd qv q0 (nI v)) (upd qd q0 (nI d)) (upd qp q0 (eN p0)) (nI q0) (qs ||| (1 <<< ((nI v).toInt64 &&& 63))) vi pr wr ++ X) := hD
      refine lv_aload_n hx hb dX2_enqueue_59 rfl (lv_at hl 0 rfl) ?_
      refine lv_dup hx hb dX2_enqueue_60 rfl ?_
      refine va_get (D := dG) (ci := 2) (v := .int (nI q0)) (C := RX2) (T := TX2) (N := 10) hx hb hts hiX2 hown hK.1 hP 0 rfl rfl 5 (by decide) hf29 (fun _ h9 => h9) rfl dX2_enqueue_61 ?_
      refine lv_iconst (v := (nI 1)) hx hb dX2_enqueue_64 (by decide) ?_
      refine x_addN (i := q0) (j := 1) hx hb dX2_enqueue_65 ?_
      refine va_put (D := dG) (ci := 2) (v := .int (nI (q0 + 1))) (ty := .int) (C := RX2) (T := TX2) (N := 10) hx hb hts hiX2 tyX2 tyX2_ok nmX2 hown hK.1 hP hD hS 0 rfl rfl 5 (by decide) hf29 (fun _ h9 => h9) rfl (by decide +kernel) rfl rfl (Nat.le_of_ble_eq_true rfl) dX2_enqueue_66 (fun H locs hP hD hS => ?_)
      have hP : va_P dG vwCl (SW cI g lb se qa qb qc (upd qv q0 (nI v)) (upd qd q0 (nI d)) (upd qp q0 (eN p0)) (nI (q0 + 1)) (qs ||| (1 <<< ((nI v).toInt64 &&& 63))) vi pr wr ++ X) H := hP
      have hD : va_D A (SW cI g lb se qa qb qc (upd qv q0 (nI v)) (upd qd q0 (nI d)) (upd qp q0 (eN p0)) (nI (q0 + 1)) (qs ||| (1 <<< ((nI v).toInt64 &&& 63))) vi pr wr ++ X) := hD
      exact W.vret hx hb hr (fun t ht hW => ⟨⟨(), rfl, trivial, by rw [ht]; exact hP, hD⟩, hS.F ht⟩) hS.2.2 dX2_enqueue_69

set_option maxHeartbeats 4000000 in
set_option maxRecDepth 100000 in
/-- Searches.visit -/
theorem c_visit (l : Launch) (dG : va_G) (cI cJ : ClassId) (A : Nat → Prop) (g gA lb aR aV aH aD aP se qa qb qc : Nat) (rk vb : Nat → Int32) (rc : Int32) (n ec : Nat) (ns : Nat → Int64) (hn : n ≤ 48) (qv qd qp : Nat → Int32) (hs : Nat → Int64) (D Pp : Nat → Int32) (L P : Nat → Nat → Option Nat) (Q : SQ) (vi cu pu : Nat) (hR : RepL L P hs D Pp) (hQ : QR qv qd qp Q) (hI : QI n Q) (hB : LBd L (2 ^ 30)) (r v d h : Nat) (p0 : Option Nat) (hr0 : r < 48) (hv : v < n) (hd : d < 2 ^ 30) (hh : h < 48) (eh : vb r = nI h) (F : ST) (hF : vst ns n h r v d p0 (L, P, Q, vi, cu, pu) = F) (X : va_W) : Met l yX2_visit wsX2_visit ({ frames := 3, cells := 0, slots := 0, locals := 70 } : Room) (WPc dG cI cJ [.ref se, .int (nI r), .int (nI v), .int (nI d), .int (eN p0)] (SW cI g lb se qa qb qc qv qd qp (nI (qn Q)) (qb9 Q) (nI vi) (nI cu) (nI pu) ++ (GW cJ g gA (nI n) (nI ec) ns ++ (LW cI cJ lb aR aV aH aD aP rk vb rc hs D Pp ++ X))) A) (va_Qv (S := (Nat → Int32) × (Nat → Int32) × (Nat → Int32) × (Nat → Int64) × (Nat → Int32) × (Nat → Int32)) (fun u => RepL F.1 F.2.1 u.2.2.2.1 u.2.2.2.2.1 u.2.2.2.2.2 ∧ QR u.1 u.2.1 u.2.2.1 F.2.2.1) (fun u => WB dG A (SW cI g lb se qa qb qc u.1 u.2.1 u.2.2.1 (nI (qn F.2.2.1)) (qb9 F.2.2.1) (nI F.2.2.2.1) (nI F.2.2.2.2.1) (nI F.2.2.2.2.2) ++ (GW cJ g gA (nI n) (nI ec) ns ++ (LW cI cJ lb aR aV aH aD aP rk vb rc u.2.2.2.1 u.2.2.2.2.1 u.2.2.2.2.2 ++ X)))) A) 0 0 A := by
  refine Met.ofW (cc := cX2_visit) (maxL := 8) (ret := none) (by decide) rfl ?_
  intro p e s m args below meth c s₁ B9 hml hv
  obtain ⟨rfl, hP, hK, hD⟩ := hv
  have hx := B9.exec
  have hb := B9.bytes
  have hr := B9.returns
  have hts := atoms_spec (ws := wsX2_visit) B9.pre
  have hown : s.vm.findClass RX2 = some m.cls := findClass_of_methodNamed B9.named
  have hlocks := B9.notSynchronized
  have hS : va_S A s.heap s.heap [] := va_S.rf
  have hl := lv_entry ([.ref se, .int (nI r), .int (nI v), .int (nI d), .int (eN p0)]) (n := 8) (Nat.le_of_ble_eq_true rfl)
  rw [lg_entry_eq]
  generalize (lg_sl ([.ref se, .int (nI r), .int (nI v), .int (nI d), .int (eN p0)]) ++ List.replicate (8 - (lg_sl ([.ref se, .int (nI r), .int (nI v), .int (nI d), .int (eN p0)])).length) Slot.unset).toArray = ls at hl ⊢
  have hl : lv_has ls 8 [(0, .ref se), (1, .int (nI r)), (2, .int (nI v)), (3, .int (nI d)), (4, .int (eN p0))] := hl
  have hiX2 : ∀ w ∈ wsX20, w ∈ wsX2_visit := by decide +kernel
  have hf9 := hts (.fieldLink RX2 9 "LandmarkLea$Searches" "graph" "LLandmarkLea$Graph;") (by decide +kernel)
  have hf15 := hts (.fieldLink RX2 15 "LandmarkLea$Searches" "labels" "LLandmarkLea$Labels;") (by decide +kernel)
  have hf33 := hts (.fieldLink RX2 33 "LandmarkLea$Searches" "queuedSet" "J") (by decide +kernel)
  have hf37 := hts (.fieldLink RX2 37 "LandmarkLea$Searches" "visitCount" "I") (by decide +kernel)
  have hf40 := hts (.fieldLink RX2 40 "LandmarkLea$Searches" "prunedCount" "I") (by decide +kernel)
  have hf43 := hts (.fieldLink RX2 43 "LandmarkLea$Searches" "writtenCount" "I") (by decide +kernel)
  refine lv_aload_n hx hb dX2_visit_0 rfl (lv_at hl 0 rfl) ?_
  refine lv_dup hx hb dX2_visit_1 rfl ?_
  refine va_get (D := dG) (ci := 2) (v := .int (nI vi)) (C := RX2) (T := TX2) (N := 10) hx hb hts hiX2 hown hK.1 hP 0 rfl rfl 7 (by decide) hf37 (fun _ h9 => h9) rfl dX2_visit_2 ?_
  refine lv_iconst (v := (nI 1)) hx hb dX2_visit_5 (by decide) ?_
  refine x_addN (i := vi) (j := 1) hx hb dX2_visit_6 ?_
  refine va_put (D := dG) (ci := 2) (v := .int (nI (vi + 1))) (ty := .int) (C := RX2) (T := TX2) (N := 10) hx hb hts hiX2 tyX2 tyX2_ok nmX2 hown hK.1 hP hD hS 0 rfl rfl 7 (by decide) hf37 (fun _ h9 => h9) rfl (by decide +kernel) rfl rfl (Nat.le_of_ble_eq_true rfl) dX2_visit_7 (fun H locs hP hD hS => ?_)
  have hP : va_P dG vwCl (SW cI g lb se qa qb qc qv qd qp (nI (qn Q)) (qb9 Q) (nI (vi + 1)) (nI cu) (nI pu) ++ (GW cJ g gA (nI n) (nI ec) ns ++ (LW cI cJ lb aR aV aH aD aP rk vb rc hs D Pp ++ X))) H := hP
  have hD : va_D A (SW cI g lb se qa qb qc qv qd qp (nI (qn Q)) (qb9 Q) (nI (vi + 1)) (nI cu) (nI pu) ++ (GW cJ g gA (nI n) (nI ec) ns ++ (LW cI cJ lb aR aV aH aD aP rk vb rc hs D Pp ++ X))) := hD
  refine lv_aload_n hx hb dX2_visit_10 rfl (lv_at hl 0 rfl) ?_
  refine va_get (D := dG) (ci := 2) (v := .ref lb) (C := RX2) (T := TX2) (N := 10) hx hb hts hiX2 hown hK.1 hP 0 rfl rfl 1 (by decide) hf15 (fun _ h9 => h9) rfl dX2_visit_11 ?_
  refine lv_iload_n hx hb dX2_visit_14 rfl (lv_at hl 1 rfl) ?_
  refine lv_iload_n hx hb dX2_visit_15 rfl (lv_at hl 2 rfl) ?_
  refine lv_iload_n hx hb dX2_visit_16 rfl (lv_at hl 3 rfl) ?_
  have hPc := hP.sub (ws' := (LW cI cJ lb aR aV aH aD aP rk vb rc hs D Pp)) [6, 7, 8, 9, 10, 11] rfl
  refine x_ri (W.runV (As := [.int (nI r), .int (nI v), .int (nI d)]) (rest := []) ⟨hx, hb, hml, hown, hts⟩ (c_reaches l dG cI cJ lb aR aV aH aD aP rk vb rc hs D Pp L P hR hB r v d h hr0 (by omega) (by omega) hh eh) (cwV 3 hts gX2_visit_X1_reaches rfl rfl rfl (by decide +kernel) ⟨Nat.le_of_ble_eq_true rfl, Nat.le_of_ble_eq_true rfl⟩) (RPc.pre hPc hK (va_recv hK.1 hPc (ci := 1) (q0 := 0) rfl rfl)) rfl rfl hl.1 rfl (lv_room (Nat.le_of_ble_eq_true rfl)) dX2_visit_17 ⟨Nat.zero_le _, Nat.zero_le _⟩) ?_
  refine x_ifeqB (tgt := 34) hx hb dX2_visit_20 (by decide) (fun c20 => ?_) (fun c20 => ?_)
  · skip
    have eF : F = (up2 L v r (some d), up2 P v r p0, enq ns v d Q n, vi + 1, cu, pu + 1) := hF.symm.trans (if_neg (by rw [c20]; decide))
    subst eF
    have hR2 := hR.put (d := d) (p := p0) (show v < 48 by omega) hr0
    refine lv_aload_n hx hb dX2_visit_34 rfl (lv_at hl 0 rfl) ?_
    refine va_get (D := dG) (ci := 2) (v := .ref lb) (C := RX2) (T := TX2) (N := 10) hx hb hts hiX2 hown hK.1 hP 0 rfl rfl 1 (by decide) hf15 (fun _ h9 => h9) rfl dX2_visit_35 ?_
    refine lv_iload_n hx hb dX2_visit_38 rfl (lv_at hl 1 rfl) ?_
    refine lv_iload_n hx hb dX2_visit_39 rfl (lv_at hl 2 rfl) ?_
    refine lv_iload_n hx hb dX2_visit_40 rfl (lv_at hl 3 rfl) ?_
    refine lv_iload hx hb dX2_visit_41 (lv_at hl 4 rfl) ?_
    have hPc : va_P dG vwCl (LW cI cJ lb aR aV aH aD aP rk vb rc hs D Pp ++ (SW cI g lb se qa qb qc qv qd qp (nI (qn Q)) (qb9 Q) (nI (vi + 1)) (nI cu) (nI pu) ++ (GW cJ g gA (nI n) (nI ec) ns ++ X))) H := va_P.perm hP (List.Perm.trans (List.Perm.append_left _ (List.perm_append_comm_assoc _ _ _)) (List.perm_append_comm_assoc _ _ _))
    have hDc : va_D A (LW cI cJ lb aR aV aH aD aP rk vb rc hs D Pp ++ (SW cI g lb se qa qb qc qv qd qp (nI (qn Q)) (qb9 Q) (nI (vi + 1)) (nI cu) (nI pu) ++ (GW cJ g gA (nI n) (nI ec) ns ++ X))) := va_D.perm hD (List.Perm.trans (List.Perm.append_left _ (List.perm_append_comm_assoc _ _ _)) (List.perm_append_comm_assoc _ _ _))
    refine va_callv (va_runV (As := [.int (nI r), .int (nI v), .int (nI d), .int (eN p0)]) (rest := []) ⟨hx, hb, hml, hown, hts⟩ (c_put l dG cI cJ A lb aR aV aH aD aP rk vb rc hs D Pp r v d p0 hr0 (by omega) _) (cwV 4 hts gX2_visit_X1_put rfl rfl rfl (by decide +kernel) ⟨Nat.le_of_ble_eq_true rfl, Nat.le_of_ble_eq_true rfl⟩) (WPc.pre hPc hDc hK (va_recv hK.1 hPc (ci := 1) (q0 := 0) rfl rfl)) rfl rfl hl.1 rfl (lv_room (Nat.le_of_ble_eq_true rfl)) dX2_visit_43 ⟨Nat.zero_le _, Nat.zero_le _⟩) hS (fun q _ h => h) (fun q h => h) (fun u9 t H locs ht hvm hw hB hz1 hk1 hS => ?_)
    obtain ⟨hP, hD⟩ := hB
    rw [ht] at hP
    have hP : va_P dG vwCl (LW cI cJ lb aR aV aH aD aP rk vb rc (vp_updL hs v (hs v ||| ((1 : Int64) <<< ((nI r).toInt64 &&& 63)))) (upd D (v * 48 + r) (nI d)) (upd Pp (v * 48 + r) (eN p0)) ++ (SW cI g lb se qa qb qc qv qd qp (nI (qn Q)) (qb9 Q) (nI (vi + 1)) (nI cu) (nI pu) ++ (GW cJ g gA (nI n) (nI ec) ns ++ X))) H := hP
    have hD : va_D A (LW cI cJ lb aR aV aH aD aP rk vb rc (vp_updL hs v (hs v ||| ((1 : Int64) <<< ((nI r).toInt64 &&& 63)))) (upd D (v * 48 + r) (nI d)) (upd Pp (v * 48 + r) (eN p0)) ++ (SW cI g lb se qa qb qc qv qd qp (nI (qn Q)) (qb9 Q) (nI (vi + 1)) (nI cu) (nI pu) ++ (GW cJ g gA (nI n) (nI ec) ns ++ X))) := hD
    have hP : va_P dG vwCl (SW cI g lb se qa qb qc qv qd qp (nI (qn Q)) (qb9 Q) (nI (vi + 1)) (nI cu) (nI pu) ++ (GW cJ g gA (nI n) (nI ec) ns ++ (LW cI cJ lb aR aV aH aD aP rk vb rc (vp_updL hs v (hs v ||| ((1 : Int64) <<< ((nI r).toInt64 &&& 63)))) (upd D (v * 48 + r) (nI d)) (upd Pp (v * 48 + r) (eN p0)) ++ X))) H := va_P.perm hP (List.Perm.trans (List.perm_append_comm_assoc _ _ _) (List.Perm.append_left _ (List.perm_append_comm_assoc _ _ _)))
    have hD : va_D A (SW cI g lb se qa qb qc qv qd qp (nI (qn Q)) (qb9 Q) (nI (vi + 1)) (nI cu) (nI pu) ++ (GW cJ g gA (nI n) (nI ec) ns ++ (LW cI cJ lb aR aV aH aD aP rk vb rc (vp_updL hs v (hs v ||| ((1 : Int64) <<< ((nI r).toInt64 &&& 63)))) (upd D (v * 48 + r) (nI d)) (upd Pp (v * 48 + r) (eN p0)) ++ X))) := va_D.perm hD (List.Perm.trans (List.perm_append_comm_assoc _ _ _) (List.Perm.append_left _ (List.perm_append_comm_assoc _ _ _)))
    refine lv_aload_n hx hb dX2_visit_46 rfl (lv_at hl 0 rfl) ?_
    refine lv_dup hx hb dX2_visit_47 rfl ?_
    refine va_get (D := dG) (ci := 2) (v := .int (nI pu)) (C := RX2) (T := TX2) (N := 10) hx hb hts hiX2 hown hK.1 hP 0 rfl rfl 9 (by decide) hf43 (fun _ h9 => h9) rfl dX2_visit_48 ?_
    refine lv_iconst (v := (nI 1)) hx hb dX2_visit_51 (by decide) ?_
    refine x_addN (i := pu) (j := 1) hx hb dX2_visit_52 ?_
    refine va_put (D := dG) (ci := 2) (v := .int (nI (pu + 1))) (ty := .int) (C := RX2) (T := TX2) (N := 10) hx hb hts hiX2 tyX2 tyX2_ok nmX2 hown hK.1 hP hD hS 0 rfl rfl 9 (by decide) hf43 (fun _ h9 => h9) rfl (by decide +kernel) rfl rfl (Nat.le_of_ble_eq_true rfl) dX2_visit_53 (fun H locs hP hD hS => ?_)
    have hP : va_P dG vwCl (SW cI g lb se qa qb qc qv qd qp (nI (qn Q)) (qb9 Q) (nI (vi + 1)) (nI cu) (nI (pu + 1)) ++ (GW cJ g gA (nI n) (nI ec) ns ++ (LW cI cJ lb aR aV aH aD aP rk vb rc (vp_updL hs v (hs v ||| ((1 : Int64) <<< ((nI r).toInt64 &&& 63)))) (upd D (v * 48 + r) (nI d)) (upd Pp (v * 48 + r) (eN p0)) ++ X))) H := hP
    have hD : va_D A (SW cI g lb se qa qb qc qv qd qp (nI (qn Q)) (qb9 Q) (nI (vi + 1)) (nI cu) (nI (pu + 1)) ++ (GW cJ g gA (nI n) (nI ec) ns ++ (LW cI cJ lb aR aV aH aD aP rk vb rc (vp_updL hs v (hs v ||| ((1 : Int64) <<< ((nI r).toInt64 &&& 63)))) (upd D (v * 48 + r) (nI d)) (upd Pp (v * 48 + r) (eN p0)) ++ X))) := hD
    refine lv_aload_n hx hb dX2_visit_56 rfl (lv_at hl 0 rfl) ?_
    refine va_get (D := dG) (ci := 2) (v := .ref g) (C := RX2) (T := TX2) (N := 10) hx hb hts hiX2 hown hK.1 hP 0 rfl rfl 0 (by decide) hf9 (fun _ h9 => h9) rfl dX2_visit_57 ?_
    refine lv_iload_n hx hb dX2_visit_60 rfl (lv_at hl 2 rfl) ?_
    have hPc := hP.sub (ws' := (GW cJ g gA (nI n) (nI ec) ns)) [4, 5] rfl
    refine x_rl (W.runV (As := [.int (nI v)]) (rest := []) ⟨hx, hb, hml, hown, hts⟩ (c_adjacent l dG cI cJ g gA n ec ns v (by omega)) (cwV 1 hts gX2_visit_X0_adjacent rfl rfl rfl (by decide +kernel) ⟨Nat.le_of_ble_eq_true rfl, Nat.le_of_ble_eq_true rfl⟩) (RPc.pre hPc hK (va_recv hK.1 hPc (ci := 0) (q0 := 0) rfl rfl)) rfl rfl hl.1 rfl (lv_room (Nat.le_of_ble_eq_true rfl)) dX2_visit_61 ⟨Nat.zero_le _, Nat.zero_le _⟩) ?_
    refine lv_aload_n hx hb dX2_visit_64 rfl (lv_at hl 0 rfl) ?_
    refine va_get (D := dG) (ci := 2) (v := .long (qb9 Q)) (C := RX2) (T := TX2) (N := 10) hx hb hts hiX2 hown hK.1 hP 0 rfl rfl 6 (by decide) hf33 (fun _ h9 => h9) rfl dX2_visit_65 ?_
    refine lv_ldc2 hx hb hown (hts (.constantLong RX2 98 (-1)) (by decide +kernel)) dX2_visit_68 ?_
    refine lv_lxor hx hb dX2_visit_71 ?_
    refine lv_land hx hb dX2_visit_72 ?_
    refine lv_lstore (lv' := [(5, .long ((ns v) &&& ((qb9 Q) ^^^ (-1)))), (0, .ref se), (1, .int (nI r)), (2, .int (nI v)), (3, .int (nI d)), (4, .int (eN p0))]) hx hb dX2_visit_73 hl (by decide) rfl (fun ls hl => ?_)
    refine lv_iconst (v := (nI 0)) hx hb dX2_visit_75 (by decide) ?_
    refine lv_istore (lv' := [(7, .int (nI 0)), (5, .long ((ns v) &&& ((qb9 Q) ^^^ (-1)))), (0, .ref se), (1, .int (nI r)), (2, .int (nI v)), (3, .int (nI d)), (4, .int (eN p0))]) hx hb dX2_visit_76 hl (by decide) rfl (fun ls hl => ?_)
    have loop : ∀ (QQ : State → Prop) (n1 : Nat) (k : Nat) (qv qd qp : Nat → Int32), n < k + n1 → k ≤ n → QR qv qd qp (enq ns v d Q k) → (∀ (qv qd qp : Nat → Int32) (_ : QR qv qd qp (enq ns v d Q n)), ∀ (H : Heap) (locs : List Loc), va_P dG vwCl (SW cI g lb se qa qb qc qv qd qp (nI (qn (enq ns v d Q n))) (qb9 (enq ns v d Q n)) (nI (vi + 1)) (nI cu) (nI (pu + 1)) ++ (GW cJ g gA (nI n) (nI ec) ns ++ (LW cI cJ lb aR aV aH aD aP rk vb rc (vp_updL hs v (hs v ||| ((1 : Int64) <<< ((nI r).toInt64 &&& 63)))) (upd D (v * 48 + r) (nI d)) (upd Pp (v * 48 + r) (eN p0)) ++ X))) H → va_D A (SW cI g lb se qa qb qc qv qd qp (nI (qn (enq ns v d Q n))) (qb9 (enq ns v d Q n)) (nI (vi + 1)) (nI cu) (nI (pu + 1)) ++ (GW cJ g gA (nI n) (nI ec) ns ++ (LW cI cJ lb aR aV aH aD aP rk vb rc (vp_updL hs v (hs v ||| ((1 : Int64) <<< ((nI r).toInt64 &&& 63)))) (upd D (v * 48 + r) (nI d)) (upd Pp (v * 48 + r) (eN p0)) ++ X))) → va_S A s.heap H locs → ∀ ls : Array Slot, lv_has ls 8 [(0, .ref se), (1, .int (nI r)), (2, .int (nI v)), (3, .int (nI d)), (4, .int (eN p0)), (5, .long (ns v &&& (qb9 Q ^^^ (-1)))), (7, .int (nI n))] → W p l e ({ frames := 3, cells := 0, slots := 0, locals := 70 } : Room) s m ([.ref se, .int (nI r), .int (nI v), .int (nI d), .int (eN p0)] : List Value).toArray below meth c H locs 0 0 QQ (F0 m 116 ls [])) → ∀ (H : Heap) (locs : List Loc), va_P dG vwCl (SW cI g lb se qa qb qc qv qd qp (nI (qn (enq ns v d Q k))) (qb9 (enq ns v d Q k)) (nI (vi + 1)) (nI cu) (nI (pu + 1)) ++ (GW cJ g gA (nI n) (nI ec) ns ++ (LW cI cJ lb aR aV aH aD aP rk vb rc (vp_updL hs v (hs v ||| ((1 : Int64) <<< ((nI r).toInt64 &&& 63)))) (upd D (v * 48 + r) (nI d)) (upd Pp (v * 48 + r) (eN p0)) ++ X))) H → va_D A (SW cI g lb se qa qb qc qv qd qp (nI (qn (enq ns v d Q k))) (qb9 (enq ns v d Q k)) (nI (vi + 1)) (nI cu) (nI (pu + 1)) ++ (GW cJ g gA (nI n) (nI ec) ns ++ (LW cI cJ lb aR aV aH aD aP rk vb rc (vp_updL hs v (hs v ||| ((1 : Int64) <<< ((nI r).toInt64 &&& 63)))) (upd D (v * 48 + r) (nI d)) (upd Pp (v * 48 + r) (eN p0)) ++ X))) → va_S A s.heap H locs → ∀ ls : Array Slot, lv_has ls 8 [(0, .ref se), (1, .int (nI r)), (2, .int (nI v)), (3, .int (nI d)), (4, .int (eN p0)), (5, .long (ns v &&& (qb9 Q ^^^ (-1)))), (7, .int (nI k))] → W p l e ({ frames := 3, cells := 0, slots := 0, locals := 70 } : Room) s m ([.ref se, .int (nI r), .int (nI v), .int (nI d), .int (eN p0)] : List Value).toArray below meth c H locs 0 0 QQ (F0 m 78 ls []) := by
      intro QQ n1
      induction n1 with
      | zero => intro k qv qd qp h1 h2 h3; exact absurd h1 (by omega)
      | succ n1 ih =>
        intro k qv qd qp h1 h2 h3 kx H locs hP hD hS ls hl
        refine lv_iload hx hb dX2_visit_78 (lv_at hl 6 rfl) ?_
        refine lv_aload_n hx hb dX2_visit_80 rfl (lv_at hl 0 rfl) ?_
        refine va_get (D := dG) (ci := 2) (v := .ref g) (C := RX2) (T := TX2) (N := 10) hx hb hts hiX2 hown hK.1 hP 0 rfl rfl 0 (by decide) hf9 (fun _ h9 => h9) rfl dX2_visit_81 ?_
        have hPc := hP.sub (ws' := (GW cJ g gA (nI n) (nI ec) ns)) [4, 5] rfl
        refine x_ri (W.runV (As := []) (rest := [.int (nI k)]) ⟨hx, hb, hml, hown, hts⟩ (c_size l dG cI cJ g gA n ec ns) (cwV 0 hts gX2_visit_X0_size rfl rfl rfl (by decide +kernel) ⟨Nat.le_of_ble_eq_true rfl, Nat.le_of_ble_eq_true rfl⟩) (RPc.pre hPc hK (va_recv hK.1 hPc (ci := 0) (q0 := 0) rfl rfl)) rfl rfl hl.1 rfl (lv_room (Nat.le_of_ble_eq_true rfl)) dX2_visit_84 ⟨Nat.zero_le _, Nat.zero_le _⟩) ?_
        refine x_icmp_geN (i := k) (j := n) (tgt := 116) hx hb (by omega) (by omega) dX2_visit_87 (by decide) (fun c87 => ?_) (fun c87 => ?_)
        · skip
          have ek : k = n := by omega
          subst ek
          exact kx (qv) (qd) (qp) (h3) H locs hP hD hS ls (lv_sub hl [0, 1, 2, 3, 4, 5, 6] rfl)
        · skip
          refine lv_lload hx hb dX2_visit_90 (lv_at hl 5 rfl) ?_
          refine lv_iload hx hb dX2_visit_92 (lv_at hl 6 rfl) ?_
          have hPc : va_P dG vwCl [] H := fun k q h => by simp at h
          refine x_ri (va_runSN (As := [.long (ns v &&& (qb9 Q ^^^ (-1))), .int (nI k)]) (rest := []) ⟨hx, hb, hml, hown, hts⟩ (c_hasBit l dG cI cJ (ns v &&& (qb9 Q ^^^ (-1))) k (by omega)) ⟨va_cnB 2 hts gX2_visit_X3_hasBit_n100 rfl rfl rfl hK.2.2.2.2.2.2 (hts (.initialized RX3) (by decide +kernel)) (by decide +kernel) ⟨Nat.le_of_ble_eq_true rfl, Nat.le_of_ble_eq_true rfl⟩, hts (.static yX3_hasBit) (by decide +kernel), trivial⟩ (RPc.preS hPc hK) rfl rfl hl.1 rfl (lv_room (Nat.le_of_ble_eq_true rfl)) dX2_visit_94 ⟨Nat.zero_le _, Nat.zero_le _⟩).run ?_
          rw [show gb (ns v &&& (qb9 Q ^^^ (-1))) k = (gb (ns v) k && !gb (qb9 Q) k) by rw [gb_and, gb_not _ (by omega)]]
          refine x_ifeqB (tgt := 110) hx hb dX2_visit_97 (by decide) (fun c97 => ?_) (fun c97 => ?_)
          · skip
            refine x_iincN (lv' := [(7, .int (nI (k + 1))), (0, .ref se), (1, .int (nI r)), (2, .int (nI v)), (3, .int (nI d)), (4, .int (eN p0)), (5, .long (ns v &&& (qb9 Q ^^^ (-1))))]) hx hb dX2_visit_110 hl (k := 6) rfl (by decide) rfl (fun ls hl => ?_)
            refine lv_goto (tgt := 78) hx hb dX2_visit_113 (by decide) ?_
            have hE := enq_no (d := d) (show k < 48 by omega) c97
            rw [← hE] at hP hD
            exact ih (k + 1) qv qd qp (by omega) (by omega) (by rw [hE]; exact h3) kx H locs hP hD hS ls (lv_sub hl [1, 2, 3, 4, 5, 6, 0] rfl)
          · skip
            refine lv_aload_n hx hb dX2_visit_100 rfl (lv_at hl 0 rfl) ?_
            refine lv_iload hx hb dX2_visit_101 (lv_at hl 6 rfl) ?_
            refine lv_iload_n hx hb dX2_visit_103 rfl (lv_at hl 3 rfl) ?_
            refine lv_iconst (v := (nI 1)) hx hb dX2_visit_104 (by decide) ?_
            refine x_addN (i := d) (j := 1) hx hb dX2_visit_105 ?_
            refine lv_iload_n hx hb dX2_visit_106 rfl (lv_at hl 2 rfl) ?_
            have hPc : va_P dG vwCl (SW cI g lb se qa qb qc qv qd qp (nI (qn (enq ns v d Q k))) (qb9 (enq ns v d Q k)) (nI (vi + 1)) (nI cu) (nI (pu + 1)) ++ (GW cJ g gA (nI n) (nI ec) ns ++ (LW cI cJ lb aR aV aH aD aP rk vb rc (vp_updL hs v (hs v ||| ((1 : Int64) <<< ((nI r).toInt64 &&& 63)))) (upd D (v * 48 + r) (nI d)) (upd Pp (v * 48 + r) (eN p0)) ++ X))) H := hP
            have hDc : va_D A (SW cI g lb se qa qb qc qv qd qp (nI (qn (enq ns v d Q k))) (qb9 (enq ns v d Q k)) (nI (vi + 1)) (nI cu) (nI (pu + 1)) ++ (GW cJ g gA (nI n) (nI ec) ns ++ (LW cI cJ lb aR aV aH aD aP rk vb rc (vp_updL hs v (hs v ||| ((1 : Int64) <<< ((nI r).toInt64 &&& 63)))) (upd D (v * 48 + r) (nI d)) (upd Pp (v * 48 + r) (eN p0)) ++ X))) := hD
            refine va_callv (va_runV (As := [.int (nI k), .int (nI (d + 1)), .int (nI v)]) (rest := []) ⟨hx, hb, hml, hown, hts⟩ (c_enqueue l dG cI cJ A g lb se qa qb qc qv qd qp (qn (enq ns v d Q k)) (qb9 (enq ns v d Q k)) (nI (vi + 1)) (nI cu) (nI (pu + 1)) k (d + 1) (some v) (by omega) (Nat.lt_of_lt_of_le (QI.lt (QI_enq hI hn k (by omega)) c87 (enq_free (by omega) c97)) hn) _) (cwV 3 hts gX2_visit_X2_enqueue rfl rfl rfl (by decide +kernel) ⟨Nat.le_of_ble_eq_true rfl, Nat.le_of_ble_eq_true rfl⟩) (WPc.pre hPc hDc hK (va_recv hK.1 hPc (ci := 2) (q0 := 0) rfl rfl)) rfl rfl hl.1 rfl (lv_room (Nat.le_of_ble_eq_true rfl)) dX2_visit_107 ⟨Nat.zero_le _, Nat.zero_le _⟩) hS (fun q _ h => h) (fun q h => h) (fun u9 t H locs ht hvm hw hB hz1 hk1 hS => ?_)
            obtain ⟨hP, hD⟩ := hB
            rw [ht] at hP
            have hP : va_P dG vwCl (SW cI g lb se qa qb qc (upd qv (qn (enq ns v d Q k)) (nI k)) (upd qd (qn (enq ns v d Q k)) (nI (d + 1))) (upd qp (qn (enq ns v d Q k)) (eN (some v))) (nI (qn (enq ns v d Q k) + 1)) (qb9 (enq ns v d Q k) ||| ((1 : Int64) <<< ((nI k).toInt64 &&& 63))) (nI (vi + 1)) (nI cu) (nI (pu + 1)) ++ (GW cJ g gA (nI n) (nI ec) ns ++ (LW cI cJ lb aR aV aH aD aP rk vb rc (vp_updL hs v (hs v ||| ((1 : Int64) <<< ((nI r).toInt64 &&& 63)))) (upd D (v * 48 + r) (nI d)) (upd Pp (v * 48 + r) (eN p0)) ++ X))) H := hP
            have hD : va_D A (SW cI g lb se qa qb qc (upd qv (qn (enq ns v d Q k)) (nI k)) (upd qd (qn (enq ns v d Q k)) (nI (d + 1))) (upd qp (qn (enq ns v d Q k)) (eN (some v))) (nI (qn (enq ns v d Q k) + 1)) (qb9 (enq ns v d Q k) ||| ((1 : Int64) <<< ((nI k).toInt64 &&& 63))) (nI (vi + 1)) (nI cu) (nI (pu + 1)) ++ (GW cJ g gA (nI n) (nI ec) ns ++ (LW cI cJ lb aR aV aH aD aP rk vb rc (vp_updL hs v (hs v ||| ((1 : Int64) <<< ((nI r).toInt64 &&& 63)))) (upd D (v * 48 + r) (nI d)) (upd Pp (v * 48 + r) (eN p0)) ++ X))) := hD
            refine x_iincN (lv' := [(7, .int (nI (k + 1))), (0, .ref se), (1, .int (nI r)), (2, .int (nI v)), (3, .int (nI d)), (4, .int (eN p0)), (5, .long (ns v &&& (qb9 Q ^^^ (-1))))]) hx hb dX2_visit_110 hl (k := 6) rfl (by decide) rfl (fun ls hl => ?_)
            refine lv_goto (tgt := 78) hx hb dX2_visit_113 (by decide) ?_
            have hE := enq_yes (d := d) (show k < 48 by omega) c97
            have hP : va_P dG vwCl (SW cI g lb se qa qb qc (upd qv (qn (enq ns v d Q k)) (nI k)) (upd qd (qn (enq ns v d Q k)) (nI (d + 1))) (upd qp (qn (enq ns v d Q k)) (eN (some v))) (nI (qn (enq ns v d Q (k + 1)))) (qb9 (enq ns v d Q (k + 1))) (nI (vi + 1)) (nI cu) (nI (pu + 1)) ++ (GW cJ g gA (nI n) (nI ec) ns ++ (LW cI cJ lb aR aV aH aD aP rk vb rc (vp_updL hs v (hs v ||| ((1 : Int64) <<< ((nI r).toInt64 &&& 63)))) (upd D (v * 48 + r) (nI d)) (upd Pp (v * 48 + r) (eN p0)) ++ X))) H := by rw [hE]; exact hP
            have hD : va_D A (SW cI g lb se qa qb qc (upd qv (qn (enq ns v d Q k)) (nI k)) (upd qd (qn (enq ns v d Q k)) (nI (d + 1))) (upd qp (qn (enq ns v d Q k)) (eN (some v))) (nI (qn (enq ns v d Q (k + 1)))) (qb9 (enq ns v d Q (k + 1))) (nI (vi + 1)) (nI cu) (nI (pu + 1)) ++ (GW cJ g gA (nI n) (nI ec) ns ++ (LW cI cJ lb aR aV aH aD aP rk vb rc (vp_updL hs v (hs v ||| ((1 : Int64) <<< ((nI r).toInt64 &&& 63)))) (upd D (v * 48 + r) (nI d)) (upd Pp (v * 48 + r) (eN p0)) ++ X))) := by rw [hE]; exact hD
            exact ih (k + 1) (upd qv (qn (enq ns v d Q k)) (nI k)) (upd qd (qn (enq ns v d Q k)) (nI (d + 1))) (upd qp (qn (enq ns v d Q k)) (eN (some v))) (by omega) (by omega) (by rw [hE]; exact QR.push h3 k (d + 1) (some v)) kx H locs hP hD hS ls (lv_sub hl [1, 2, 3, 4, 5, 6, 0] rfl)
    refine loop _ 49 0 qv qd qp (by omega) (by omega) (hQ) (fun qv qd qp h4 H locs hP hD hS ls hl => ?_) H locs hP hD hS ls (lv_sub hl [2, 3, 4, 5, 6, 1, 0] rfl)
    exact W.vret hx hb hr (fun t ht hW => ⟨⟨(qv, qd, qp, (vp_updL hs v (hs v ||| ((1 : Int64) <<< ((nI r).toInt64 &&& 63)))), (upd D (v * 48 + r) (nI d)), (upd Pp (v * 48 + r) (eN p0))), rfl, ⟨hR2, h4⟩, by rw [ht]; exact hP, hD⟩, hS.F ht⟩) hS.2.2 dX2_visit_116
  · skip
    have eF : F = (L, P, Q, vi + 1, cu + 1, pu) := hF.symm.trans (if_pos c20)
    subst eF
    refine lv_aload_n hx hb dX2_visit_23 rfl (lv_at hl 0 rfl) ?_
    refine lv_dup hx hb dX2_visit_24 rfl ?_
    refine va_get (D := dG) (ci := 2) (v := .int (nI cu)) (C := RX2) (T := TX2) (N := 10) hx hb hts hiX2 hown hK.1 hP 0 rfl rfl 8 (by decide) hf40 (fun _ h9 => h9) rfl dX2_visit_25 ?_
    refine lv_iconst (v := (nI 1)) hx hb dX2_visit_28 (by decide) ?_
    refine x_addN (i := cu) (j := 1) hx hb dX2_visit_29 ?_
    refine va_put (D := dG) (ci := 2) (v := .int (nI (cu + 1))) (ty := .int) (C := RX2) (T := TX2) (N := 10) hx hb hts hiX2 tyX2 tyX2_ok nmX2 hown hK.1 hP hD hS 0 rfl rfl 8 (by decide) hf40 (fun _ h9 => h9) rfl (by decide +kernel) rfl rfl (Nat.le_of_ble_eq_true rfl) dX2_visit_30 (fun H locs hP hD hS => ?_)
    have hP : va_P dG vwCl (SW cI g lb se qa qb qc qv qd qp (nI (qn Q)) (qb9 Q) (nI (vi + 1)) (nI (cu + 1)) (nI pu) ++ (GW cJ g gA (nI n) (nI ec) ns ++ (LW cI cJ lb aR aV aH aD aP rk vb rc hs D Pp ++ X))) H := hP
    have hD : va_D A (SW cI g lb se qa qb qc qv qd qp (nI (qn Q)) (qb9 Q) (nI (vi + 1)) (nI (cu + 1)) (nI pu) ++ (GW cJ g gA (nI n) (nI ec) ns ++ (LW cI cJ lb aR aV aH aD aP rk vb rc hs D Pp ++ X))) := hD
    exact W.vret hx hb hr (fun t ht hW => ⟨⟨(qv, qd, qp, hs, D, Pp), rfl, ⟨hR, hQ⟩, by rw [ht]; exact hP, hD⟩, hS.F ht⟩) hS.2.2 dX2_visit_33
