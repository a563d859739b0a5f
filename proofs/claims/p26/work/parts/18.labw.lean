/-! Labels: what writes -/
set_option maxHeartbeats 4000000 in
set_option maxRecDepth 100000 in
/-- Labels.rankNext -/
theorem c_rankNext (l : Launch) (dG : va_G) (cI cJ : ClassId) (A : Nat → Prop) (lb aR aV aH aD aP : Nat) (rk vb : Nat → Int32) (hs : Nat → Int64) (D Pp : Nat → Int32) (v k : Nat) (hv : v < 48) (hk : k < 48) (X : va_W) : Met l yX1_rankNext wsX1_rankNext ({ frames := 1, cells := 0, slots := 0, locals := 20 } : Room) (WPc dG cI cJ [.ref lb, .int (nI v)] (LW cI cJ lb aR aV aH aD aP rk vb (nI k) hs D Pp ++ X) A) (va_Qv (S := Unit) (fun _ => True) (fun _ => WB dG A (LW cI cJ lb aR aV aH aD aP (upd rk v (nI k)) (upd vb k (nI v)) (nI (k + 1)) hs D Pp ++ X)) A) 0 0 A := by
  refine Met.ofW (cc := cX1_rankNext) (maxL := 2) (ret := none) (by decide) rfl ?_
  intro p e s m args below meth c s₁ B9 hml hv
  obtain ⟨rfl, hP, hK, hD⟩ := hv
  have hx := B9.exec
  have hb := B9.bytes
  have hr := B9.returns
  have hts := atoms_spec (ws := wsX1_rankNext) B9.pre
  have hown : s.vm.findClass RX1 = some m.cls := findClass_of_methodNamed B9.named
  have hlocks := B9.notSynchronized
  have hS : va_S A s.heap s.heap [] := va_S.rf
  have hl := lv_entry ([.ref lb, .int (nI v)]) (n := 2) (Nat.le_of_ble_eq_true rfl)
  rw [lg_entry_eq]
  generalize (lg_sl ([.ref lb, .int (nI v)]) ++ List.replicate (2 - (lg_sl ([.ref lb, .int (nI v)])).length) Slot.unset).toArray = ls at hl ⊢
  have hl : lv_has ls 2 [(0, .ref lb), (1, .int (nI v))] := hl
  have hiX1 : ∀ w ∈ wsX10, w ∈ wsX1_rankNext := by decide +kernel
  have hf9 := hts (.fieldLink RX1 9 "LandmarkLea$Labels" "ranks" "[I") (by decide +kernel)
  have hf15 := hts (.fieldLink RX1 15 "LandmarkLea$Labels" "verticesByRank" "[I") (by decide +kernel)
  have hf18 := hts (.fieldLink RX1 18 "LandmarkLea$Labels" "rankedCount" "I") (by decide +kernel)
  refine lv_iload_n hx hb dX1_rankNext_0 rfl (lv_at hl 1 rfl) ?_
  have hPc : va_P dG vwCl [] s.heap := fun k q h => by simp at h
  refine x_ri (va_runSN (As := [.int (nI v)]) (rest := []) ⟨hx, hb, hml, hown, hts⟩ (c_isRow l dG cI cJ v (by omega)) ⟨va_cnB 1 hts gX1_rankNext_X3_isRow_n46 rfl rfl rfl hK.2.2.2.1 (hts (.initialized RX3) (by decide +kernel)) (by decide +kernel) ⟨Nat.le_of_ble_eq_true rfl, Nat.le_of_ble_eq_true rfl⟩, hts (.static yX3_isRow) (by decide +kernel), trivial⟩ (RPc.preS hPc hK) rfl rfl hl.1 rfl (lv_room (Nat.le_of_ble_eq_true rfl)) dX1_rankNext_1 ⟨Nat.zero_le _, Nat.zero_le _⟩).run ?_
  refine x_ifeqB (tgt := 47) hx hb dX1_rankNext_4 (by decide) (fun c4 => ?_) (fun c4 => ?_)
  · skip
    exact absurd hv (of_decide_eq_false c4)
  · skip
    refine lv_aload_n hx hb dX1_rankNext_7 rfl (lv_at hl 0 rfl) ?_
    refine va_get (D := dG) (ci := 1) (v := .int (nI k)) (C := RX1) (T := TX1) (N := 6) hx hb hts hiX1 hown hK.1 hP 0 rfl rfl 2 (by decide) hf18 (fun _ h9 => h9) rfl dX1_rankNext_8 ?_
    have hPc : va_P dG vwCl [] s.heap := fun k q h => by simp at h
    refine x_ri (va_runSN (As := [.int (nI k)]) (rest := []) ⟨hx, hb, hml, hown, hts⟩ (c_isRow l dG cI cJ k (by omega)) ⟨va_cnB 1 hts gX1_rankNext_X3_isRow_n46 rfl rfl rfl hK.2.2.2.1 (hts (.initialized RX3) (by decide +kernel)) (by decide +kernel) ⟨Nat.le_of_ble_eq_true rfl, Nat.le_of_ble_eq_true rfl⟩, hts (.static yX3_isRow) (by decide +kernel), trivial⟩ (RPc.preS hPc hK) rfl rfl hl.1 rfl (lv_room (Nat.le_of_ble_eq_true rfl)) dX1_rankNext_11 ⟨Nat.zero_le _, Nat.zero_le _⟩).run ?_
    refine x_ifeqB (tgt := 47) hx hb dX1_rankNext_14 (by decide) (fun c14 => ?_) (fun c14 => ?_)
    · skip
      exact absurd hk (of_decide_eq_false c14)
    · skip
      refine lv_aload_n hx hb dX1_rankNext_17 rfl (lv_at hl 0 rfl) ?_
      refine va_get (D := dG) (ci := 1) (v := .ref aR) (C := RX1) (T := TX1) (N := 6) hx hb hts hiX1 hown hK.1 hP 0 rfl rfl 0 (by decide) hf9 (fun _ h9 => h9) rfl dX1_rankNext_18 ?_
      refine lv_iload_n hx hb dX1_rankNext_21 rfl (lv_at hl 1 rfl) ?_
      refine lv_aload_n hx hb dX1_rankNext_22 rfl (lv_at hl 0 rfl) ?_
      refine va_get (D := dG) (ci := 1) (v := .int (nI k)) (C := RX1) (T := TX1) (N := 6) hx hb hts hiX1 hown hK.1 hP 0 rfl rfl 2 (by decide) hf18 (fun _ h9 => h9) rfl dX1_rankNext_23 ?_
      refine x_iast (f := rk) hx hb hK hP hD hS 1 rfl (by omega) (by decide) dX1_rankNext_26 (fun H locs hP hD hS => ?_)
      have hP : va_P dG vwCl (LW cI cJ lb aR aV aH aD aP (upd rk v (nI k)) vb (nI k) hs D Pp ++ X) H := hP
      have hD : va_D A (LW cI cJ lb aR aV aH aD aP (upd rk v (nI k)) vb (nI k) hs D Pp ++ X) := hD
      refine lv_aload_n hx hb dX1_rankNext_27 rfl (lv_at hl 0 rfl) ?_
      refine va_get (D := dG) (ci := 1) (v := .ref aV) (C := RX1) (T := TX1) (N := 6) hx hb hts hiX1 hown hK.1 hP 0 rfl rfl 1 (by decide) hf15 (fun _ h9 => h9) rfl dX1_rankNext_28 ?_
      refine lv_aload_n hx hb dX1_rankNext_31 rfl (lv_at hl 0 rfl) ?_
      refine va_get (D := dG) (ci := 1) (v := .int (nI k)) (C := RX1) (T := TX1) (N := 6) hx hb hts hiX1 hown hK.1 hP 0 rfl rfl 2 (by decide) hf18 (fun _ h9 => h9) rfl dX1_rankNext_32 ?_
      refine lv_iload_n hx hb dX1_rankNext_35 rfl (lv_at hl 1 rfl) ?_
      refine x_iast (f := vb) hx hb hK hP hD hS 2 rfl (by omega) (by decide) dX1_rankNext_36 (fun H locs hP hD hS => ?_)
      have hP : va_P dG vwCl (LW cI cJ lb aR aV aH aD aP (upd rk v (nI k)) (upd vb k (nI v)) (nI k) hs D Pp ++ X) H := hP
      have hD : va_D A (LW cI cJ lb aR aV aH aD aP (upd rk v (nI k)) (upd vb k (nI v)) (nI k) hs D Pp ++ X) := hD
      refine lv_aload_n hx hb dX1_rankNext_37 rfl (lv_at hl 0 rfl) ?_
      refine lv_dup hx hb dX1_rankNext_38 rfl ?_
      refine va_get (D := dG) (ci := 1) (v := .int (nI k)) (C := RX1) (T := TX1) (N := 6) hx hb hts hiX1 hown hK.1 hP 0 rfl rfl 2 (by decide) hf18 (fun _ h9 => h9) rfl dX1_rankNext_39 ?_
      refine lv_iconst (v := (nI 1)) hx hb dX1_rankNext_42 (by decide) ?_
      refine x_addN (i := k) (j := 1) hx hb dX1_rankNext_43 ?_
      refine va_put (D := dG) (ci := 1) (v := .int (nI (k + 1))) (ty := .int) (C := RX1) (T := TX1) (N := 6) hx hb hts hiX1 tyX1 tyX1_ok nmX1 hown hK.1 hP hD hS 0 rfl rfl 2 (by decide) hf18 (fun _ h9 => h9) rfl (by decide +kernel) rfl rfl (Nat.le_of_ble_eq_true rfl) dX1_rankNext_44 (fun H locs hP hD hS => ?_)
      have hP : va_P dG vwCl (LW cI cJ lb aR aV aH aD aP (upd rk v (nI k)) (upd vb k (nI v)) (nI (k + 1)) hs D Pp ++ X) H := hP
      have hD : va_D A (LW cI cJ lb aR aV aH aD aP (upd rk v (nI k)) (upd vb k (nI v)) (nI (k + 1)) hs D Pp ++ X) := hD
      exact W.vret hx hb hr (fun t ht hW => ⟨⟨(), rfl, trivial, by rw [ht]; exact hP, hD⟩, hS.F ht⟩) hS.2.2 dX1_rankNext_47

set_option maxHeartbeats 4000000 in
set_option maxRecDepth 100000 in
/-- Labels.put -/
theorem c_put (l : Launch) (dG : va_G) (cI cJ : ClassId) (A : Nat → Prop) (lb aR aV aH aD aP : Nat) (rk vb : Nat → Int32) (rc : Int32) (hs : Nat → Int64) (D Pp : Nat → Int32) (r v d : Nat) (p0 : Option Nat) (hr0 : r < 48) (hv : v < 48) (X : va_W) : Met l yX1_put wsX1_put ({ frames := 1, cells := 0, slots := 0, locals := 20 } : Room) (WPc dG cI cJ [.ref lb, .int (nI r), .int (nI v), .int (nI d), .int (eN p0)] (LW cI cJ lb aR aV aH aD aP rk vb rc hs D Pp ++ X) A) (va_Qv (S := Unit) (fun _ => True) (fun _ => WB dG A (LW cI cJ lb aR aV aH aD aP rk vb rc (vp_updL hs v (hs v ||| ((1 : Int64) <<< ((nI r).toInt64 &&& 63)))) (upd D (v * 48 + r) (nI d)) (upd Pp (v * 48 + r) (eN p0)) ++ X)) A) 0 0 A := by
  refine Met.ofW (cc := cX1_put) (maxL := 5) (ret := none) (by decide) rfl ?_
  intro p e s m args below meth c s₁ B9 hml hv
  obtain ⟨rfl, hP, hK, hD⟩ := hv
  have hx := B9.exec
  have hb := B9.bytes
  have hr := B9.returns
  have hts := atoms_spec (ws := wsX1_put) B9.pre
  have hown : s.vm.findClass RX1 = some m.cls := findClass_of_methodNamed B9.named
  have hlocks := B9.notSynchronized
  have hS : va_S A s.heap s.heap [] := va_S.rf
  have hl := lv_entry ([.ref lb, .int (nI r), .int (nI v), .int (nI d), .int (eN p0)]) (n := 5) (Nat.le_of_ble_eq_true rfl)
  rw [lg_entry_eq]
  generalize (lg_sl ([.ref lb, .int (nI r), .int (nI v), .int (nI d), .int (eN p0)]) ++ List.replicate (5 - (lg_sl ([.ref lb, .int (nI r), .int (nI v), .int (nI d), .int (eN p0)])).length) Slot.unset).toArray = ls at hl ⊢
  have hl : lv_has ls 5 [(0, .ref lb), (1, .int (nI r)), (2, .int (nI v)), (3, .int (nI d)), (4, .int (eN p0))] := hl
  have hiX1 : ∀ w ∈ wsX10, w ∈ wsX1_put := by decide +kernel
  have hf22 := hts (.fieldLink RX1 22 "LandmarkLea$Labels" "hubSets" "[J") (by decide +kernel)
  have hf26 := hts (.fieldLink RX1 26 "LandmarkLea$Labels" "distances" "[I") (by decide +kernel)
  have hf29 := hts (.fieldLink RX1 29 "LandmarkLea$Labels" "parents" "[I") (by decide +kernel)
  refine lv_iload_n hx hb dX1_put_0 rfl (lv_at hl 1 rfl) ?_
  have hPc : va_P dG vwCl [] s.heap := fun k q h => by simp at h
  refine x_ri (va_runSN (As := [.int (nI r)]) (rest := []) ⟨hx, hb, hml, hown, hts⟩ (c_isRow l dG cI cJ r (by omega)) ⟨va_cnB 1 hts gX1_put_X3_isRow_n46 rfl rfl rfl hK.2.2.2.1 (hts (.initialized RX3) (by decide +kernel)) (by decide +kernel) ⟨Nat.le_of_ble_eq_true rfl, Nat.le_of_ble_eq_true rfl⟩, hts (.static yX3_isRow) (by decide +kernel), trivial⟩ (RPc.preS hPc hK) rfl rfl hl.1 rfl (lv_room (Nat.le_of_ble_eq_true rfl)) dX1_put_1 ⟨Nat.zero_le _, Nat.zero_le _⟩).run ?_
  refine x_ifeqB (tgt := 51) hx hb dX1_put_4 (by decide) (fun c4 => ?_) (fun c4 => ?_)
  · skip
    exact absurd hr0 (of_decide_eq_false c4)
  · skip
    refine lv_iload_n hx hb dX1_put_7 rfl (lv_at hl 2 rfl) ?_
    have hPc : va_P dG vwCl [] s.heap := fun k q h => by simp at h
    refine x_ri (va_runSN (As := [.int (nI v)]) (rest := []) ⟨hx, hb, hml, hown, hts⟩ (c_isRow l dG cI cJ v (by omega)) ⟨va_cnB 1 hts gX1_put_X3_isRow_n46 rfl rfl rfl hK.2.2.2.1 (hts (.initialized RX3) (by decide +kernel)) (by decide +kernel) ⟨Nat.le_of_ble_eq_true rfl, Nat.le_of_ble_eq_true rfl⟩, hts (.static yX3_isRow) (by decide +kernel), trivial⟩ (RPc.preS hPc hK) rfl rfl hl.1 rfl (lv_room (Nat.le_of_ble_eq_true rfl)) dX1_put_8 ⟨Nat.zero_le _, Nat.zero_le _⟩).run ?_
    refine x_ifeqB (tgt := 51) hx hb dX1_put_11 (by decide) (fun c11 => ?_) (fun c11 => ?_)
    · skip
      exact absurd hv (of_decide_eq_false c11)
    · skip
      refine lv_aload_n hx hb dX1_put_14 rfl (lv_at hl 0 rfl) ?_
      refine va_get (D := dG) (ci := 1) (v := .ref aH) (C := RX1) (T := TX1) (N := 6) hx hb hts hiX1 hown hK.1 hP 0 rfl rfl 3 (by decide) hf22 (fun _ h9 => h9) rfl dX1_put_15 ?_
      refine lv_iload_n hx hb dX1_put_18 rfl (lv_at hl 2 rfl) ?_
      refine lv_dup2_11 hx hb dX1_put_19 rfl rfl ?_
      refine x_lald (f := hs) hx hb hK hP 3 rfl (by omega) (by decide) dX1_put_20 ?_
      refine lv_lconst (v := 1) hx hb dX1_put_21 rfl ?_
      refine lv_iload_n hx hb dX1_put_22 rfl (lv_at hl 1 rfl) ?_
      refine lv_lshl (v := (1 <<< ((nI r).toInt64 &&& 63))) hx hb dX1_put_23 rfl ?_
      refine lv_lor hx hb dX1_put_24 ?_
      refine x_last (f := hs) hx hb hK hP hD hS 3 rfl (by omega) (by decide) dX1_put_25 (fun H locs hP hD hS => ?_)
      have hP : va_P dG vwCl (LW cI cJ lb aR aV aH aD aP rk vb rc (vp_updL hs v ((hs v) ||| (1 <<< ((nI r).toInt64 &&& 63)))) D Pp ++ X) H := hP
      have hD : va_D A (LW cI cJ lb aR aV aH aD aP rk vb rc (vp_updL hs v ((hs v) ||| (1 <<< ((nI r).toInt64 &&& 63)))) D Pp ++ X) := hD
      refine lv_aload_n hx hb dX1_put_26 rfl (lv_at hl 0 rfl) ?_
      refine va_get (D := dG) (ci := 1) (v := .ref aD) (C := RX1) (T := TX1) (N := 6) hx hb hts hiX1 hown hK.1 hP 0 rfl rfl 4 (by decide) hf26 (fun _ h9 => h9) rfl dX1_put_27 ?_
      refine lv_iload_n hx hb dX1_put_30 rfl (lv_at hl 2 rfl) ?_
      refine lv_bipush (v := (nI 48)) hx hb dX1_put_31 (by decide) ?_
      refine x_mulN (i := v) (j := 48) hx hb dX1_put_33 ?_
      refine lv_iload_n hx hb dX1_put_34 rfl (lv_at hl 1 rfl) ?_
      refine x_addN (i := (v * 48)) (j := r) hx hb dX1_put_35 ?_
      refine lv_iload_n hx hb dX1_put_36 rfl (lv_at hl 3 rfl) ?_
      refine x_iast (f := D) hx hb hK hP hD hS 4 rfl (by omega) (by decide) dX1_put_37 (fun H locs hP hD hS => ?_)
      have hP : va_P dG vwCl (LW cI cJ lb aR aV aH aD aP rk vb rc (vp_updL hs v ((hs v) ||| (1 <<< ((nI r).toInt64 &&& 63)))) (upd D ((v * 48) + r) (nI d)) Pp ++ X) H := hP
      have hD : va_D A (LW cI cJ lb aR aV aH aD aP rk vb rc (vp_updL hs v ((hs v) ||| (1 <<< ((nI r).toInt64 &&& 63)))) (upd D ((v * 48) + r) (nI d)) Pp ++ X) := hD
      refine lv_aload_n hx hb dX1_put_38 rfl (lv_at hl 0 rfl) ?_
      refine va_get (D := dG) (ci := 1) (v := .ref aP) (C := RX1) (T := TX1) (N := 6) hx hb hts hiX1 hown hK.1 hP 0 rfl rfl 5 (by decide) hf29 (fun _ h9 => h9) rfl dX1_put_39 ?_
      refine lv_iload_n hx hb dX1_put_42 rfl (lv_at hl 2 rfl) ?_
      refine lv_bipush (v := (nI 48)) hx hb dX1_put_43 (by decide) ?_
      refine x_mulN (i := v) (j := 48) hx hb dX1_put_45 ?_
      refine lv_iload_n hx hb dX1_put_46 rfl (lv_at hl 1 rfl) ?_
      refine x_addN (i := (v * 48)) (j := r) hx hb dX1_put_47 ?_
      refine lv_iload hx hb dX1_put_48 (lv_at hl 4 rfl) ?_
      refine x_iast (f := Pp) hx hb hK hP hD hS 5 rfl (by omega) (by decide) dX1_put_50 (fun H locs hP hD hS => ?_)
      have hP : va_P dG vwCl (LW cI cJ lb aR aV aH aD aP rk vb rc (vp_updL hs v ((hs v) ||| (1 <<< ((nI r).toInt64 &&& 63)))) (upd D ((v * 48) + r) (nI d)) (upd Pp ((v * 48) + r) (eN p0)) ++ X) H := hP
      have hD : va_D A (LW cI cJ lb aR aV aH aD aP rk vb rc (vp_updL hs v ((hs v) ||| (1 <<< ((nI r).toInt64 &&& 63)))) (upd D ((v * 48) + r) (nI d)) (upd Pp ((v * 48) + r) (eN p0)) ++ X) := hD
      exact W.vret hx hb hr (fun t ht hW => ⟨⟨(), rfl, trivial, by rw [ht]; exact hP, hD⟩, hS.F ht⟩) hS.2.2 dX1_put_51

set_option maxHeartbeats 4000000 in
set_option maxRecDepth 100000 in
/-- Labels.forget -/
theorem c_forget (l : Launch) (dG : va_G) (cI cJ : ClassId) (A : Nat → Prop) (lb aR aV aH aD aP : Nat) (rk vb : Nat → Int32) (rc : Int32) (hs : Nat → Int64) (D Pp : Nat → Int32) (X : va_W) : Met l yX1_forget wsX1_forget ({ frames := 0, cells := 0, slots := 0, locals := 0 } : Room) (WPc dG cI cJ [.ref lb] (LW cI cJ lb aR aV aH aD aP rk vb rc hs D Pp ++ X) A) (va_Qv (S := Unit) (fun _ => True) (fun _ => WB dG A (LW cI cJ lb aR aV aH aD aP rk vb (nI 0) (cut0 hs 48) D Pp ++ X)) A) 0 0 A := by
  refine Met.ofW (cc := cX1_forget) (maxL := 2) (ret := none) (by decide) rfl ?_
  intro p e s m args below meth c s₁ B9 hml hv
  obtain ⟨rfl, hP, hK, hD⟩ := hv
  have hx := B9.exec
  have hb := B9.bytes
  have hr := B9.returns
  have hts := atoms_spec (ws := wsX1_forget) B9.pre
  have hown : s.vm.findClass RX1 = some m.cls := findClass_of_methodNamed B9.named
  have hlocks := B9.notSynchronized
  have hS : va_S A s.heap s.heap [] := va_S.rf
  have hl := lv_entry ([.ref lb]) (n := 2) (Nat.le_of_ble_eq_true rfl)
  rw [lg_entry_eq]
  generalize (lg_sl ([.ref lb]) ++ List.replicate (2 - (lg_sl ([.ref lb])).length) Slot.unset).toArray = ls at hl ⊢
  have hl : lv_has ls 2 [(0, .ref lb)] := hl
  have hiX1 : ∀ w ∈ wsX10, w ∈ wsX1_forget := by decide +kernel
  have hf18 := hts (.fieldLink RX1 18 "LandmarkLea$Labels" "rankedCount" "I") (by decide +kernel)
  have hf22 := hts (.fieldLink RX1 22 "LandmarkLea$Labels" "hubSets" "[J") (by decide +kernel)
  refine lv_aload_n hx hb dX1_forget_0 rfl (lv_at hl 0 rfl) ?_
  refine lv_iconst (v := (nI 0)) hx hb dX1_forget_1 (by decide) ?_
  refine va_put (D := dG) (ci := 1) (v := .int (nI 0)) (ty := .int) (C := RX1) (T := TX1) (N := 6) hx hb hts hiX1 tyX1 tyX1_ok nmX1 hown hK.1 hP hD hS 0 rfl rfl 2 (by decide) hf18 (fun _ h9 => h9) rfl (by decide +kernel) rfl rfl (Nat.le_of_ble_eq_true rfl) dX1_forget_2 (fun H locs hP hD hS => ?_)
  have hP : va_P dG vwCl (LW cI cJ lb aR aV aH aD aP rk vb (nI 0) hs D Pp ++ X) H := hP
  have hD : va_D A (LW cI cJ lb aR aV aH aD aP rk vb (nI 0) hs D Pp ++ X) := hD
  refine lv_iconst (v := (nI 0)) hx hb dX1_forget_5 (by decide) ?_
  refine lv_istore_n (lv' := [(1, .int (nI 0)), (0, .ref lb)]) hx hb dX1_forget_6 rfl hl (by decide) rfl (fun ls hl => ?_)
  rw [← cut0_0 hs] at hP hD
  have loop : ∀ (QQ : State → Prop) (n1 : Nat) (k : Nat), 48 < k + n1 → k ≤ 48 → (∀ (H : Heap) (locs : List Loc), va_P dG vwCl (LW cI cJ lb aR aV aH aD aP rk vb (nI 0) (cut0 hs 48) D Pp ++ X) H → va_D A (LW cI cJ lb aR aV aH aD aP rk vb (nI 0) (cut0 hs 48) D Pp ++ X) → va_S A s.heap H locs → ∀ ls : Array Slot, lv_has ls 2 [(0, .ref lb), (1, .int (nI 48))] → W p l e ({ frames := 0, cells := 0, slots := 0, locals := 0 } : Room) s m ([.ref lb] : List Value).toArray below meth c H locs 0 0 QQ (F0 m 29 ls [])) → ∀ (H : Heap) (locs : List Loc), va_P dG vwCl (LW cI cJ lb aR aV aH aD aP rk vb (nI 0) (cut0 hs k) D Pp ++ X) H → va_D A (LW cI cJ lb aR aV aH aD aP rk vb (nI 0) (cut0 hs k) D Pp ++ X) → va_S A s.heap H locs → ∀ ls : Array Slot, lv_has ls 2 [(0, .ref lb), (1, .int (nI k))] → W p l e ({ frames := 0, cells := 0, slots := 0, locals := 0 } : Room) s m ([.ref lb] : List Value).toArray below meth c H locs 0 0 QQ (F0 m 7 ls []) := by
    intro QQ n1
    induction n1 with
    | zero => intro k h1 h2; exact absurd h1 (by omega)
    | succ n1 ih =>
      intro k h1 h2 kx H locs hP hD hS ls hl
      refine lv_iload_n hx hb dX1_forget_7 rfl (lv_at hl 1 rfl) ?_
      refine lv_aload_n hx hb dX1_forget_8 rfl (lv_at hl 0 rfl) ?_
      refine va_get (D := dG) (ci := 1) (v := .ref aH) (C := RX1) (T := TX1) (N := 6) hx hb hts hiX1 hown hK.1 hP 0 rfl rfl 3 (by decide) hf22 (fun _ h9 => h9) rfl dX1_forget_9 ?_
      refine va_alen hx hb hK.1 hP 3 1 rfl rfl (v := nI 48) rfl dX1_forget_12 ?_
      refine x_icmp_geN (i := k) (j := 48) (tgt := 29) hx hb (by omega) (by omega) dX1_forget_13 (by decide) (fun c13 => ?_) (fun c13 => ?_)
      · skip
        have ek : k = 48 := by omega
        subst ek
        exact kx  H locs hP hD hS ls (lv_sub hl [0, 1] rfl)
      · skip
        refine lv_aload_n hx hb dX1_forget_16 rfl (lv_at hl 0 rfl) ?_
        refine va_get (D := dG) (ci := 1) (v := .ref aH) (C := RX1) (T := TX1) (N := 6) hx hb hts hiX1 hown hK.1 hP 0 rfl rfl 3 (by decide) hf22 (fun _ h9 => h9) rfl dX1_forget_17 ?_
        refine lv_iload_n hx hb dX1_forget_20 rfl (lv_at hl 1 rfl) ?_
        refine lv_lconst (v := 0) hx hb dX1_forget_21 rfl ?_
        refine x_last (f := (cut0 hs k)) hx hb hK hP hD hS 3 rfl (by omega) (by decide) dX1_forget_22 (fun H locs hP hD hS => ?_)
        have hP : va_P dG vwCl (LW cI cJ lb aR aV aH aD aP rk vb (nI 0) (vp_updL (cut0 hs k) k 0) D Pp ++ X) H := hP
        have hD : va_D A (LW cI cJ lb aR aV aH aD aP rk vb (nI 0) (vp_updL (cut0 hs k) k 0) D Pp ++ X) := hD
        refine x_iincN (lv' := [(1, .int (nI (k + 1))), (0, .ref lb)]) hx hb dX1_forget_23 hl (k := 1) rfl (by decide) rfl (fun ls hl => ?_)
        refine lv_goto (tgt := 7) hx hb dX1_forget_26 (by decide) ?_
        rw [cut0_s] at hP hD
        exact ih (k + 1) (by omega) (by omega) kx H locs hP hD hS ls (lv_sub hl [1, 0] rfl)
  refine loop _ 49 0 (by omega) (by omega) (fun  H locs hP hD hS ls hl => ?_) H locs hP hD hS ls (lv_sub hl [1, 0] rfl)
  exact W.vret hx hb hr (fun t ht hW => ⟨⟨(), rfl, trivial, by rw [ht]; exact hP, hD⟩, hS.F ht⟩) hS.2.2 dX1_forget_29

set_option maxHeartbeats 4000000 in
set_option maxRecDepth 100000 in
/-- Labels.rankAll: ranks by falling degrees -/
theorem c_rankAll (l : Launch) (dG : va_G) (cI cJ : ClassId) (A : Nat → Prop) (lb aR aV aH aD aP : Nat) (rk vb : Nat → Int32) (hs : Nat → Int64) (D Pp : Nat → Int32) (g gA n ec : Nat) (ns : Nat → Int64) (hn : n ≤ 48) (dg : Nat → Nat) (hdg : dg = fun v => fb_ct (gb (ns v)) 64) (hd : ∀ v, v < n → dg v < 48) (X : va_W) : Met l yX1_rankAll wsX1_rankAll ({ frames := 3, cells := 0, slots := 0, locals := 62 } : Room) (WPc dG cI cJ [.ref lb, .ref g] (LW cI cJ lb aR aV aH aD aP rk vb (nI 0) hs D Pp ++ (GW cJ g gA (nI n) (nI ec) ns ++ X)) A) (va_Qv (S := (Nat → Int32) × (Nat → Int32)) (fun u => RI dg n 0 0 u.1 u.2) (fun u => WB dG A (LW cI cJ lb aR aV aH aD aP u.1 u.2 (nI n) hs D Pp ++ (GW cJ g gA (nI n) (nI ec) ns ++ X))) A) 0 0 A := by
  refine Met.ofW (cc := cX1_rankAll) (maxL := 4) (ret := none) (by decide) rfl ?_
  intro p e s m args below meth c s₁ B9 hml hv
  obtain ⟨rfl, hP, hK, hD⟩ := hv
  have hx := B9.exec
  have hb := B9.bytes
  have hr := B9.returns
  have hts := atoms_spec (ws := wsX1_rankAll) B9.pre
  have hown : s.vm.findClass RX1 = some m.cls := findClass_of_methodNamed B9.named
  have hlocks := B9.notSynchronized
  have hS : va_S A s.heap s.heap [] := va_S.rf
  have hl := lv_entry ([.ref lb, .ref g]) (n := 4) (Nat.le_of_ble_eq_true rfl)
  rw [lg_entry_eq]
  generalize (lg_sl ([.ref lb, .ref g]) ++ List.replicate (4 - (lg_sl ([.ref lb, .ref g])).length) Slot.unset).toArray = ls at hl ⊢
  have hl : lv_has ls 4 [(0, .ref lb), (1, .ref g)] := hl
  refine lv_bipush (v := (nI 47)) hx hb dX1_rankAll_0 (by decide) ?_
  refine lv_istore_n (lv' := [(2, .int (nI 47)), (0, .ref lb), (1, .ref g)]) hx hb dX1_rankAll_2 rfl hl (by decide) rfl (fun ls hl => ?_)
  have h0 : RI dg n 48 0 rk vb := RI.start hd
  have hP : va_P dG vwCl (LW cI cJ lb aR aV aH aD aP rk vb (nI (cnt dg n 48 0)) hs D Pp ++ (GW cJ g gA (nI n) (nI ec) ns ++ X)) s.heap := by rw [cnt_0 hd]; exact hP
  have hD : va_D A (LW cI cJ lb aR aV aH aD aP rk vb (nI (cnt dg n 48 0)) hs D Pp ++ (GW cJ g gA (nI n) (nI ec) ns ++ X)) := by rw [cnt_0 hd]; exact hD
  have hl : lv_has ls 4 [(2, .int (dI 48)), (0, .ref lb), (1, .ref g)] := hl
  have outer : ∀ (QQ : State → Prop) (n1 : Nat) (j : Nat) (rk vb : Nat → Int32), j < n1 → j ≤ 48 → RI dg n j 0 rk vb → (∀ (rk vb : Nat → Int32) (_ : RI dg n 0 0 rk vb), ∀ (H : Heap) (locs : List Loc), va_P dG vwCl (LW cI cJ lb aR aV aH aD aP rk vb (nI n) hs D Pp ++ (GW cJ g gA (nI n) (nI ec) ns ++ X)) H → va_D A (LW cI cJ lb aR aV aH aD aP rk vb (nI n) hs D Pp ++ (GW cJ g gA (nI n) (nI ec) ns ++ X)) → va_S A s.heap H locs → ∀ ls : Array Slot, lv_has ls 4 [(0, .ref lb), (1, .ref g), (2, .int (dI 0))] → W p l e ({ frames := 3, cells := 0, slots := 0, locals := 62 } : Room) s m ([.ref lb, .ref g] : List Value).toArray below meth c H locs 0 0 QQ (F0 m 43 ls [])) → ∀ (H : Heap) (locs : List Loc), va_P dG vwCl (LW cI cJ lb aR aV aH aD aP rk vb (nI (cnt dg n j 0)) hs D Pp ++ (GW cJ g gA (nI n) (nI ec) ns ++ X)) H → va_D A (LW cI cJ lb aR aV aH aD aP rk vb (nI (cnt dg n j 0)) hs D Pp ++ (GW cJ g gA (nI n) (nI ec) ns ++ X)) → va_S A s.heap H locs → ∀ ls : Array Slot, lv_has ls 4 [(0, .ref lb), (1, .ref g), (2, .int (dI j))] → W p l e ({ frames := 3, cells := 0, slots := 0, locals := 62 } : Room) s m ([.ref lb, .ref g] : List Value).toArray below meth c H locs 0 0 QQ (F0 m 3 ls []) := by
    intro QQ n1
    induction n1 with
    | zero => intro j rk vb h1 h2 h3; exact absurd h1 (by omega)
    | succ n1 ih =>
      intro j rk vb h1 h2 h3 kx H locs hP hD hS ls hl
      refine lv_iload_n hx hb dX1_rankAll_3 rfl (lv_at hl 2 rfl) ?_
      rcases j with _ | i
      · skip
        refine lv_if_lt (tgt := 43) hx hb dX1_rankAll_4 (by decide) (fun _ => ?_) (fun q => absurd (by decide) q)
        rw [cnt_n] at hP hD
        exact kx (rk) (vb) (h3) H locs hP hD hS ls (lv_sub hl [0, 1, 2] rfl)
      · skip
        rw [dI_s] at hl ⊢
        refine x_ifltN (tgt := 43) hx hb (by omega) dX1_rankAll_4 (by decide) ?_
        refine lv_iconst (v := (nI 0)) hx hb dX1_rankAll_7 (by decide) ?_
        refine lv_istore_n (lv' := [(3, .int (nI 0)), (0, .ref lb), (1, .ref g), (2, .int (nI i))]) hx hb dX1_rankAll_8 rfl hl (by decide) rfl (fun ls hl => ?_)
        have inner : ∀ (QQ : State → Prop) (n1 : Nat) (k : Nat) (rk vb : Nat → Int32), n < k + n1 → k ≤ n → RI dg n (i + 1) k rk vb → (∀ (rk vb : Nat → Int32) (_ : RI dg n (i + 1) n rk vb), ∀ (H : Heap) (locs : List Loc), va_P dG vwCl (LW cI cJ lb aR aV aH aD aP rk vb (nI (cnt dg n (i + 1) n)) hs D Pp ++ (GW cJ g gA (nI n) (nI ec) ns ++ X)) H → va_D A (LW cI cJ lb aR aV aH aD aP rk vb (nI (cnt dg n (i + 1) n)) hs D Pp ++ (GW cJ g gA (nI n) (nI ec) ns ++ X)) → va_S A s.heap H locs → ∀ ls : Array Slot, lv_has ls 4 [(0, .ref lb), (1, .ref g), (2, .int (nI i)), (3, .int (nI n))] → W p l e ({ frames := 3, cells := 0, slots := 0, locals := 62 } : Room) s m ([.ref lb, .ref g] : List Value).toArray below meth c H locs 0 0 QQ (F0 m 37 ls [])) → ∀ (H : Heap) (locs : List Loc), va_P dG vwCl (LW cI cJ lb aR aV aH aD aP rk vb (nI (cnt dg n (i + 1) k)) hs D Pp ++ (GW cJ g gA (nI n) (nI ec) ns ++ X)) H → va_D A (LW cI cJ lb aR aV aH aD aP rk vb (nI (cnt dg n (i + 1) k)) hs D Pp ++ (GW cJ g gA (nI n) (nI ec) ns ++ X)) → va_S A s.heap H locs → ∀ ls : Array Slot, lv_has ls 4 [(0, .ref lb), (1, .ref g), (2, .int (nI i)), (3, .int (nI k))] → W p l e ({ frames := 3, cells := 0, slots := 0, locals := 62 } : Room) s m ([.ref lb, .ref g] : List Value).toArray below meth c H locs 0 0 QQ (F0 m 9 ls []) := by
          intro QQ n1
          induction n1 with
          | zero => intro k rk vb h1 h2 h3; exact absurd h1 (by omega)
          | succ n1 ih =>
            intro k rk vb h1 h2 h3 kx H locs hP hD hS ls hl
            refine lv_iload_n hx hb dX1_rankAll_9 rfl (lv_at hl 3 rfl) ?_
            refine lv_aload_n hx hb dX1_rankAll_10 rfl (lv_at hl 1 rfl) ?_
            have hPc := hP.sub (ws' := (GW cJ g gA (nI n) (nI ec) ns)) [6, 7] rfl
            refine x_ri (W.runV (As := []) (rest := [.int (nI k)]) ⟨hx, hb, hml, hown, hts⟩ (c_size l dG cI cJ g gA n ec ns) (cwV 0 hts gX1_rankAll_X0_size rfl rfl rfl (by decide +kernel) ⟨Nat.le_of_ble_eq_true rfl, Nat.le_of_ble_eq_true rfl⟩) (RPc.pre hPc hK (va_recv hK.1 hPc (ci := 0) (q0 := 0) rfl rfl)) rfl rfl hl.1 rfl (lv_room (Nat.le_of_ble_eq_true rfl)) dX1_rankAll_11 ⟨Nat.zero_le _, Nat.zero_le _⟩) ?_
            refine x_icmp_geN (i := k) (j := n) (tgt := 37) hx hb (by omega) (by omega) dX1_rankAll_14 (by decide) (fun c14 => ?_) (fun c14 => ?_)
            · skip
              have ek : k = n := by omega
              subst ek
              exact kx (rk) (vb) (h3) H locs hP hD hS ls (lv_sub hl [0, 1, 2, 3] rfl)
            · skip
              have hk : k < n := c14
              refine lv_aload_n hx hb dX1_rankAll_17 rfl (lv_at hl 1 rfl) ?_
              refine lv_iload_n hx hb dX1_rankAll_18 rfl (lv_at hl 3 rfl) ?_
              have hPc := hP.sub (ws' := (GW cJ g gA (nI n) (nI ec) ns)) [6, 7] rfl
              refine x_ri (W.runV (As := [.int (nI k)]) (rest := []) ⟨hx, hb, hml, hown, hts⟩ (c_degree l dG cI cJ g gA n ec ns k (by omega)) (cwV 1 hts gX1_rankAll_X0_degree rfl rfl rfl (by decide +kernel) ⟨Nat.le_of_ble_eq_true rfl, Nat.le_of_ble_eq_true rfl⟩) (RPc.pre hPc hK (va_recv hK.1 hPc (ci := 0) (q0 := 0) rfl rfl)) rfl rfl hl.1 rfl (lv_room (Nat.le_of_ble_eq_true rfl)) dX1_rankAll_19 ⟨Nat.zero_le _, Nat.zero_le _⟩) ?_
              rw [show fb_ct (gb (ns k)) 64 = dg k by rw [hdg]]
              refine lv_iload_n hx hb dX1_rankAll_22 rfl (lv_at hl 2 rfl) ?_
              refine x_icmp_neN (i := (dg k)) (j := i) (tgt := 31) hx hb (by have := hd k hk; omega) (by omega) dX1_rankAll_23 (by decide) (fun c23 => ?_) (fun c23 => ?_)
              · skip
                refine x_iincN (lv' := [(3, .int (nI (k + 1))), (0, .ref lb), (1, .ref g), (2, .int (nI i))]) hx hb dX1_rankAll_31 hl (k := 3) rfl (by decide) rfl (fun ls hl => ?_)
                refine lv_goto (tgt := 9) hx hb dX1_rankAll_34 (by decide) ?_
                rw [← cnt_skip c23] at hP hD
                exact ih (k + 1) rk vb (by omega) (by omega) (RI.skip h3 c23) kx H locs hP hD hS ls (lv_sub hl [1, 2, 3, 0] rfl)
              · skip
                refine lv_aload_n hx hb dX1_rankAll_26 rfl (lv_at hl 0 rfl) ?_
                refine lv_iload_n hx hb dX1_rankAll_27 rfl (lv_at hl 3 rfl) ?_
                have hPc : va_P dG vwCl (LW cI cJ lb aR aV aH aD aP rk vb (nI (cnt dg n (i + 1) k)) hs D Pp ++ (GW cJ g gA (nI n) (nI ec) ns ++ X)) H := hP
                have hDc : va_D A (LW cI cJ lb aR aV aH aD aP rk vb (nI (cnt dg n (i + 1) k)) hs D Pp ++ (GW cJ g gA (nI n) (nI ec) ns ++ X)) := hD
                refine va_callv (va_runV (As := [.int (nI k)]) (rest := []) ⟨hx, hb, hml, hown, hts⟩ (c_rankNext l dG cI cJ A lb aR aV aH aD aP rk vb hs D Pp k (cnt dg n (i + 1) k) (by omega) (Nat.lt_of_lt_of_le (cnt_lt c23 hk) hn) _) (cwV 1 hts gX1_rankAll_X1_rankNext rfl rfl rfl (by decide +kernel) ⟨Nat.le_of_ble_eq_true rfl, Nat.le_of_ble_eq_true rfl⟩) (WPc.pre hPc hDc hK (va_recv hK.1 hPc (ci := 1) (q0 := 0) rfl rfl)) rfl rfl hl.1 rfl (lv_room (Nat.le_of_ble_eq_true rfl)) dX1_rankAll_28 ⟨Nat.zero_le _, Nat.zero_le _⟩) hS (fun q _ h => h) (fun q h => h) (fun u9 t H locs ht hvm hw hB hz1 hk1 hS => ?_)
                obtain ⟨hP, hD⟩ := hB
                rw [ht] at hP
                have hP : va_P dG vwCl (LW cI cJ lb aR aV aH aD aP (upd rk k (nI (cnt dg n (i + 1) k))) (upd vb (cnt dg n (i + 1) k) (nI k)) (nI (cnt dg n (i + 1) k + 1)) hs D Pp ++ (GW cJ g gA (nI n) (nI ec) ns ++ X)) H := hP
                have hD : va_D A (LW cI cJ lb aR aV aH aD aP (upd rk k (nI (cnt dg n (i + 1) k))) (upd vb (cnt dg n (i + 1) k) (nI k)) (nI (cnt dg n (i + 1) k + 1)) hs D Pp ++ (GW cJ g gA (nI n) (nI ec) ns ++ X)) := hD
                refine x_iincN (lv' := [(3, .int (nI (k + 1))), (0, .ref lb), (1, .ref g), (2, .int (nI i))]) hx hb dX1_rankAll_31 hl (k := 3) rfl (by decide) rfl (fun ls hl => ?_)
                refine lv_goto (tgt := 9) hx hb dX1_rankAll_34 (by decide) ?_
                rw [← cnt_put c23 hk] at hP hD
                exact ih (k + 1) (upd rk k (nI (cnt dg n (i + 1) k))) (upd vb (cnt dg n (i + 1) k) (nI k)) (by omega) (by omega) (RI.put h3 hk c23) kx H locs hP hD hS ls (lv_sub hl [1, 2, 3, 0] rfl)
        refine inner _ 49 0 rk vb (by omega) (by omega) (h3) (fun rk vb h4 H locs hP hD hS ls hl => ?_) H locs hP hD hS ls (lv_sub hl [1, 2, 3, 0] rfl)
        refine lv_iinc (v := (dI i)) (lv' := [(2, .int (dI i)), (0, .ref lb), (1, .ref g), (3, .int (nI n))]) hx hb dX1_rankAll_37 hl (k := 2) rfl (dI_i i) (by decide) rfl (fun ls hl => ?_)
        refine lv_goto (tgt := 3) hx hb dX1_rankAll_40 (by decide) ?_
        rw [cnt_down] at hP hD
        exact ih i rk vb (by omega) (by omega) (h4.down) kx H locs hP hD hS ls (lv_sub hl [1, 2, 0] rfl)
  refine outer _ 49 48 rk vb (by omega) (by omega) (h0) (fun rk vb h4 H locs hP hD hS ls hl => ?_) s.heap [] hP hD hS ls (lv_sub hl [1, 2, 0] rfl)
  exact W.vret hx hb hr (fun t ht hW => ⟨⟨(rk, vb), rfl, h4, by rw [ht]; exact hP, hD⟩, hS.F ht⟩) hS.2.2 dX1_rankAll_43
