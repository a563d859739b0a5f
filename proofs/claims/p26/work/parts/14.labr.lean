/-! Labels: what only reads -/
set_option maxHeartbeats 4000000 in
set_option maxRecDepth 100000 in
/-- Labels.rankOf -/
theorem c_rankOf (l : Launch) (dG : va_G) (cI cJ : ClassId) (lb aR aV aH aD aP : Nat) (rk vb : Nat → Int32) (rc : Int32) (hs : Nat → Int64) (D Pp : Nat → Int32) (v : Nat) (hv : v < 48) : Met l yX1_rankOf wsX1_rankOf ({ frames := 1, cells := 0, slots := 0, locals := 20 } : Room) (RPc dG cI cJ [.ref lb, .int (nI v)] (LW cI cJ lb aR aV aH aD aP rk vb rc hs D Pp)) (vp_Si (fun r9 => r9 = (rk v))) 0 0 (fun _ => False) := by
  refine Met.ofW (cc := cX1_rankOf) (maxL := 2) (ret := (some .int)) (by decide) rfl ?_
  intro p e s m args below meth c s₁ B9 hml hv
  obtain ⟨rfl, hP, hK⟩ := hv
  have hx := B9.exec
  have hb := B9.bytes
  have hr := B9.returns
  have hts := atoms_spec (ws := wsX1_rankOf) B9.pre
  have hown : s.vm.findClass RX1 = some m.cls := findClass_of_methodNamed B9.named
  have hlocks := B9.notSynchronized
  have hl := lv_entry ([.ref lb, .int (nI v)]) (n := 2) (Nat.le_of_ble_eq_true rfl)
  rw [lg_entry_eq]
  generalize (lg_sl ([.ref lb, .int (nI v)]) ++ List.replicate (2 - (lg_sl ([.ref lb, .int (nI v)])).length) Slot.unset).toArray = ls at hl ⊢
  have hl : lv_has ls 2 [(0, .ref lb), (1, .int (nI v))] := hl
  have hiX1 : ∀ w ∈ wsX10, w ∈ wsX1_rankOf := by decide +kernel
  have hf9 := hts (.fieldLink RX1 9 "LandmarkLea$Labels" "ranks" "[I") (by decide +kernel)
  refine lv_iload_n hx hb dX1_rankOf_0 rfl (lv_at hl 1 rfl) ?_
  have hPc : va_P dG vwCl [] s.heap := fun k q h => by simp at h
  refine x_ri (va_runSN (As := [.int (nI v)]) (rest := []) ⟨hx, hb, hml, hown, hts⟩ (c_isRow l dG cI cJ v (by omega)) ⟨va_cnB 1 hts gX1_rankOf_X3_isRow_n46 rfl rfl rfl hK.2.2.2.1 (hts (.initialized RX3) (by decide +kernel)) (by decide +kernel) ⟨Nat.le_of_ble_eq_true rfl, Nat.le_of_ble_eq_true rfl⟩, hts (.static yX3_isRow) (by decide +kernel), trivial⟩ (RPc.preS hPc hK) rfl rfl hl.1 rfl (lv_room (Nat.le_of_ble_eq_true rfl)) dX1_rankOf_1 ⟨Nat.zero_le _, Nat.zero_le _⟩).run ?_
  refine x_ifeqB (tgt := 16) hx hb dX1_rankOf_4 (by decide) (fun c4 => ?_) (fun c4 => ?_)
  · skip
    exact absurd hv (of_decide_eq_false c4)
  · skip
    refine lv_aload_n hx hb dX1_rankOf_7 rfl (lv_at hl 0 rfl) ?_
    refine va_get (D := dG) (ci := 1) (v := .ref aR) (C := RX1) (T := TX1) (N := 6) hx hb hts hiX1 hown hK.1 hP 0 rfl rfl 0 (by decide) hf9 (fun _ h9 => h9) rfl dX1_rankOf_8 ?_
    refine lv_iload_n hx hb dX1_rankOf_11 rfl (lv_at hl 1 rfl) ?_
    refine x_iald (f := rk) hx hb hK hP 1 rfl (by omega) (by decide) dX1_rankOf_12 ?_
    refine lv_goto (tgt := 17) hx hb dX1_rankOf_13 (by decide) ?_
    exact W.iret (v := (rk v)) hx hb hr (fun t ht hW => ⟨_, rfl, rfl, ht⟩) (fun _ h => nomatch h) dX1_rankOf_17

set_option maxHeartbeats 4000000 in
set_option maxRecDepth 100000 in
/-- Labels.vertexOf -/
theorem c_vertexOf (l : Launch) (dG : va_G) (cI cJ : ClassId) (lb aR aV aH aD aP : Nat) (rk vb : Nat → Int32) (rc : Int32) (hs : Nat → Int64) (D Pp : Nat → Int32) (v : Nat) (hv : v < 48) : Met l yX1_vertexOf wsX1_vertexOf ({ frames := 1, cells := 0, slots := 0, locals := 20 } : Room) (RPc dG cI cJ [.ref lb, .int (nI v)] (LW cI cJ lb aR aV aH aD aP rk vb rc hs D Pp)) (vp_Si (fun r9 => r9 = (vb v))) 0 0 (fun _ => False) := by
  refine Met.ofW (cc := cX1_vertexOf) (maxL := 2) (ret := (some .int)) (by decide) rfl ?_
  intro p e s m args below meth c s₁ B9 hml hv
  obtain ⟨rfl, hP, hK⟩ := hv
  have hx := B9.exec
  have hb := B9.bytes
  have hr := B9.returns
  have hts := atoms_spec (ws := wsX1_vertexOf) B9.pre
  have hown : s.vm.findClass RX1 = some m.cls := findClass_of_methodNamed B9.named
  have hlocks := B9.notSynchronized
  have hl := lv_entry ([.ref lb, .int (nI v)]) (n := 2) (Nat.le_of_ble_eq_true rfl)
  rw [lg_entry_eq]
  generalize (lg_sl ([.ref lb, .int (nI v)]) ++ List.replicate (2 - (lg_sl ([.ref lb, .int (nI v)])).length) Slot.unset).toArray = ls at hl ⊢
  have hl : lv_has ls 2 [(0, .ref lb), (1, .int (nI v))] := hl
  have hiX1 : ∀ w ∈ wsX10, w ∈ wsX1_vertexOf := by decide +kernel
  have hf15 := hts (.fieldLink RX1 15 "LandmarkLea$Labels" "verticesByRank" "[I") (by decide +kernel)
  refine lv_iload_n hx hb dX1_vertexOf_0 rfl (lv_at hl 1 rfl) ?_
  have hPc : va_P dG vwCl [] s.heap := fun k q h => by simp at h
  refine x_ri (va_runSN (As := [.int (nI v)]) (rest := []) ⟨hx, hb, hml, hown, hts⟩ (c_isRow l dG cI cJ v (by omega)) ⟨va_cnB 1 hts gX1_vertexOf_X3_isRow_n46 rfl rfl rfl hK.2.2.2.1 (hts (.initialized RX3) (by decide +kernel)) (by decide +kernel) ⟨Nat.le_of_ble_eq_true rfl, Nat.le_of_ble_eq_true rfl⟩, hts (.static yX3_isRow) (by decide +kernel), trivial⟩ (RPc.preS hPc hK) rfl rfl hl.1 rfl (lv_room (Nat.le_of_ble_eq_true rfl)) dX1_vertexOf_1 ⟨Nat.zero_le _, Nat.zero_le _⟩).run ?_
  refine x_ifeqB (tgt := 16) hx hb dX1_vertexOf_4 (by decide) (fun c4 => ?_) (fun c4 => ?_)
  · skip
    exact absurd hv (of_decide_eq_false c4)
  · skip
    refine lv_aload_n hx hb dX1_vertexOf_7 rfl (lv_at hl 0 rfl) ?_
    refine va_get (D := dG) (ci := 1) (v := .ref aV) (C := RX1) (T := TX1) (N := 6) hx hb hts hiX1 hown hK.1 hP 0 rfl rfl 1 (by decide) hf15 (fun _ h9 => h9) rfl dX1_vertexOf_8 ?_
    refine lv_iload_n hx hb dX1_vertexOf_11 rfl (lv_at hl 1 rfl) ?_
    refine x_iald (f := vb) hx hb hK hP 2 rfl (by omega) (by decide) dX1_vertexOf_12 ?_
    refine lv_goto (tgt := 17) hx hb dX1_vertexOf_13 (by decide) ?_
    exact W.iret (v := (vb v)) hx hb hr (fun t ht hW => ⟨_, rfl, rfl, ht⟩) (fun _ h => nomatch h) dX1_vertexOf_17

set_option maxHeartbeats 4000000 in
set_option maxRecDepth 100000 in
/-- Labels.vertexOf(NONE) -/
theorem c_vertexOfM (l : Launch) (dG : va_G) (cI cJ : ClassId) (lb aR aV aH aD aP : Nat) (rk vb : Nat → Int32) (rc : Int32) (hs : Nat → Int64) (D Pp : Nat → Int32) : Met l yX1_vertexOf wsX1_vertexOf ({ frames := 1, cells := 0, slots := 0, locals := 20 } : Room) (RPc dG cI cJ [.ref lb, .int (-1)] (LW cI cJ lb aR aV aH aD aP rk vb rc hs D Pp)) (vp_Si (fun r9 => r9 = (-1))) 0 0 (fun _ => False) := by
  refine Met.ofW (cc := cX1_vertexOf) (maxL := 2) (ret := (some .int)) (by decide) rfl ?_
  intro p e s m args below meth c s₁ B9 hml hv
  obtain ⟨rfl, hP, hK⟩ := hv
  have hx := B9.exec
  have hb := B9.bytes
  have hr := B9.returns
  have hts := atoms_spec (ws := wsX1_vertexOf) B9.pre
  have hown : s.vm.findClass RX1 = some m.cls := findClass_of_methodNamed B9.named
  have hlocks := B9.notSynchronized
  have hl := lv_entry ([.ref lb, .int (-1)]) (n := 2) (Nat.le_of_ble_eq_true rfl)
  rw [lg_entry_eq]
  generalize (lg_sl ([.ref lb, .int (-1)]) ++ List.replicate (2 - (lg_sl ([.ref lb, .int (-1)])).length) Slot.unset).toArray = ls at hl ⊢
  have hl : lv_has ls 2 [(0, .ref lb), (1, .int (-1))] := hl
  have hiX1 : ∀ w ∈ wsX10, w ∈ wsX1_vertexOf := by decide +kernel
  have hf15 := hts (.fieldLink RX1 15 "LandmarkLea$Labels" "verticesByRank" "[I") (by decide +kernel)
  refine lv_iload_n hx hb dX1_vertexOf_0 rfl (lv_at hl 1 rfl) ?_
  have hPc : va_P dG vwCl [] s.heap := fun k q h => by simp at h
  refine x_ri (va_runSN (As := [.int (-1)]) (rest := []) ⟨hx, hb, hml, hown, hts⟩ (c_isRowM l dG cI cJ) ⟨va_cnB 1 hts gX1_vertexOf_X3_isRow_n46 rfl rfl rfl hK.2.2.2.1 (hts (.initialized RX3) (by decide +kernel)) (by decide +kernel) ⟨Nat.le_of_ble_eq_true rfl, Nat.le_of_ble_eq_true rfl⟩, hts (.static yX3_isRow) (by decide +kernel), trivial⟩ (RPc.preS hPc hK) rfl rfl hl.1 rfl (lv_room (Nat.le_of_ble_eq_true rfl)) dX1_vertexOf_1 ⟨Nat.zero_le _, Nat.zero_le _⟩).run ?_
  refine x_ifeqB (tgt := 16) hx hb dX1_vertexOf_4 (by decide) (fun h9 => ?_) (fun h9 => absurd h9 (by decide))
  refine lv_iconst (v := (-1)) hx hb dX1_vertexOf_16 (by decide) ?_
  exact W.iret (v := (-1)) hx hb hr (fun t ht hW => ⟨_, rfl, rfl, ht⟩) (fun _ h => nomatch h) dX1_vertexOf_17

set_option maxHeartbeats 4000000 in
set_option maxRecDepth 100000 in
/-- Labels.hasEntry -/
theorem c_hasEntry (l : Launch) (dG : va_G) (cI cJ : ClassId) (lb aR aV aH aD aP : Nat) (rk vb : Nat → Int32) (rc : Int32) (hs : Nat → Int64) (D Pp : Nat → Int32) (L P : Nat → Nat → Option Nat) (hR : RepL L P hs D Pp) (r v : Nat) (hr0 : r < 48) (hv : v < 48) : Met l yX1_hasEntry wsX1_hasEntry ({ frames := 1, cells := 0, slots := 0, locals := 22 } : Room) (RPc dG cI cJ [.ref lb, .int (nI r), .int (nI v)] (LW cI cJ lb aR aV aH aD aP rk vb rc hs D Pp)) (vp_Si (fun r9 => r9 = (bI (L v r).isSome))) 0 0 (fun _ => False) := by
  refine Met.ofW (cc := cX1_hasEntry) (maxL := 3) (ret := (some .boolean)) (by decide) rfl ?_
  intro p e s m args below meth c s₁ B9 hml hv
  obtain ⟨rfl, hP, hK⟩ := hv
  have hx := B9.exec
  have hb := B9.bytes
  have hr := B9.returns
  have hts := atoms_spec (ws := wsX1_hasEntry) B9.pre
  have hown : s.vm.findClass RX1 = some m.cls := findClass_of_methodNamed B9.named
  have hlocks := B9.notSynchronized
  have hl := lv_entry ([.ref lb, .int (nI r), .int (nI v)]) (n := 3) (Nat.le_of_ble_eq_true rfl)
  rw [lg_entry_eq]
  generalize (lg_sl ([.ref lb, .int (nI r), .int (nI v)]) ++ List.replicate (3 - (lg_sl ([.ref lb, .int (nI r), .int (nI v)])).length) Slot.unset).toArray = ls at hl ⊢
  have hl : lv_has ls 3 [(0, .ref lb), (1, .int (nI r)), (2, .int (nI v))] := hl
  have hiX1 : ∀ w ∈ wsX10, w ∈ wsX1_hasEntry := by decide +kernel
  have hf22 := hts (.fieldLink RX1 22 "LandmarkLea$Labels" "hubSets" "[J") (by decide +kernel)
  refine lv_iload_n hx hb dX1_hasEntry_0 rfl (lv_at hl 2 rfl) ?_
  have hPc : va_P dG vwCl [] s.heap := fun k q h => by simp at h
  refine x_ri (va_runSN (As := [.int (nI v)]) (rest := []) ⟨hx, hb, hml, hown, hts⟩ (c_isRow l dG cI cJ v (by omega)) ⟨va_cnB 1 hts gX1_hasEntry_X3_isRow_n46 rfl rfl rfl hK.2.2.2.1 (hts (.initialized RX3) (by decide +kernel)) (by decide +kernel) ⟨Nat.le_of_ble_eq_true rfl, Nat.le_of_ble_eq_true rfl⟩, hts (.static yX3_isRow) (by decide +kernel), trivial⟩ (RPc.preS hPc hK) rfl rfl hl.1 rfl (lv_room (Nat.le_of_ble_eq_true rfl)) dX1_hasEntry_1 ⟨Nat.zero_le _, Nat.zero_le _⟩).run ?_
  refine x_ifeqB (tgt := 31) hx hb dX1_hasEntry_4 (by decide) (fun c4 => ?_) (fun c4 => ?_)
  · skip
    exact absurd hv (of_decide_eq_false c4)
  · skip
    refine lv_iload_n hx hb dX1_hasEntry_7 rfl (lv_at hl 1 rfl) ?_
    have hPc : va_P dG vwCl [] s.heap := fun k q h => by simp at h
    refine x_ri (va_runSN (As := [.int (nI r)]) (rest := []) ⟨hx, hb, hml, hown, hts⟩ (c_isRow l dG cI cJ r (by omega)) ⟨va_cnB 1 hts gX1_hasEntry_X3_isRow_n46 rfl rfl rfl hK.2.2.2.1 (hts (.initialized RX3) (by decide +kernel)) (by decide +kernel) ⟨Nat.le_of_ble_eq_true rfl, Nat.le_of_ble_eq_true rfl⟩, hts (.static yX3_isRow) (by decide +kernel), trivial⟩ (RPc.preS hPc hK) rfl rfl hl.1 rfl (lv_room (Nat.le_of_ble_eq_true rfl)) dX1_hasEntry_8 ⟨Nat.zero_le _, Nat.zero_le _⟩).run ?_
    refine x_ifeqB (tgt := 31) hx hb dX1_hasEntry_11 (by decide) (fun c11 => ?_) (fun c11 => ?_)
    · skip
      exact absurd hr0 (of_decide_eq_false c11)
    · skip
      refine lv_aload_n hx hb dX1_hasEntry_14 rfl (lv_at hl 0 rfl) ?_
      refine va_get (D := dG) (ci := 1) (v := .ref aH) (C := RX1) (T := TX1) (N := 6) hx hb hts hiX1 hown hK.1 hP 0 rfl rfl 3 (by decide) hf22 (fun _ h9 => h9) rfl dX1_hasEntry_15 ?_
      refine lv_iload_n hx hb dX1_hasEntry_18 rfl (lv_at hl 2 rfl) ?_
      refine x_lald (f := hs) hx hb hK hP 3 rfl (by omega) (by decide) dX1_hasEntry_19 ?_
      refine lv_iload_n hx hb dX1_hasEntry_20 rfl (lv_at hl 1 rfl) ?_
      have hPc : va_P dG vwCl [] s.heap := fun k q h => by simp at h
      refine x_ri (va_runSN (As := [.long (hs v), .int (nI r)]) (rest := []) ⟨hx, hb, hml, hown, hts⟩ (c_hasBit l dG cI cJ (hs v) r (by omega)) ⟨va_cnB 2 hts gX1_hasEntry_X3_hasBit_n50 rfl rfl rfl hK.2.2.2.2.1 (hts (.initialized RX3) (by decide +kernel)) (by decide +kernel) ⟨Nat.le_of_ble_eq_true rfl, Nat.le_of_ble_eq_true rfl⟩, hts (.static yX3_hasBit) (by decide +kernel), trivial⟩ (RPc.preS hPc hK) rfl rfl hl.1 rfl (lv_room (Nat.le_of_ble_eq_true rfl)) dX1_hasEntry_21 ⟨Nat.zero_le _, Nat.zero_le _⟩).run ?_
      rw [hR.1 v r hv hr0]
      refine x_ifeqB (tgt := 31) hx hb dX1_hasEntry_24 (by decide) (fun c24 => ?_) (fun c24 => ?_)
      · skip
        refine lv_iconst (v := (nI 0)) hx hb dX1_hasEntry_31 (by decide) ?_
        exact W.zret (v := (nI 0)) (ty := .boolean) hx hb hr (by decide) (fun t ht hW => ⟨_, rfl, (show (nI 0) = (bI (L v r).isSome) from by rw [c24]; rfl), ht⟩) (fun _ h => nomatch h) dX1_hasEntry_32
      · skip
        refine lv_iconst (v := (nI 1)) hx hb dX1_hasEntry_27 (by decide) ?_
        refine lv_goto (tgt := 32) hx hb dX1_hasEntry_28 (by decide) ?_
        exact W.zret (v := (nI 1)) (ty := .boolean) hx hb hr (by decide) (fun t ht hW => ⟨_, rfl, (show (nI 1) = (bI (L v r).isSome) from by rw [c24]; rfl), ht⟩) (fun _ h => nomatch h) dX1_hasEntry_32

set_option maxHeartbeats 4000000 in
set_option maxRecDepth 100000 in
/-- Labels.commonHubs -/
theorem c_commonHubs (l : Launch) (dG : va_G) (cI cJ : ClassId) (lb aR aV aH aD aP : Nat) (rk vb : Nat → Int32) (rc : Int32) (hs : Nat → Int64) (D Pp : Nat → Int32) (u v : Nat) (hu : u < 48) (hv : v < 48) : Met l yX1_commonHubs wsX1_commonHubs ({ frames := 1, cells := 0, slots := 0, locals := 20 } : Room) (RPc dG cI cJ [.ref lb, .int (nI u), .int (nI v)] (LW cI cJ lb aR aV aH aD aP rk vb rc hs D Pp)) (vp_Sl (fun r9 => r9 = (hs u &&& hs v))) 0 0 (fun _ => False) := by
  refine Met.ofW (cc := cX1_commonHubs) (maxL := 3) (ret := (some .long)) (by decide) rfl ?_
  intro p e s m args below meth c s₁ B9 hml hv
  obtain ⟨rfl, hP, hK⟩ := hv
  have hx := B9.exec
  have hb := B9.bytes
  have hr := B9.returns
  have hts := atoms_spec (ws := wsX1_commonHubs) B9.pre
  have hown : s.vm.findClass RX1 = some m.cls := findClass_of_methodNamed B9.named
  have hlocks := B9.notSynchronized
  have hl := lv_entry ([.ref lb, .int (nI u), .int (nI v)]) (n := 3) (Nat.le_of_ble_eq_true rfl)
  rw [lg_entry_eq]
  generalize (lg_sl ([.ref lb, .int (nI u), .int (nI v)]) ++ List.replicate (3 - (lg_sl ([.ref lb, .int (nI u), .int (nI v)])).length) Slot.unset).toArray = ls at hl ⊢
  have hl : lv_has ls 3 [(0, .ref lb), (1, .int (nI u)), (2, .int (nI v))] := hl
  have hiX1 : ∀ w ∈ wsX10, w ∈ wsX1_commonHubs := by decide +kernel
  have hf22 := hts (.fieldLink RX1 22 "LandmarkLea$Labels" "hubSets" "[J") (by decide +kernel)
  refine lv_iload_n hx hb dX1_commonHubs_0 rfl (lv_at hl 1 rfl) ?_
  have hPc : va_P dG vwCl [] s.heap := fun k q h => by simp at h
  refine x_ri (va_runSN (As := [.int (nI u)]) (rest := []) ⟨hx, hb, hml, hown, hts⟩ (c_isRow l dG cI cJ u (by omega)) ⟨va_cnB 1 hts gX1_commonHubs_X3_isRow_n46 rfl rfl rfl hK.2.2.2.1 (hts (.initialized RX3) (by decide +kernel)) (by decide +kernel) ⟨Nat.le_of_ble_eq_true rfl, Nat.le_of_ble_eq_true rfl⟩, hts (.static yX3_isRow) (by decide +kernel), trivial⟩ (RPc.preS hPc hK) rfl rfl hl.1 rfl (lv_room (Nat.le_of_ble_eq_true rfl)) dX1_commonHubs_1 ⟨Nat.zero_le _, Nat.zero_le _⟩).run ?_
  refine x_ifeqB (tgt := 30) hx hb dX1_commonHubs_4 (by decide) (fun c4 => ?_) (fun c4 => ?_)
  · skip
    exact absurd hu (of_decide_eq_false c4)
  · skip
    refine lv_iload_n hx hb dX1_commonHubs_7 rfl (lv_at hl 2 rfl) ?_
    have hPc : va_P dG vwCl [] s.heap := fun k q h => by simp at h
    refine x_ri (va_runSN (As := [.int (nI v)]) (rest := []) ⟨hx, hb, hml, hown, hts⟩ (c_isRow l dG cI cJ v (by omega)) ⟨va_cnB 1 hts gX1_commonHubs_X3_isRow_n46 rfl rfl rfl hK.2.2.2.1 (hts (.initialized RX3) (by decide +kernel)) (by decide +kernel) ⟨Nat.le_of_ble_eq_true rfl, Nat.le_of_ble_eq_true rfl⟩, hts (.static yX3_isRow) (by decide +kernel), trivial⟩ (RPc.preS hPc hK) rfl rfl hl.1 rfl (lv_room (Nat.le_of_ble_eq_true rfl)) dX1_commonHubs_8 ⟨Nat.zero_le _, Nat.zero_le _⟩).run ?_
    refine x_ifeqB (tgt := 30) hx hb dX1_commonHubs_11 (by decide) (fun c11 => ?_) (fun c11 => ?_)
    · skip
      exact absurd hv (of_decide_eq_false c11)
    · skip
      refine lv_aload_n hx hb dX1_commonHubs_14 rfl (lv_at hl 0 rfl) ?_
      refine va_get (D := dG) (ci := 1) (v := .ref aH) (C := RX1) (T := TX1) (N := 6) hx hb hts hiX1 hown hK.1 hP 0 rfl rfl 3 (by decide) hf22 (fun _ h9 => h9) rfl dX1_commonHubs_15 ?_
      refine lv_iload_n hx hb dX1_commonHubs_18 rfl (lv_at hl 1 rfl) ?_
      refine x_lald (f := hs) hx hb hK hP 3 rfl (by omega) (by decide) dX1_commonHubs_19 ?_
      refine lv_aload_n hx hb dX1_commonHubs_20 rfl (lv_at hl 0 rfl) ?_
      refine va_get (D := dG) (ci := 1) (v := .ref aH) (C := RX1) (T := TX1) (N := 6) hx hb hts hiX1 hown hK.1 hP 0 rfl rfl 3 (by decide) hf22 (fun _ h9 => h9) rfl dX1_commonHubs_21 ?_
      refine lv_iload_n hx hb dX1_commonHubs_24 rfl (lv_at hl 2 rfl) ?_
      refine x_lald (f := hs) hx hb hK hP 3 rfl (by omega) (by decide) dX1_commonHubs_25 ?_
      refine lv_land hx hb dX1_commonHubs_26 ?_
      refine lv_goto (tgt := 31) hx hb dX1_commonHubs_27 (by decide) ?_
      exact W.lret (v := ((hs u) &&& (hs v))) hx hb hr (fun t ht hW => ⟨_, rfl, rfl, ht⟩) (fun _ h => nomatch h) dX1_commonHubs_31

set_option maxHeartbeats 4000000 in
set_option maxRecDepth 100000 in
/-- Labels.sumThrough -/
theorem c_sumThrough (l : Launch) (dG : va_G) (cI cJ : ClassId) (lb aR aV aH aD aP : Nat) (rk vb : Nat → Int32) (rc : Int32) (hs : Nat → Int64) (D Pp : Nat → Int32) (L P : Nat → Nat → Option Nat) (hR : RepL L P hs D Pp) (r u v : Nat) (hr0 : r < 48) (hu : u < 48) (hv : v < 48) (qu : (L u r).isSome = true) (qv : (L v r).isSome = true) : Met l yX1_sumThrough wsX1_sumThrough ({ frames := 1, cells := 0, slots := 0, locals := 20 } : Room) (RPc dG cI cJ [.ref lb, .int (nI r), .int (nI u), .int (nI v)] (LW cI cJ lb aR aV aH aD aP rk vb rc hs D Pp)) (vp_Si (fun r9 => r9 = (nI (lsm L u v r)))) 0 0 (fun _ => False) := by
  refine Met.ofW (cc := cX1_sumThrough) (maxL := 4) (ret := (some .int)) (by decide) rfl ?_
  intro p e s m args below meth c s₁ B9 hml hv
  obtain ⟨rfl, hP, hK⟩ := hv
  have hx := B9.exec
  have hb := B9.bytes
  have hr := B9.returns
  have hts := atoms_spec (ws := wsX1_sumThrough) B9.pre
  have hown : s.vm.findClass RX1 = some m.cls := findClass_of_methodNamed B9.named
  have hlocks := B9.notSynchronized
  have hl := lv_entry ([.ref lb, .int (nI r), .int (nI u), .int (nI v)]) (n := 4) (Nat.le_of_ble_eq_true rfl)
  rw [lg_entry_eq]
  generalize (lg_sl ([.ref lb, .int (nI r), .int (nI u), .int (nI v)]) ++ List.replicate (4 - (lg_sl ([.ref lb, .int (nI r), .int (nI u), .int (nI v)])).length) Slot.unset).toArray = ls at hl ⊢
  have hl : lv_has ls 4 [(0, .ref lb), (1, .int (nI r)), (2, .int (nI u)), (3, .int (nI v))] := hl
  have hiX1 : ∀ w ∈ wsX10, w ∈ wsX1_sumThrough := by decide +kernel
  have hf26 := hts (.fieldLink RX1 26 "LandmarkLea$Labels" "distances" "[I") (by decide +kernel)
  refine lv_iload_n hx hb dX1_sumThrough_0 rfl (lv_at hl 1 rfl) ?_
  have hPc : va_P dG vwCl [] s.heap := fun k q h => by simp at h
  refine x_ri (va_runSN (As := [.int (nI r)]) (rest := []) ⟨hx, hb, hml, hown, hts⟩ (c_isRow l dG cI cJ r (by omega)) ⟨va_cnB 1 hts gX1_sumThrough_X3_isRow_n46 rfl rfl rfl hK.2.2.2.1 (hts (.initialized RX3) (by decide +kernel)) (by decide +kernel) ⟨Nat.le_of_ble_eq_true rfl, Nat.le_of_ble_eq_true rfl⟩, hts (.static yX3_isRow) (by decide +kernel), trivial⟩ (RPc.preS hPc hK) rfl rfl hl.1 rfl (lv_room (Nat.le_of_ble_eq_true rfl)) dX1_sumThrough_1 ⟨Nat.zero_le _, Nat.zero_le _⟩).run ?_
  refine x_ifeqB (tgt := 21) hx hb dX1_sumThrough_4 (by decide) (fun c4 => ?_) (fun c4 => ?_)
  · skip
    exact absurd hr0 (of_decide_eq_false c4)
  · skip
    refine lv_iload_n hx hb dX1_sumThrough_7 rfl (lv_at hl 2 rfl) ?_
    have hPc : va_P dG vwCl [] s.heap := fun k q h => by simp at h
    refine x_ri (va_runSN (As := [.int (nI u)]) (rest := []) ⟨hx, hb, hml, hown, hts⟩ (c_isRow l dG cI cJ u (by omega)) ⟨va_cnB 1 hts gX1_sumThrough_X3_isRow_n46 rfl rfl rfl hK.2.2.2.1 (hts (.initialized RX3) (by decide +kernel)) (by decide +kernel) ⟨Nat.le_of_ble_eq_true rfl, Nat.le_of_ble_eq_true rfl⟩, hts (.static yX3_isRow) (by decide +kernel), trivial⟩ (RPc.preS hPc hK) rfl rfl hl.1 rfl (lv_room (Nat.le_of_ble_eq_true rfl)) dX1_sumThrough_8 ⟨Nat.zero_le _, Nat.zero_le _⟩).run ?_
    refine x_ifeqB (tgt := 21) hx hb dX1_sumThrough_11 (by decide) (fun c11 => ?_) (fun c11 => ?_)
    · skip
      exact absurd hu (of_decide_eq_false c11)
    · skip
      refine lv_iload_n hx hb dX1_sumThrough_14 rfl (lv_at hl 3 rfl) ?_
      have hPc : va_P dG vwCl [] s.heap := fun k q h => by simp at h
      refine x_ri (va_runSN (As := [.int (nI v)]) (rest := []) ⟨hx, hb, hml, hown, hts⟩ (c_isRow l dG cI cJ v (by omega)) ⟨va_cnB 1 hts gX1_sumThrough_X3_isRow_n46 rfl rfl rfl hK.2.2.2.1 (hts (.initialized RX3) (by decide +kernel)) (by decide +kernel) ⟨Nat.le_of_ble_eq_true rfl, Nat.le_of_ble_eq_true rfl⟩, hts (.static yX3_isRow) (by decide +kernel), trivial⟩ (RPc.preS hPc hK) rfl rfl hl.1 rfl (lv_room (Nat.le_of_ble_eq_true rfl)) dX1_sumThrough_15 ⟨Nat.zero_le _, Nat.zero_le _⟩).run ?_
      refine x_ifneB (tgt := 23) hx hb dX1_sumThrough_18 (by decide) (fun c18 => ?_) (fun c18 => ?_)
      · skip
        refine lv_aload_n hx hb dX1_sumThrough_23 rfl (lv_at hl 0 rfl) ?_
        refine va_get (D := dG) (ci := 1) (v := .ref aD) (C := RX1) (T := TX1) (N := 6) hx hb hts hiX1 hown hK.1 hP 0 rfl rfl 4 (by decide) hf26 (fun _ h9 => h9) rfl dX1_sumThrough_24 ?_
        refine lv_iload_n hx hb dX1_sumThrough_27 rfl (lv_at hl 2 rfl) ?_
        refine lv_bipush (v := (nI 48)) hx hb dX1_sumThrough_28 (by decide) ?_
        refine x_mulN (i := u) (j := 48) hx hb dX1_sumThrough_30 ?_
        refine lv_iload_n hx hb dX1_sumThrough_31 rfl (lv_at hl 1 rfl) ?_
        refine x_addN (i := (u * 48)) (j := r) hx hb dX1_sumThrough_32 ?_
        refine x_iald (f := D) hx hb hK hP 4 rfl (by omega) (by decide) dX1_sumThrough_33 ?_
        rw [show D ((u * 48) + r) = (nI ((L u r).getD 0)) from hR.sum hu hr0 qu]
        refine lv_aload_n hx hb dX1_sumThrough_34 rfl (lv_at hl 0 rfl) ?_
        refine va_get (D := dG) (ci := 1) (v := .ref aD) (C := RX1) (T := TX1) (N := 6) hx hb hts hiX1 hown hK.1 hP 0 rfl rfl 4 (by decide) hf26 (fun _ h9 => h9) rfl dX1_sumThrough_35 ?_
        refine lv_iload_n hx hb dX1_sumThrough_38 rfl (lv_at hl 3 rfl) ?_
        refine lv_bipush (v := (nI 48)) hx hb dX1_sumThrough_39 (by decide) ?_
        refine x_mulN (i := v) (j := 48) hx hb dX1_sumThrough_41 ?_
        refine lv_iload_n hx hb dX1_sumThrough_42 rfl (lv_at hl 1 rfl) ?_
        refine x_addN (i := (v * 48)) (j := r) hx hb dX1_sumThrough_43 ?_
        refine x_iald (f := D) hx hb hK hP 4 rfl (by omega) (by decide) dX1_sumThrough_44 ?_
        rw [show D ((v * 48) + r) = (nI ((L v r).getD 0)) from hR.sum hv hr0 qv]
        refine x_addN (i := ((L u r).getD 0)) (j := ((L v r).getD 0)) hx hb dX1_sumThrough_45 ?_
        exact W.iret (v := (nI (((L u r).getD 0) + ((L v r).getD 0)))) hx hb hr (fun t ht hW => ⟨_, rfl, rfl, ht⟩) (fun _ h => nomatch h) dX1_sumThrough_46
      · skip
        exact absurd hv (of_decide_eq_false c18)

set_option maxHeartbeats 4000000 in
set_option maxRecDepth 100000 in
/-- Labels.reaches -/
theorem c_reaches (l : Launch) (dG : va_G) (cI cJ : ClassId) (lb aR aV aH aD aP : Nat) (rk vb : Nat → Int32) (rc : Int32) (hs : Nat → Int64) (D Pp : Nat → Int32) (L P : Nat → Nat → Option Nat) (hR : RepL L P hs D Pp) (hB : LBd L (2 ^ 30)) (r v d h : Nat) (hr0 : r < 48) (hv : v < 48) (hd : d < 2 ^ 31) (hh : h < 48) (eh : vb r = nI h) : Met l yX1_reaches wsX1_reaches ({ frames := 2, cells := 0, slots := 0, locals := 43 } : Room) (RPc dG cI cJ [.ref lb, .int (nI r), .int (nI v), .int (nI d)] (LW cI cJ lb aR aV aH aD aP rk vb rc hs D Pp)) (vp_Si (fun r9 => r9 = (bI (rch L h v d (r + 1))))) 0 0 (fun _ => False) := by
  refine Met.ofW (cc := cX1_reaches) (maxL := 8) (ret := (some .boolean)) (by decide) rfl ?_
  intro p e s m args below meth c s₁ B9 hml hv
  obtain ⟨rfl, hP, hK⟩ := hv
  have hx := B9.exec
  have hb := B9.bytes
  have hr := B9.returns
  have hts := atoms_spec (ws := wsX1_reaches) B9.pre
  have hown : s.vm.findClass RX1 = some m.cls := findClass_of_methodNamed B9.named
  have hlocks := B9.notSynchronized
  have hl := lv_entry ([.ref lb, .int (nI r), .int (nI v), .int (nI d)]) (n := 8) (Nat.le_of_ble_eq_true rfl)
  rw [lg_entry_eq]
  generalize (lg_sl ([.ref lb, .int (nI r), .int (nI v), .int (nI d)]) ++ List.replicate (8 - (lg_sl ([.ref lb, .int (nI r), .int (nI v), .int (nI d)])).length) Slot.unset).toArray = ls at hl ⊢
  have hl : lv_has ls 8 [(0, .ref lb), (1, .int (nI r)), (2, .int (nI v)), (3, .int (nI d))] := hl
  refine lv_aload_n hx hb dX1_reaches_0 rfl (lv_at hl 0 rfl) ?_
  refine lv_iload_n hx hb dX1_reaches_1 rfl (lv_at hl 1 rfl) ?_
  have hPc := hP.sub (ws' := (LW cI cJ lb aR aV aH aD aP rk vb rc hs D Pp)) [0, 1, 2, 3, 4, 5] rfl
  refine x_ri (W.runV (As := [.int (nI r)]) (rest := []) ⟨hx, hb, hml, hown, hts⟩ (c_vertexOf l dG cI cJ lb aR aV aH aD aP rk vb rc hs D Pp r hr0) (cwV 1 hts gX1_reaches_X1_vertexOf rfl rfl rfl (by decide +kernel) ⟨Nat.le_of_ble_eq_true rfl, Nat.le_of_ble_eq_true rfl⟩) (RPc.pre hPc hK (va_recv hK.1 hPc (ci := 1) (q0 := 0) rfl rfl)) rfl rfl hl.1 rfl (lv_room (Nat.le_of_ble_eq_true rfl)) dX1_reaches_2 ⟨Nat.zero_le _, Nat.zero_le _⟩) ?_
  rw [eh]
  refine lv_istore (lv' := [(4, .int (nI h)), (0, .ref lb), (1, .int (nI r)), (2, .int (nI v)), (3, .int (nI d))]) hx hb dX1_reaches_5 hl (by decide) rfl (fun ls hl => ?_)
  refine lv_aload_n hx hb dX1_reaches_7 rfl (lv_at hl 1 rfl) ?_
  refine lv_iload hx hb dX1_reaches_8 (lv_at hl 0 rfl) ?_
  refine lv_iload_n hx hb dX1_reaches_10 rfl (lv_at hl 3 rfl) ?_
  have hPc := hP.sub (ws' := (LW cI cJ lb aR aV aH aD aP rk vb rc hs D Pp)) [0, 1, 2, 3, 4, 5] rfl
  refine x_rl (W.runV (As := [.int (nI h), .int (nI v)]) (rest := []) ⟨hx, hb, hml, hown, hts⟩ (c_commonHubs l dG cI cJ lb aR aV aH aD aP rk vb rc hs D Pp h v hh hv) (cwV 2 hts gX1_reaches_X1_commonHubs rfl rfl rfl (by decide +kernel) ⟨Nat.le_of_ble_eq_true rfl, Nat.le_of_ble_eq_true rfl⟩) (RPc.pre hPc hK (va_recv hK.1 hPc (ci := 1) (q0 := 0) rfl rfl)) rfl rfl hl.1 rfl (lv_room (Nat.le_of_ble_eq_true rfl)) dX1_reaches_11 ⟨Nat.zero_le _, Nat.zero_le _⟩) ?_
  refine lv_lstore (lv' := [(5, .long (hs h &&& hs v)), (4, .int (nI h)), (0, .ref lb), (1, .int (nI r)), (2, .int (nI v)), (3, .int (nI d))]) hx hb dX1_reaches_14 hl (by decide) rfl (fun ls hl => ?_)
  refine lv_iconst (v := (nI 0)) hx hb dX1_reaches_16 (by decide) ?_
  refine lv_istore (lv' := [(7, .int (nI 0)), (5, .long (hs h &&& hs v)), (4, .int (nI h)), (0, .ref lb), (1, .int (nI r)), (2, .int (nI v)), (3, .int (nI d))]) hx hb dX1_reaches_17 hl (by decide) rfl (fun ls hl => ?_)
  have loop : ∀ (QQ : State → Prop) (n1 : Nat) (k : Nat), 48 < k + n1 → k ≤ r + 1 → rch L h v d k = false → (∀ (_ : rch L h v d (r + 1) = false), ∀ ls : Array Slot, lv_has ls 8 [(0, .ref lb), (1, .int (nI r)), (2, .int (nI v)), (3, .int (nI d)), (4, .int (nI h)), (5, .long (hs h &&& hs v)), (7, .int (nI (r + 1)))] → W p l e ({ frames := 2, cells := 0, slots := 0, locals := 43 } : Room) s m ([.ref lb, .int (nI r), .int (nI v), .int (nI d)] : List Value).toArray below meth c s.heap [] 0 0 QQ (F0 m 63 ls [])) → (∀ (_ : rch L h v d (r + 1) = true) (k : Nat), ∀ ls : Array Slot, lv_has ls 8 [(0, .ref lb), (1, .int (nI r)), (2, .int (nI v)), (3, .int (nI d)), (4, .int (nI h)), (5, .long (hs h &&& hs v)), (7, .int (nI k))] → W p l e ({ frames := 2, cells := 0, slots := 0, locals := 43 } : Room) s m ([.ref lb, .int (nI r), .int (nI v), .int (nI d)] : List Value).toArray below meth c s.heap [] 0 0 QQ (F0 m 55 ls [])) → ∀ ls : Array Slot, lv_has ls 8 [(0, .ref lb), (1, .int (nI r)), (2, .int (nI v)), (3, .int (nI d)), (4, .int (nI h)), (5, .long (hs h &&& hs v)), (7, .int (nI k))] → W p l e ({ frames := 2, cells := 0, slots := 0, locals := 43 } : Room) s m ([.ref lb, .int (nI r), .int (nI v), .int (nI d)] : List Value).toArray below meth c s.heap [] 0 0 QQ (F0 m 19 ls []) := by
    intro QQ n1
    induction n1 with
    | zero => intro k h1 h2 h3; exact absurd h1 (by omega)
    | succ n1 ih =>
      intro k h1 h2 h3 kx ky ls hl
      refine lv_iload hx hb dX1_reaches_19 (lv_at hl 6 rfl) ?_
      refine lv_iload_n hx hb dX1_reaches_21 rfl (lv_at hl 1 rfl) ?_
      refine x_icmp_gtN (i := k) (j := r) (tgt := 63) hx hb (by omega) (by omega) dX1_reaches_22 (by decide) (fun c22 => ?_) (fun c22 => ?_)
      · skip
        have ek : k = r + 1 := by omega
        subst ek
        exact kx (h3) ls (lv_sub hl [0, 1, 2, 3, 4, 5, 6] rfl)
      · skip
        refine lv_iload hx hb dX1_reaches_25 (lv_at hl 6 rfl) ?_
        refine lv_bipush (v := (nI 48)) hx hb dX1_reaches_27 (by decide) ?_
        refine x_icmp_geN (i := k) (j := 48) (tgt := 63) hx hb (by omega) (by omega) dX1_reaches_29 (by decide) (fun c29 => ?_) (fun c29 => ?_)
        · skip
          exact absurd c29 (by omega)
        · skip
          refine lv_lload hx hb dX1_reaches_32 (lv_at hl 5 rfl) ?_
          refine lv_iload hx hb dX1_reaches_34 (lv_at hl 6 rfl) ?_
          have hPc : va_P dG vwCl [] s.heap := fun k q h => by simp at h
          refine x_ri (va_runSN (As := [.long (hs h &&& hs v), .int (nI k)]) (rest := []) ⟨hx, hb, hml, hown, hts⟩ (c_hasBit l dG cI cJ (hs h &&& hs v) k (by omega)) ⟨va_cnB 2 hts gX1_reaches_X3_hasBit_n50 rfl rfl rfl hK.2.2.2.2.1 (hts (.initialized RX3) (by decide +kernel)) (by decide +kernel) ⟨Nat.le_of_ble_eq_true rfl, Nat.le_of_ble_eq_true rfl⟩, hts (.static yX3_hasBit) (by decide +kernel), trivial⟩ (RPc.preS hPc hK) rfl rfl hl.1 rfl (lv_room (Nat.le_of_ble_eq_true rfl)) dX1_reaches_36 ⟨Nat.zero_le _, Nat.zero_le _⟩).run ?_
          rw [hR.com hh hv (by omega)]
          refine x_ifeqB (tgt := 57) hx hb dX1_reaches_39 (by decide) (fun c39 => ?_) (fun c39 => ?_)
          · skip
            refine x_iincN (lv' := [(7, .int (nI (k + 1))), (0, .ref lb), (1, .int (nI r)), (2, .int (nI v)), (3, .int (nI d)), (4, .int (nI h)), (5, .long (hs h &&& hs v))]) hx hb dX1_reaches_57 hl (k := 6) rfl (by decide) rfl (fun ls hl => ?_)
            refine lv_goto (tgt := 19) hx hb dX1_reaches_60 (by decide) ?_
            exact ih (k + 1) (by omega) (by omega) (rch_no h3 c39) kx ky ls (lv_sub hl [1, 2, 3, 4, 5, 6, 0] rfl)
          · skip
            refine lv_aload_n hx hb dX1_reaches_42 rfl (lv_at hl 0 rfl) ?_
            refine lv_iload hx hb dX1_reaches_43 (lv_at hl 6 rfl) ?_
            refine lv_iload hx hb dX1_reaches_45 (lv_at hl 4 rfl) ?_
            refine lv_iload_n hx hb dX1_reaches_47 rfl (lv_at hl 2 rfl) ?_
            have hPc := hP.sub (ws' := (LW cI cJ lb aR aV aH aD aP rk vb rc hs D Pp)) [0, 1, 2, 3, 4, 5] rfl
            refine x_ri (W.runV (As := [.int (nI k), .int (nI h), .int (nI v)]) (rest := []) ⟨hx, hb, hml, hown, hts⟩ (c_sumThrough l dG cI cJ lb aR aV aH aD aP rk vb rc hs D Pp L P hR k h v (by omega) hh hv (Bool.and_eq_true_iff.mp c39).1 (Bool.and_eq_true_iff.mp c39).2) (cwV 3 hts gX1_reaches_X1_sumThrough rfl rfl rfl (by decide +kernel) ⟨Nat.le_of_ble_eq_true rfl, Nat.le_of_ble_eq_true rfl⟩) (RPc.pre hPc hK (va_recv hK.1 hPc (ci := 1) (q0 := 0) rfl rfl)) rfl rfl hl.1 rfl (lv_room (Nat.le_of_ble_eq_true rfl)) dX1_reaches_48 ⟨Nat.zero_le _, Nat.zero_le _⟩) ?_
            refine lv_iload_n hx hb dX1_reaches_51 rfl (lv_at hl 3 rfl) ?_
            refine x_icmp_gtN (i := (lsm L h v k)) (j := d) (tgt := 57) hx hb (lsm_lt hB h v k) (by omega) dX1_reaches_52 (by decide) (fun c52 => ?_) (fun c52 => ?_)
            · skip
              refine x_iincN (lv' := [(7, .int (nI (k + 1))), (0, .ref lb), (1, .int (nI r)), (2, .int (nI v)), (3, .int (nI d)), (4, .int (nI h)), (5, .long (hs h &&& hs v))]) hx hb dX1_reaches_57 hl (k := 6) rfl (by decide) rfl (fun ls hl => ?_)
              refine lv_goto (tgt := 19) hx hb dX1_reaches_60 (by decide) ?_
              exact ih (k + 1) (by omega) (by omega) (rch_gt h3 c52) kx ky ls (lv_sub hl [1, 2, 3, 4, 5, 6, 0] rfl)
            · skip
              exact ky (rch_mono (rch_yes c39 c52) (by omega)) (k) ls (lv_sub hl [0, 1, 2, 3, 4, 5, 6] rfl)
  refine loop _ 49 0 (by omega) (by omega) (rfl) (fun hq  ls hl => ?_) (fun hq k ls hl => ?_) ls (lv_sub hl [3, 4, 5, 6, 2, 1, 0] rfl)
  · skip
    refine lv_iconst (v := (nI 0)) hx hb dX1_reaches_63 (by decide) ?_
    exact W.zret (v := (nI 0)) (ty := .boolean) hx hb hr (by decide) (fun t ht hW => ⟨_, rfl, (show (nI 0) = (bI (rch L h v d (r + 1))) from by rw [hq]; rfl), ht⟩) (fun _ h => nomatch h) dX1_reaches_64
  · skip
    refine lv_iconst (v := (nI 1)) hx hb dX1_reaches_55 (by decide) ?_
    exact W.zret (v := (nI 1)) (ty := .boolean) hx hb hr (by decide) (fun t ht hW => ⟨_, rfl, (show (nI 1) = (bI (rch L h v d (r + 1))) from by rw [hq]; rfl), ht⟩) (fun _ h => nomatch h) dX1_reaches_56

