/-! the Graph, and the two static tests -/
def inV (x : Int32) (n : Nat) : Bool := decide (0 ≤ x.toInt ∧ x.toInt < (n : Int))
theorem inV_neg {x : Int32} {n : Nat} (h : x < 0) : inV x n = false := by
  have h0 : x.toInt < 0 := by simpa using Int32.lt_iff_toInt_lt.mp h
  exact decide_eq_false (by omega)
theorem inV_ge {x : Int32} {n : Nat} (hn : n < 2 ^ 31) (h : nI n ≤ x) : inV x n = false := by
  have h0 := Int32.le_iff_toInt_le.mp h
  rw [nI_toInt hn] at h0
  exact decide_eq_false (by omega)
theorem inV_in {x : Int32} {n : Nat} (hn : n < 2 ^ 31) (h1 : ¬ x < 0) (h2 : ¬ nI n ≤ x) : inV x n = true := by
  have h0 : ¬ x.toInt < 0 := fun q => h1 (Int32.lt_iff_toInt_lt.mpr (by simpa using q))
  have h3 : ¬ (n : Int) ≤ x.toInt := fun q => h2 (Int32.le_iff_toInt_le.mpr (by rw [nI_toInt hn]; exact q))
  exact decide_eq_true (by omega)
theorem inV_of {x : Int32} {n : Nat} (hn : n < 2 ^ 31) (h : inV x n = true) : ∃ j : Nat, j < n ∧ x = nI j := by
  have h0 := of_decide_eq_true h
  refine ⟨x.toInt.toNat, by omega, Int32.toInt_inj.mp ?_⟩
  rw [nI_toInt (by omega)]
  omega
theorem inV_nI {j n : Nat} (hj : j < 2 ^ 31) : inV (nI j) n = decide (j < n) := by
  unfold inV
  rw [nI_toInt hj]
  by_cases h : j < n
  · rw [decide_eq_true h]; exact decide_eq_true (by omega)
  · rw [decide_eq_false h]; exact decide_eq_false (by omega)
/-- the sets with an edge more; the first k of them emptied -/
def jn (ns : Nat → Int64) (a b : Nat) : Nat → Int64 := vp_updL (vp_updL ns a (ns a ||| ((1 : Int64) <<< ((nI b).toInt64 &&& 63)))) b ((vp_updL ns a (ns a ||| ((1 : Int64) <<< ((nI b).toInt64 &&& 63)))) b ||| ((1 : Int64) <<< ((nI a).toInt64 &&& 63)))
def cut0 (ns : Nat → Int64) (k : Nat) : Nat → Int64 := fun j => if j < k then 0 else ns j
theorem cut0_0 (ns : Nat → Int64) : cut0 ns 0 = ns := by funext j; simp [cut0]
theorem cut0_s (ns : Nat → Int64) (k : Nat) : vp_updL (cut0 ns k) k 0 = cut0 ns (k + 1) := by
  funext j
  unfold vp_updL cut0
  by_cases h : j = k
  · subst h; simp
  · by_cases h2 : j < k
    · simp [h, h2, show j < k + 1 by omega]
    · simp [h, h2, show ¬ j < k + 1 by omega]
set_option maxHeartbeats 4000000 in
set_option maxRecDepth 100000 in
/-- isRow(k) -/
theorem c_isRow (l : Launch) (dG : va_G) (cI cJ : ClassId) (k : Nat) (hk : k < 2 ^ 31) : Met l yX3_isRow wsX3_isRow ({ frames := 0, cells := 0, slots := 0, locals := 0 } : Room) (RPc dG cI cJ [.int (nI k)] []) (vp_Si (fun r9 => r9 = (bI (decide (k < 48))))) 0 0 (fun _ => False) := by
  refine Met.ofW (cc := cX3_isRow) (maxL := 1) (ret := (some .boolean)) (by decide) rfl ?_
  intro p e s m args below meth c s₁ B9 hml hv
  obtain ⟨rfl, hP, hK⟩ := hv
  have hx := B9.exec
  have hb := B9.bytes
  have hr := B9.returns
  have hts := atoms_spec (ws := wsX3_isRow) B9.pre
  have hown : s.vm.findClass RX3 = some m.cls := findClass_of_methodNamed B9.named
  have hlocks := B9.notSynchronized
  have hl := lv_entry ([.int (nI k)]) (n := 1) (Nat.le_of_ble_eq_true rfl)
  rw [lg_entry_eq]
  generalize (lg_sl ([.int (nI k)]) ++ List.replicate (1 - (lg_sl ([.int (nI k)])).length) Slot.unset).toArray = ls at hl ⊢
  have hl : lv_has ls 1 [(0, .int (nI k))] := hl
  refine lv_iload_n hx hb dX3_isRow_0 rfl (lv_at hl 0 rfl) ?_
  refine x_ifltN (tgt := 14) hx hb (by omega) dX3_isRow_1 (by decide) ?_
  refine lv_iload_n hx hb dX3_isRow_4 rfl (lv_at hl 0 rfl) ?_
  refine lv_bipush (v := (nI 48)) hx hb dX3_isRow_5 (by decide) ?_
  refine x_icmp_geN (i := k) (j := 48) (tgt := 14) hx hb (by omega) (by omega) dX3_isRow_7 (by decide) (fun c7 => ?_) (fun c7 => ?_)
  · skip
    refine lv_iconst (v := (nI 0)) hx hb dX3_isRow_14 (by decide) ?_
    exact W.zret (v := (nI 0)) (ty := .boolean) hx hb hr (by decide) (fun t ht hW => ⟨_, rfl, (show (nI 0) = (bI (decide (k < 48))) from by rw [decide_eq_false (show ¬ k < 48 by omega)]; rfl), ht⟩) (fun _ h => nomatch h) dX3_isRow_15
  · skip
    refine lv_iconst (v := (nI 1)) hx hb dX3_isRow_10 (by decide) ?_
    refine lv_goto (tgt := 15) hx hb dX3_isRow_11 (by decide) ?_
    exact W.zret (v := (nI 1)) (ty := .boolean) hx hb hr (by decide) (fun t ht hW => ⟨_, rfl, (show (nI 1) = (bI (decide (k < 48))) from by rw [decide_eq_true (show k < 48 by omega)]; rfl), ht⟩) (fun _ h => nomatch h) dX3_isRow_15

set_option maxHeartbeats 4000000 in
set_option maxRecDepth 100000 in
/-- isRow(-1) -/
theorem c_isRowM (l : Launch) (dG : va_G) (cI cJ : ClassId)  : Met l yX3_isRow wsX3_isRow ({ frames := 0, cells := 0, slots := 0, locals := 0 } : Room) (RPc dG cI cJ [.int (-1)] []) (vp_Si (fun r9 => r9 = (bI false))) 0 0 (fun _ => False) := by
  refine Met.ofW (cc := cX3_isRow) (maxL := 1) (ret := (some .boolean)) (by decide) rfl ?_
  intro p e s m args below meth c s₁ B9 hml hv
  obtain ⟨rfl, hP, hK⟩ := hv
  have hx := B9.exec
  have hb := B9.bytes
  have hr := B9.returns
  have hts := atoms_spec (ws := wsX3_isRow) B9.pre
  have hown : s.vm.findClass RX3 = some m.cls := findClass_of_methodNamed B9.named
  have hlocks := B9.notSynchronized
  have hl := lv_entry ([.int (-1)]) (n := 1) (Nat.le_of_ble_eq_true rfl)
  rw [lg_entry_eq]
  generalize (lg_sl ([.int (-1)]) ++ List.replicate (1 - (lg_sl ([.int (-1)])).length) Slot.unset).toArray = ls at hl ⊢
  have hl : lv_has ls 1 [(0, .int (-1))] := hl
  refine lv_iload_n hx hb dX3_isRow_0 rfl (lv_at hl 0 rfl) ?_
  refine lv_if_lt (tgt := 14) hx hb dX3_isRow_1 (by decide) (fun c1 => ?_) (fun c1 => ?_)
  · skip
    refine lv_iconst (v := (nI 0)) hx hb dX3_isRow_14 (by decide) ?_
    exact W.zret (v := (nI 0)) (ty := .boolean) hx hb hr (by decide) (fun t ht hW => ⟨_, rfl, rfl, ht⟩) (fun _ h => nomatch h) dX3_isRow_15
  · skip
    exact absurd (by decide) c1

set_option maxHeartbeats 4000000 in
set_option maxRecDepth 100000 in
/-- hasBit(w, k) -/
theorem c_hasBit (l : Launch) (dG : va_G) (cI cJ : ClassId) (w : Int64) (k : Nat) (hk : k < 64) : Met l yX3_hasBit wsX3_hasBit ({ frames := 0, cells := 0, slots := 0, locals := 0 } : Room) (RPc dG cI cJ [.long w, .int (nI k)] []) (vp_Si (fun r9 => r9 = (bI (gb w k)))) 0 0 (fun _ => False) := by
  refine Met.ofW (cc := cX3_hasBit) (maxL := 3) (ret := (some .boolean)) (by decide) rfl ?_
  intro p e s m args below meth c s₁ B9 hml hv
  obtain ⟨rfl, hP, hK⟩ := hv
  have hx := B9.exec
  have hb := B9.bytes
  have hr := B9.returns
  have hts := atoms_spec (ws := wsX3_hasBit) B9.pre
  have hown : s.vm.findClass RX3 = some m.cls := findClass_of_methodNamed B9.named
  have hlocks := B9.notSynchronized
  have hl := lv_entry ([.long w, .int (nI k)]) (n := 3) (Nat.le_of_ble_eq_true rfl)
  rw [lg_entry_eq]
  generalize (lg_sl ([.long w, .int (nI k)]) ++ List.replicate (3 - (lg_sl ([.long w, .int (nI k)])).length) Slot.unset).toArray = ls at hl ⊢
  have hl : lv_has ls 3 [(0, .long w), (2, .int (nI k))] := hl
  refine lv_lload_n hx hb dX3_hasBit_0 rfl (lv_at hl 0 rfl) ?_
  refine lv_iload_n hx hb dX3_hasBit_1 rfl (lv_at hl 1 rfl) ?_
  refine lv_lushr (v := ((w.toUInt64 >>> ((nI k).toInt64.toUInt64 &&& Int64.toUInt64 63)).toInt64)) hx hb dX3_hasBit_2 rfl ?_
  refine lv_lconst (v := 1) hx hb dX3_hasBit_3 rfl ?_
  refine lv_land hx hb dX3_hasBit_4 ?_
  refine lv_lconst (v := 0) hx hb dX3_hasBit_5 rfl ?_
  refine W.lcmp hx hb dX3_hasBit_6 ?_
  rw [show (lg_cmp (((w.toUInt64 >>> ((nI k).toInt64.toUInt64 &&& Int64.toUInt64 63)).toInt64) &&& 1) 0) = (bI (gb w k)) from gb_cmp0 hk]
  refine x_ifeqB (tgt := 14) hx hb dX3_hasBit_7 (by decide) (fun c7 => ?_) (fun c7 => ?_)
  · skip
    refine lv_iconst (v := (nI 0)) hx hb dX3_hasBit_14 (by decide) ?_
    exact W.zret (v := (nI 0)) (ty := .boolean) hx hb hr (by decide) (fun t ht hW => ⟨_, rfl, (show (nI 0) = (bI (gb w k)) from by rw [c7]; rfl), ht⟩) (fun _ h => nomatch h) dX3_hasBit_15
  · skip
    refine lv_iconst (v := (nI 1)) hx hb dX3_hasBit_10 (by decide) ?_
    refine lv_goto (tgt := 15) hx hb dX3_hasBit_11 (by decide) ?_
    exact W.zret (v := (nI 1)) (ty := .boolean) hx hb hr (by decide) (fun t ht hW => ⟨_, rfl, (show (nI 1) = (bI (gb w k)) from by rw [c7]; rfl), ht⟩) (fun _ h => nomatch h) dX3_hasBit_15

set_option maxHeartbeats 4000000 in
set_option maxRecDepth 100000 in
/-- Graph.size -/
theorem c_size (l : Launch) (dG : va_G) (cI cJ : ClassId) (g gA n ec : Nat) (ns : Nat → Int64) : Met l yX0_size wsX0_size ({ frames := 0, cells := 0, slots := 0, locals := 0 } : Room) (RPc dG cI cJ [.ref g] (GW cJ g gA (nI n) (nI ec) ns)) (vp_Si (fun r9 => r9 = (nI n))) 0 0 (fun _ => False) := by
  refine Met.ofW (cc := cX0_size) (maxL := 1) (ret := (some .int)) (by decide) rfl ?_
  intro p e s m args below meth c s₁ B9 hml hv
  obtain ⟨rfl, hP, hK⟩ := hv
  have hx := B9.exec
  have hb := B9.bytes
  have hr := B9.returns
  have hts := atoms_spec (ws := wsX0_size) B9.pre
  have hown : s.vm.findClass RX0 = some m.cls := findClass_of_methodNamed B9.named
  have hlocks := B9.notSynchronized
  have hl := lv_entry ([.ref g]) (n := 1) (Nat.le_of_ble_eq_true rfl)
  rw [lg_entry_eq]
  generalize (lg_sl ([.ref g]) ++ List.replicate (1 - (lg_sl ([.ref g])).length) Slot.unset).toArray = ls at hl ⊢
  have hl : lv_has ls 1 [(0, .ref g)] := hl
  have hiX0 : ∀ w ∈ wsX00, w ∈ wsX0_size := by decide +kernel
  have hf15 := hts (.fieldLink RX0 15 "LandmarkLea$Graph" "vertexCount" "I") (by decide +kernel)
  refine lv_aload_n hx hb dX0_size_0 rfl (lv_at hl 0 rfl) ?_
  refine va_get (D := dG) (ci := 0) (v := .int (nI n)) (C := RX0) (T := TX0) (N := 3) hx hb hts hiX0 hown hK.1 hP 0 rfl rfl 1 (by decide) hf15 (fun _ h9 => h9) rfl dX0_size_1 ?_
  exact W.iret (v := (nI n)) hx hb hr (fun t ht hW => ⟨_, rfl, rfl, ht⟩) (fun _ h => nomatch h) dX0_size_4

set_option maxHeartbeats 4000000 in
set_option maxRecDepth 100000 in
/-- Graph.countOfEdges -/
theorem c_countOfEdges (l : Launch) (dG : va_G) (cI cJ : ClassId) (g gA n ec : Nat) (ns : Nat → Int64) : Met l yX0_countOfEdges wsX0_countOfEdges ({ frames := 0, cells := 0, slots := 0, locals := 0 } : Room) (RPc dG cI cJ [.ref g] (GW cJ g gA (nI n) (nI ec) ns)) (vp_Si (fun r9 => r9 = (nI ec))) 0 0 (fun _ => False) := by
  refine Met.ofW (cc := cX0_countOfEdges) (maxL := 1) (ret := (some .int)) (by decide) rfl ?_
  intro p e s m args below meth c s₁ B9 hml hv
  obtain ⟨rfl, hP, hK⟩ := hv
  have hx := B9.exec
  have hb := B9.bytes
  have hr := B9.returns
  have hts := atoms_spec (ws := wsX0_countOfEdges) B9.pre
  have hown : s.vm.findClass RX0 = some m.cls := findClass_of_methodNamed B9.named
  have hlocks := B9.notSynchronized
  have hl := lv_entry ([.ref g]) (n := 1) (Nat.le_of_ble_eq_true rfl)
  rw [lg_entry_eq]
  generalize (lg_sl ([.ref g]) ++ List.replicate (1 - (lg_sl ([.ref g])).length) Slot.unset).toArray = ls at hl ⊢
  have hl : lv_has ls 1 [(0, .ref g)] := hl
  have hiX0 : ∀ w ∈ wsX00, w ∈ wsX0_countOfEdges := by decide +kernel
  have hf19 := hts (.fieldLink RX0 19 "LandmarkLea$Graph" "edgeCount" "I") (by decide +kernel)
  refine lv_aload_n hx hb dX0_countOfEdges_0 rfl (lv_at hl 0 rfl) ?_
  refine va_get (D := dG) (ci := 0) (v := .int (nI ec)) (C := RX0) (T := TX0) (N := 3) hx hb hts hiX0 hown hK.1 hP 0 rfl rfl 2 (by decide) hf19 (fun _ h9 => h9) rfl dX0_countOfEdges_1 ?_
  exact W.iret (v := (nI ec)) hx hb hr (fun t ht hW => ⟨_, rfl, rfl, ht⟩) (fun _ h => nomatch h) dX0_countOfEdges_4

set_option maxHeartbeats 4000000 in
set_option maxRecDepth 100000 in
/-- Graph.has -/
theorem c_has (l : Launch) (dG : va_G) (cI cJ : ClassId) (g gA n ec : Nat) (ns : Nat → Int64) (hn : n < 2 ^ 31) (x : Int32) : Met l yX0_has wsX0_has ({ frames := 0, cells := 0, slots := 0, locals := 0 } : Room) (RPc dG cI cJ [.ref g, .int x] (GW cJ g gA (nI n) (nI ec) ns)) (vp_Si (fun r9 => r9 = (bI (inV x n)))) 0 0 (fun _ => False) := by
  refine Met.ofW (cc := cX0_has) (maxL := 2) (ret := (some .boolean)) (by decide) rfl ?_
  intro p e s m args below meth c s₁ B9 hml hv
  obtain ⟨rfl, hP, hK⟩ := hv
  have hx := B9.exec
  have hb := B9.bytes
  have hr := B9.returns
  have hts := atoms_spec (ws := wsX0_has) B9.pre
  have hown : s.vm.findClass RX0 = some m.cls := findClass_of_methodNamed B9.named
  have hlocks := B9.notSynchronized
  have hl := lv_entry ([.ref g, .int x]) (n := 2) (Nat.le_of_ble_eq_true rfl)
  rw [lg_entry_eq]
  generalize (lg_sl ([.ref g, .int x]) ++ List.replicate (2 - (lg_sl ([.ref g, .int x])).length) Slot.unset).toArray = ls at hl ⊢
  have hl : lv_has ls 2 [(0, .ref g), (1, .int x)] := hl
  have hiX0 : ∀ w ∈ wsX00, w ∈ wsX0_has := by decide +kernel
  have hf15 := hts (.fieldLink RX0 15 "LandmarkLea$Graph" "vertexCount" "I") (by decide +kernel)
  refine lv_iload_n hx hb dX0_has_0 rfl (lv_at hl 1 rfl) ?_
  refine lv_if_lt (tgt := 16) hx hb dX0_has_1 (by decide) (fun c1 => ?_) (fun c1 => ?_)
  · skip
    refine lv_iconst (v := (nI 0)) hx hb dX0_has_16 (by decide) ?_
    exact W.zret (v := (nI 0)) (ty := .boolean) hx hb hr (by decide) (fun t ht hW => ⟨_, rfl, (show (nI 0) = (bI (inV x n)) from by rw [inV_neg c1]; rfl), ht⟩) (fun _ h => nomatch h) dX0_has_17
  · skip
    refine lv_iload_n hx hb dX0_has_4 rfl (lv_at hl 1 rfl) ?_
    refine lv_aload_n hx hb dX0_has_5 rfl (lv_at hl 0 rfl) ?_
    refine va_get (D := dG) (ci := 0) (v := .int (nI n)) (C := RX0) (T := TX0) (N := 3) hx hb hts hiX0 hown hK.1 hP 0 rfl rfl 1 (by decide) hf15 (fun _ h9 => h9) rfl dX0_has_6 ?_
    refine lv_icmp_ge (tgt := 16) hx hb dX0_has_9 (by decide) (fun c9 => ?_) (fun c9 => ?_)
    · skip
      refine lv_iconst (v := (nI 0)) hx hb dX0_has_16 (by decide) ?_
      exact W.zret (v := (nI 0)) (ty := .boolean) hx hb hr (by decide) (fun t ht hW => ⟨_, rfl, (show (nI 0) = (bI (inV x n)) from by rw [inV_ge hn c9]; rfl), ht⟩) (fun _ h => nomatch h) dX0_has_17
    · skip
      refine lv_iconst (v := (nI 1)) hx hb dX0_has_12 (by decide) ?_
      refine lv_goto (tgt := 17) hx hb dX0_has_13 (by decide) ?_
      exact W.zret (v := (nI 1)) (ty := .boolean) hx hb hr (by decide) (fun t ht hW => ⟨_, rfl, (show (nI 1) = (bI (inV x n)) from by rw [inV_in hn c1 c9]; rfl), ht⟩) (fun _ h => nomatch h) dX0_has_17

set_option maxHeartbeats 4000000 in
set_option maxRecDepth 100000 in
/-- Graph.adjacent -/
theorem c_adjacent (l : Launch) (dG : va_G) (cI cJ : ClassId) (g gA n ec : Nat) (ns : Nat → Int64) (v : Nat) (hv : v < 48) : Met l yX0_adjacent wsX0_adjacent ({ frames := 1, cells := 0, slots := 0, locals := 20 } : Room) (RPc dG cI cJ [.ref g, .int (nI v)] (GW cJ g gA (nI n) (nI ec) ns)) (vp_Sl (fun r9 => r9 = (ns v))) 0 0 (fun _ => False) := by
  refine Met.ofW (cc := cX0_adjacent) (maxL := 2) (ret := (some .long)) (by decide) rfl ?_
  intro p e s m args below meth c s₁ B9 hml hv
  obtain ⟨rfl, hP, hK⟩ := hv
  have hx := B9.exec
  have hb := B9.bytes
  have hr := B9.returns
  have hts := atoms_spec (ws := wsX0_adjacent) B9.pre
  have hown : s.vm.findClass RX0 = some m.cls := findClass_of_methodNamed B9.named
  have hlocks := B9.notSynchronized
  have hl := lv_entry ([.ref g, .int (nI v)]) (n := 2) (Nat.le_of_ble_eq_true rfl)
  rw [lg_entry_eq]
  generalize (lg_sl ([.ref g, .int (nI v)]) ++ List.replicate (2 - (lg_sl ([.ref g, .int (nI v)])).length) Slot.unset).toArray = ls at hl ⊢
  have hl : lv_has ls 2 [(0, .ref g), (1, .int (nI v))] := hl
  have hiX0 : ∀ w ∈ wsX00, w ∈ wsX0_adjacent := by decide +kernel
  have hf9 := hts (.fieldLink RX0 9 "LandmarkLea$Graph" "neighbourSets" "[J") (by decide +kernel)
  refine lv_iload_n hx hb dX0_adjacent_0 rfl (lv_at hl 1 rfl) ?_
  have hPc : va_P dG vwCl [] s.heap := fun k q h => by simp at h
  refine x_ri (va_runSN (As := [.int (nI v)]) (rest := []) ⟨hx, hb, hml, hown, hts⟩ (c_isRow l dG cI cJ v (by omega)) ⟨va_cnB 1 hts gX0_adjacent_X3_isRow_n22 rfl rfl rfl hK.2.1 (hts (.initialized RX3) (by decide +kernel)) (by decide +kernel) ⟨Nat.le_of_ble_eq_true rfl, Nat.le_of_ble_eq_true rfl⟩, hts (.static yX3_isRow) (by decide +kernel), trivial⟩ (RPc.preS hPc hK) rfl rfl hl.1 rfl (lv_room (Nat.le_of_ble_eq_true rfl)) dX0_adjacent_1 ⟨Nat.zero_le _, Nat.zero_le _⟩).run ?_
  refine x_ifeqB (tgt := 16) hx hb dX0_adjacent_4 (by decide) (fun c4 => ?_) (fun c4 => ?_)
  · skip
    exact absurd hv (of_decide_eq_false c4)
  · skip
    refine lv_aload_n hx hb dX0_adjacent_7 rfl (lv_at hl 0 rfl) ?_
    refine va_get (D := dG) (ci := 0) (v := .ref gA) (C := RX0) (T := TX0) (N := 3) hx hb hts hiX0 hown hK.1 hP 0 rfl rfl 0 (by decide) hf9 (fun _ h9 => h9) rfl dX0_adjacent_8 ?_
    refine lv_iload_n hx hb dX0_adjacent_11 rfl (lv_at hl 1 rfl) ?_
    refine x_lald (f := ns) hx hb hK hP 1 rfl (by omega) (by decide) dX0_adjacent_12 ?_
    refine lv_goto (tgt := 17) hx hb dX0_adjacent_13 (by decide) ?_
    exact W.lret (v := (ns v)) hx hb hr (fun t ht hW => ⟨_, rfl, rfl, ht⟩) (fun _ h => nomatch h) dX0_adjacent_17

set_option maxHeartbeats 4000000 in
set_option maxRecDepth 100000 in
/-- Graph.joins -/
theorem c_joins (l : Launch) (dG : va_G) (cI cJ : ClassId) (g gA n ec : Nat) (ns : Nat → Int64) (a b : Nat) (ha : a < 48) (hb2 : b < 48) : Met l yX0_joins wsX0_joins ({ frames := 2, cells := 0, slots := 0, locals := 41 } : Room) (RPc dG cI cJ [.ref g, .int (nI a), .int (nI b)] (GW cJ g gA (nI n) (nI ec) ns)) (vp_Si (fun r9 => r9 = (bI (gb (ns a) b)))) 0 0 (fun _ => False) := by
  refine Met.ofW (cc := cX0_joins) (maxL := 3) (ret := (some .boolean)) (by decide) rfl ?_
  intro p e s m args below meth c s₁ B9 hml hv
  obtain ⟨rfl, hP, hK⟩ := hv
  have hx := B9.exec
  have hb := B9.bytes
  have hr := B9.returns
  have hts := atoms_spec (ws := wsX0_joins) B9.pre
  have hown : s.vm.findClass RX0 = some m.cls := findClass_of_methodNamed B9.named
  have hlocks := B9.notSynchronized
  have hl := lv_entry ([.ref g, .int (nI a), .int (nI b)]) (n := 3) (Nat.le_of_ble_eq_true rfl)
  rw [lg_entry_eq]
  generalize (lg_sl ([.ref g, .int (nI a), .int (nI b)]) ++ List.replicate (3 - (lg_sl ([.ref g, .int (nI a), .int (nI b)])).length) Slot.unset).toArray = ls at hl ⊢
  have hl : lv_has ls 3 [(0, .ref g), (1, .int (nI a)), (2, .int (nI b))] := hl
  refine lv_iload_n hx hb dX0_joins_0 rfl (lv_at hl 2 rfl) ?_
  have hPc : va_P dG vwCl [] s.heap := fun k q h => by simp at h
  refine x_ri (va_runSN (As := [.int (nI b)]) (rest := []) ⟨hx, hb, hml, hown, hts⟩ (c_isRow l dG cI cJ b (by omega)) ⟨va_cnB 1 hts gX0_joins_X3_isRow_n22 rfl rfl rfl hK.2.1 (hts (.initialized RX3) (by decide +kernel)) (by decide +kernel) ⟨Nat.le_of_ble_eq_true rfl, Nat.le_of_ble_eq_true rfl⟩, hts (.static yX3_isRow) (by decide +kernel), trivial⟩ (RPc.preS hPc hK) rfl rfl hl.1 rfl (lv_room (Nat.le_of_ble_eq_true rfl)) dX0_joins_1 ⟨Nat.zero_le _, Nat.zero_le _⟩).run ?_
  refine x_ifeqB (tgt := 23) hx hb dX0_joins_4 (by decide) (fun c4 => ?_) (fun c4 => ?_)
  · skip
    exact absurd hb2 (of_decide_eq_false c4)
  · skip
    refine lv_aload_n hx hb dX0_joins_7 rfl (lv_at hl 0 rfl) ?_
    refine lv_iload_n hx hb dX0_joins_8 rfl (lv_at hl 1 rfl) ?_
    have hPc := hP.sub (ws' := (GW cJ g gA (nI n) (nI ec) ns)) [0, 1] rfl
    refine x_rl (W.runV (As := [.int (nI a)]) (rest := []) ⟨hx, hb, hml, hown, hts⟩ (c_adjacent l dG cI cJ g gA n ec ns a ha) (cwV 1 hts gX0_joins_X0_adjacent rfl rfl rfl (by decide +kernel) ⟨Nat.le_of_ble_eq_true rfl, Nat.le_of_ble_eq_true rfl⟩) (RPc.pre hPc hK (va_recv hK.1 hPc (ci := 0) (q0 := 0) rfl rfl)) rfl rfl hl.1 rfl (lv_room (Nat.le_of_ble_eq_true rfl)) dX0_joins_9 ⟨Nat.zero_le _, Nat.zero_le _⟩) ?_
    refine lv_iload_n hx hb dX0_joins_12 rfl (lv_at hl 2 rfl) ?_
    have hPc : va_P dG vwCl [] s.heap := fun k q h => by simp at h
    refine x_ri (va_runSN (As := [.long (ns a), .int (nI b)]) (rest := []) ⟨hx, hb, hml, hown, hts⟩ (c_hasBit l dG cI cJ (ns a) b (by omega)) ⟨va_cnB 2 hts gX0_joins_X3_hasBit_n30 rfl rfl rfl hK.2.2.1 (hts (.initialized RX3) (by decide +kernel)) (by decide +kernel) ⟨Nat.le_of_ble_eq_true rfl, Nat.le_of_ble_eq_true rfl⟩, hts (.static yX3_hasBit) (by decide +kernel), trivial⟩ (RPc.preS hPc hK) rfl rfl hl.1 rfl (lv_room (Nat.le_of_ble_eq_true rfl)) dX0_joins_13 ⟨Nat.zero_le _, Nat.zero_le _⟩).run ?_
    refine x_ifeqB (tgt := 23) hx hb dX0_joins_16 (by decide) (fun c16 => ?_) (fun c16 => ?_)
    · skip
      refine lv_iconst (v := (nI 0)) hx hb dX0_joins_23 (by decide) ?_
      exact W.zret (v := (nI 0)) (ty := .boolean) hx hb hr (by decide) (fun t ht hW => ⟨_, rfl, (show (nI 0) = (bI (gb (ns a) b)) from by rw [c16]; rfl), ht⟩) (fun _ h => nomatch h) dX0_joins_24
    · skip
      refine lv_iconst (v := (nI 1)) hx hb dX0_joins_19 (by decide) ?_
      refine lv_goto (tgt := 24) hx hb dX0_joins_20 (by decide) ?_
      exact W.zret (v := (nI 1)) (ty := .boolean) hx hb hr (by decide) (fun t ht hW => ⟨_, rfl, (show (nI 1) = (bI (gb (ns a) b)) from by rw [c16]; rfl), ht⟩) (fun _ h => nomatch h) dX0_joins_24

set_option maxHeartbeats 4000000 in
set_option maxRecDepth 100000 in
/-- Graph.grow -/
theorem c_grow (l : Launch) (dG : va_G) (cI cJ : ClassId) (A : Nat → Prop) (g gA n ec : Nat) (ns : Nat → Int64) (hn : n < 48) (X : va_W) : Met l yX0_grow wsX0_grow ({ frames := 0, cells := 0, slots := 0, locals := 0 } : Room) (WPc dG cI cJ [.ref g] (GW cJ g gA (nI n) (nI ec) ns ++ X) A) (va_Qi (S := Unit) (fun r _ => r = nI n) (fun _ => WB dG A (GW cJ g gA (nI (n + 1)) (nI ec) ns ++ X)) A) 0 0 A := by
  refine Met.ofW (cc := cX0_grow) (maxL := 2) (ret := (some .int)) (by decide) rfl ?_
  intro p e s m args below meth c s₁ B9 hml hv
  obtain ⟨rfl, hP, hK, hD⟩ := hv
  have hx := B9.exec
  have hb := B9.bytes
  have hr := B9.returns
  have hts := atoms_spec (ws := wsX0_grow) B9.pre
  have hown : s.vm.findClass RX0 = some m.cls := findClass_of_methodNamed B9.named
  have hlocks := B9.notSynchronized
  have hS : va_S A s.heap s.heap [] := va_S.rf
  have hl := lv_entry ([.ref g]) (n := 2) (Nat.le_of_ble_eq_true rfl)
  rw [lg_entry_eq]
  generalize (lg_sl ([.ref g]) ++ List.replicate (2 - (lg_sl ([.ref g])).length) Slot.unset).toArray = ls at hl ⊢
  have hl : lv_has ls 2 [(0, .ref g)] := hl
  have hiX0 : ∀ w ∈ wsX00, w ∈ wsX0_grow := by decide +kernel
  have hf15 := hts (.fieldLink RX0 15 "LandmarkLea$Graph" "vertexCount" "I") (by decide +kernel)
  refine lv_aload_n hx hb dX0_grow_0 rfl (lv_at hl 0 rfl) ?_
  refine va_get (D := dG) (ci := 0) (v := .int (nI n)) (C := RX0) (T := TX0) (N := 3) hx hb hts hiX0 hown hK.1 hP 0 rfl rfl 1 (by decide) hf15 (fun _ h9 => h9) rfl dX0_grow_1 ?_
  refine lv_bipush (v := (nI 48)) hx hb dX0_grow_4 (by decide) ?_
  refine x_icmp_ltN (i := n) (j := 48) (tgt := 11) hx hb (by omega) (by omega) dX0_grow_6 (by decide) (fun c6 => ?_) (fun c6 => ?_)
  · skip
    refine lv_aload_n hx hb dX0_grow_11 rfl (lv_at hl 0 rfl) ?_
    refine va_get (D := dG) (ci := 0) (v := .int (nI n)) (C := RX0) (T := TX0) (N := 3) hx hb hts hiX0 hown hK.1 hP 0 rfl rfl 1 (by decide) hf15 (fun _ h9 => h9) rfl dX0_grow_12 ?_
    refine lv_istore_n (lv' := [(1, .int (nI n)), (0, .ref g)]) hx hb dX0_grow_15 rfl hl (by decide) rfl (fun ls hl => ?_)
    refine lv_aload_n hx hb dX0_grow_16 rfl (lv_at hl 1 rfl) ?_
    refine lv_dup hx hb dX0_grow_17 rfl ?_
    refine va_get (D := dG) (ci := 0) (v := .int (nI n)) (C := RX0) (T := TX0) (N := 3) hx hb hts hiX0 hown hK.1 hP 0 rfl rfl 1 (by decide) hf15 (fun _ h9 => h9) rfl dX0_grow_18 ?_
    refine lv_iconst (v := (nI 1)) hx hb dX0_grow_21 (by decide) ?_
    refine x_addN (i := n) (j := 1) hx hb dX0_grow_22 ?_
    refine va_put (D := dG) (ci := 0) (v := .int (nI (n + 1))) (ty := .int) (C := RX0) (T := TX0) (N := 3) hx hb hts hiX0 tyX0 tyX0_ok nmX0 hown hK.1 hP hD hS 0 rfl rfl 1 (by decide) hf15 (fun _ h9 => h9) rfl (by decide +kernel) rfl rfl (Nat.le_of_ble_eq_true rfl) dX0_grow_23 (fun H locs hP hD hS => ?_)
    have hP : va_P dG vwCl (GW cJ g gA (nI (n + 1)) (nI ec) ns ++ X) H := hP
    have hD : va_D A (GW cJ g gA (nI (n + 1)) (nI ec) ns ++ X) := hD
    refine lv_iload_n hx hb dX0_grow_26 rfl (lv_at hl 0 rfl) ?_
    exact W.iret (v := (nI n)) hx hb hr (fun t ht hW => ⟨⟨_, (), rfl, rfl, by rw [ht]; exact hP, hD⟩, hS.F ht⟩) hS.2.2 dX0_grow_27
  · skip
    exact absurd c6 (by omega)

set_option maxHeartbeats 4000000 in
set_option maxRecDepth 100000 in
/-- Graph.join -/
theorem c_join (l : Launch) (dG : va_G) (cI cJ : ClassId) (A : Nat → Prop) (g gA n ec : Nat) (ns : Nat → Int64) (a b : Nat) (ha : a < 48) (hb2 : b < 48) (X : va_W) : Met l yX0_join wsX0_join ({ frames := 1, cells := 0, slots := 0, locals := 20 } : Room) (WPc dG cI cJ [.ref g, .int (nI a), .int (nI b)] (GW cJ g gA (nI n) (nI ec) ns ++ X) A) (va_Qv (S := Unit) (fun _ => True) (fun _ => WB dG A (GW cJ g gA (nI n) (nI (ec + 1)) (jn ns a b) ++ X)) A) 0 0 A := by
  refine Met.ofW (cc := cX0_join) (maxL := 3) (ret := none) (by decide) rfl ?_
  intro p e s m args below meth c s₁ B9 hml hv
  obtain ⟨rfl, hP, hK, hD⟩ := hv
  have hx := B9.exec
  have hb := B9.bytes
  have hr := B9.returns
  have hts := atoms_spec (ws := wsX0_join) B9.pre
  have hown : s.vm.findClass RX0 = some m.cls := findClass_of_methodNamed B9.named
  have hlocks := B9.notSynchronized
  have hS : va_S A s.heap s.heap [] := va_S.rf
  have hl := lv_entry ([.ref g, .int (nI a), .int (nI b)]) (n := 3) (Nat.le_of_ble_eq_true rfl)
  rw [lg_entry_eq]
  generalize (lg_sl ([.ref g, .int (nI a), .int (nI b)]) ++ List.replicate (3 - (lg_sl ([.ref g, .int (nI a), .int (nI b)])).length) Slot.unset).toArray = ls at hl ⊢
  have hl : lv_has ls 3 [(0, .ref g), (1, .int (nI a)), (2, .int (nI b))] := hl
  have hiX0 : ∀ w ∈ wsX00, w ∈ wsX0_join := by decide +kernel
  have hf9 := hts (.fieldLink RX0 9 "LandmarkLea$Graph" "neighbourSets" "[J") (by decide +kernel)
  have hf19 := hts (.fieldLink RX0 19 "LandmarkLea$Graph" "edgeCount" "I") (by decide +kernel)
  refine lv_iload_n hx hb dX0_join_0 rfl (lv_at hl 1 rfl) ?_
  have hPc : va_P dG vwCl [] s.heap := fun k q h => by simp at h
  refine x_ri (va_runSN (As := [.int (nI a)]) (rest := []) ⟨hx, hb, hml, hown, hts⟩ (c_isRow l dG cI cJ a (by omega)) ⟨va_cnB 1 hts gX0_join_X3_isRow_n22 rfl rfl rfl hK.2.1 (hts (.initialized RX3) (by decide +kernel)) (by decide +kernel) ⟨Nat.le_of_ble_eq_true rfl, Nat.le_of_ble_eq_true rfl⟩, hts (.static yX3_isRow) (by decide +kernel), trivial⟩ (RPc.preS hPc hK) rfl rfl hl.1 rfl (lv_room (Nat.le_of_ble_eq_true rfl)) dX0_join_1 ⟨Nat.zero_le _, Nat.zero_le _⟩).run ?_
  refine x_ifeqB (tgt := 48) hx hb dX0_join_4 (by decide) (fun c4 => ?_) (fun c4 => ?_)
  · skip
    exact absurd ha (of_decide_eq_false c4)
  · skip
    refine lv_iload_n hx hb dX0_join_7 rfl (lv_at hl 2 rfl) ?_
    have hPc : va_P dG vwCl [] s.heap := fun k q h => by simp at h
    refine x_ri (va_runSN (As := [.int (nI b)]) (rest := []) ⟨hx, hb, hml, hown, hts⟩ (c_isRow l dG cI cJ b (by omega)) ⟨va_cnB 1 hts gX0_join_X3_isRow_n22 rfl rfl rfl hK.2.1 (hts (.initialized RX3) (by decide +kernel)) (by decide +kernel) ⟨Nat.le_of_ble_eq_true rfl, Nat.le_of_ble_eq_true rfl⟩, hts (.static yX3_isRow) (by decide +kernel), trivial⟩ (RPc.preS hPc hK) rfl rfl hl.1 rfl (lv_room (Nat.le_of_ble_eq_true rfl)) dX0_join_8 ⟨Nat.zero_le _, Nat.zero_le _⟩).run ?_
    refine x_ifeqB (tgt := 48) hx hb dX0_join_11 (by decide) (fun c11 => ?_) (fun c11 => ?_)
    · skip
      exact absurd hb2 (of_decide_eq_false c11)
    · skip
      refine lv_aload_n hx hb dX0_join_14 rfl (lv_at hl 0 rfl) ?_
      refine va_get (D := dG) (ci := 0) (v := .ref gA) (C := RX0) (T := TX0) (N := 3) hx hb hts hiX0 hown hK.1 hP 0 rfl rfl 0 (by decide) hf9 (fun _ h9 => h9) rfl dX0_join_15 ?_
      refine lv_iload_n hx hb dX0_join_18 rfl (lv_at hl 1 rfl) ?_
      refine lv_dup2_11 hx hb dX0_join_19 rfl rfl ?_
      refine x_lald (f := ns) hx hb hK hP 1 rfl (by omega) (by decide) dX0_join_20 ?_
      refine lv_lconst (v := 1) hx hb dX0_join_21 rfl ?_
      refine lv_iload_n hx hb dX0_join_22 rfl (lv_at hl 2 rfl) ?_
      refine lv_lshl (v := (1 <<< ((nI b).toInt64 &&& 63))) hx hb dX0_join_23 rfl ?_
      refine lv_lor hx hb dX0_join_24 ?_
      refine x_last (f := ns) hx hb hK hP hD hS 1 rfl (by omega) (by decide) dX0_join_25 (fun H locs hP hD hS => ?_)
      have hP : va_P dG vwCl (GW cJ g gA (nI n) (nI ec) (vp_updL ns a ((ns a) ||| (1 <<< ((nI b).toInt64 &&& 63)))) ++ X) H := hP
      have hD : va_D A (GW cJ g gA (nI n) (nI ec) (vp_updL ns a ((ns a) ||| (1 <<< ((nI b).toInt64 &&& 63)))) ++ X) := hD
      refine lv_aload_n hx hb dX0_join_26 rfl (lv_at hl 0 rfl) ?_
      refine va_get (D := dG) (ci := 0) (v := .ref gA) (C := RX0) (T := TX0) (N := 3) hx hb hts hiX0 hown hK.1 hP 0 rfl rfl 0 (by decide) hf9 (fun _ h9 => h9) rfl dX0_join_27 ?_
      refine lv_iload_n hx hb dX0_join_30 rfl (lv_at hl 2 rfl) ?_
      refine lv_dup2_11 hx hb dX0_join_31 rfl rfl ?_
      refine x_lald (f := (vp_updL ns a ((ns a) ||| (1 <<< ((nI b).toInt64 &&& 63))))) hx hb hK hP 1 rfl (by omega) (by decide) dX0_join_32 ?_
      refine lv_lconst (v := 1) hx hb dX0_join_33 rfl ?_
      refine lv_iload_n hx hb dX0_join_34 rfl (lv_at hl 1 rfl) ?_
      refine lv_lshl (v := (1 <<< ((nI a).toInt64 &&& 63))) hx hb dX0_join_35 rfl ?_
      refine lv_lor hx hb dX0_join_36 ?_
      refine x_last (f := (vp_updL ns a ((ns a) ||| (1 <<< ((nI b).toInt64 &&& 63))))) hx hb hK hP hD hS 1 rfl (by omega) (by decide) dX0_join_37 (fun H locs hP hD hS => ?_)
      have hP : va_P dG vwCl (GW cJ g gA (nI n) (nI ec) (vp_updL (vp_updL ns a ((ns a) ||| (1 <<< ((nI b).toInt64 &&& 63)))) b (((vp_updL ns a ((ns a) ||| (1 <<< ((nI b).toInt64 &&& 63)))) b) ||| (1 <<< ((nI a).toInt64 &&& 63)))) ++ X) H := hP
      have hD : va_D A (GW cJ g gA (nI n) (nI ec) (vp_updL (vp_updL ns a ((ns a) ||| (1 <<< ((nI b).toInt64 &&& 63)))) b (((vp_updL ns a ((ns a) ||| (1 <<< ((nI b).toInt64 &&& 63)))) b) ||| (1 <<< ((nI a).toInt64 &&& 63)))) ++ X) := hD
      refine lv_aload_n hx hb dX0_join_38 rfl (lv_at hl 0 rfl) ?_
      refine lv_dup hx hb dX0_join_39 rfl ?_
      refine va_get (D := dG) (ci := 0) (v := .int (nI ec)) (C := RX0) (T := TX0) (N := 3) hx hb hts hiX0 hown hK.1 hP 0 rfl rfl 2 (by decide) hf19 (fun _ h9 => h9) rfl dX0_join_40 ?_
      refine lv_iconst (v := (nI 1)) hx hb dX0_join_43 (by decide) ?_
      refine x_addN (i := ec) (j := 1) hx hb dX0_join_44 ?_
      refine va_put (D := dG) (ci := 0) (v := .int (nI (ec + 1))) (ty := .int) (C := RX0) (T := TX0) (N := 3) hx hb hts hiX0 tyX0 tyX0_ok nmX0 hown hK.1 hP hD hS 0 rfl rfl 2 (by decide) hf19 (fun _ h9 => h9) rfl (by decide +kernel) rfl rfl (Nat.le_of_ble_eq_true rfl) dX0_join_45 (fun H locs hP hD hS => ?_)
      have hP : va_P dG vwCl (GW cJ g gA (nI n) (nI (ec + 1)) (vp_updL (vp_updL ns a ((ns a) ||| (1 <<< ((nI b).toInt64 &&& 63)))) b (((vp_updL ns a ((ns a) ||| (1 <<< ((nI b).toInt64 &&& 63)))) b) ||| (1 <<< ((nI a).toInt64 &&& 63)))) ++ X) H := hP
      have hD : va_D A (GW cJ g gA (nI n) (nI (ec + 1)) (vp_updL (vp_updL ns a ((ns a) ||| (1 <<< ((nI b).toInt64 &&& 63)))) b (((vp_updL ns a ((ns a) ||| (1 <<< ((nI b).toInt64 &&& 63)))) b) ||| (1 <<< ((nI a).toInt64 &&& 63)))) ++ X) := hD
      exact W.vret hx hb hr (fun t ht hW => ⟨⟨(), rfl, trivial, by rw [ht]; exact hP, hD⟩, hS.F ht⟩) hS.2.2 dX0_join_48

set_option maxHeartbeats 4000000 in
set_option maxRecDepth 100000 in
/-- Graph.cutAll -/
theorem c_cutAll (l : Launch) (dG : va_G) (cI cJ : ClassId) (A : Nat → Prop) (g gA n ec : Nat) (ns : Nat → Int64) (X : va_W) : Met l yX0_cutAll wsX0_cutAll ({ frames := 0, cells := 0, slots := 0, locals := 0 } : Room) (WPc dG cI cJ [.ref g] (GW cJ g gA (nI n) (nI ec) ns ++ X) A) (va_Qv (S := Unit) (fun _ => True) (fun _ => WB dG A (GW cJ g gA (nI n) (nI 0) (cut0 ns 48) ++ X)) A) 0 0 A := by
  refine Met.ofW (cc := cX0_cutAll) (maxL := 2) (ret := none) (by decide) rfl ?_
  intro p e s m args below meth c s₁ B9 hml hv
  obtain ⟨rfl, hP, hK, hD⟩ := hv
  have hx := B9.exec
  have hb := B9.bytes
  have hr := B9.returns
  have hts := atoms_spec (ws := wsX0_cutAll) B9.pre
  have hown : s.vm.findClass RX0 = some m.cls := findClass_of_methodNamed B9.named
  have hlocks := B9.notSynchronized
  have hS : va_S A s.heap s.heap [] := va_S.rf
  have hl := lv_entry ([.ref g]) (n := 2) (Nat.le_of_ble_eq_true rfl)
  rw [lg_entry_eq]
  generalize (lg_sl ([.ref g]) ++ List.replicate (2 - (lg_sl ([.ref g])).length) Slot.unset).toArray = ls at hl ⊢
  have hl : lv_has ls 2 [(0, .ref g)] := hl
  have hiX0 : ∀ w ∈ wsX00, w ∈ wsX0_cutAll := by decide +kernel
  have hf9 := hts (.fieldLink RX0 9 "LandmarkLea$Graph" "neighbourSets" "[J") (by decide +kernel)
  have hf19 := hts (.fieldLink RX0 19 "LandmarkLea$Graph" "edgeCount" "I") (by decide +kernel)
  refine lv_iconst (v := (nI 0)) hx hb dX0_cutAll_0 (by decide) ?_
  refine lv_istore_n (lv' := [(1, .int (nI 0)), (0, .ref g)]) hx hb dX0_cutAll_1 rfl hl (by decide) rfl (fun ls hl => ?_)
  rw [← cut0_0 ns] at hP hD
  have loop : ∀ (QQ : State → Prop) (n1 : Nat) (k : Nat), 48 < k + n1 → k ≤ 48 → (∀ (H : Heap) (locs : List Loc), va_P dG vwCl (GW cJ g gA (nI n) (nI ec) (cut0 ns 48) ++ X) H → va_D A (GW cJ g gA (nI n) (nI ec) (cut0 ns 48) ++ X) → va_S A s.heap H locs → ∀ ls : Array Slot, lv_has ls 2 [(0, .ref g), (1, .int (nI 48))] → W p l e ({ frames := 0, cells := 0, slots := 0, locals := 0 } : Room) s m ([.ref g] : List Value).toArray below meth c H locs 0 0 QQ (F0 m 24 ls [])) → ∀ (H : Heap) (locs : List Loc), va_P dG vwCl (GW cJ g gA (nI n) (nI ec) (cut0 ns k) ++ X) H → va_D A (GW cJ g gA (nI n) (nI ec) (cut0 ns k) ++ X) → va_S A s.heap H locs → ∀ ls : Array Slot, lv_has ls 2 [(0, .ref g), (1, .int (nI k))] → W p l e ({ frames := 0, cells := 0, slots := 0, locals := 0 } : Room) s m ([.ref g] : List Value).toArray below meth c H locs 0 0 QQ (F0 m 2 ls []) := by
    intro QQ n1
    induction n1 with
    | zero => intro k h1 h2; exact absurd h1 (by omega)
    | succ n1 ih =>
      intro k h1 h2 kx H locs hP hD hS ls hl
      refine lv_iload_n hx hb dX0_cutAll_2 rfl (lv_at hl 1 rfl) ?_
      refine lv_aload_n hx hb dX0_cutAll_3 rfl (lv_at hl 0 rfl) ?_
      refine va_get (D := dG) (ci := 0) (v := .ref gA) (C := RX0) (T := TX0) (N := 3) hx hb hts hiX0 hown hK.1 hP 0 rfl rfl 0 (by decide) hf9 (fun _ h9 => h9) rfl dX0_cutAll_4 ?_
      refine va_alen hx hb hK.1 hP 1 1 rfl rfl (v := nI 48) rfl dX0_cutAll_7 ?_
      refine x_icmp_geN (i := k) (j := 48) (tgt := 24) hx hb (by omega) (by omega) dX0_cutAll_8 (by decide) (fun c8 => ?_) (fun c8 => ?_)
      · skip
        have ek : k = 48 := by omega
        subst ek
        exact kx  H locs hP hD hS ls (lv_sub hl [0, 1] rfl)
      · skip
        refine lv_aload_n hx hb dX0_cutAll_11 rfl (lv_at hl 0 rfl) ?_
        refine va_get (D := dG) (ci := 0) (v := .ref gA) (C := RX0) (T := TX0) (N := 3) hx hb hts hiX0 hown hK.1 hP 0 rfl rfl 0 (by decide) hf9 (fun _ h9 => h9) rfl dX0_cutAll_12 ?_
        refine lv_iload_n hx hb dX0_cutAll_15 rfl (lv_at hl 1 rfl) ?_
        refine lv_lconst (v := 0) hx hb dX0_cutAll_16 rfl ?_
        refine x_last (f := (cut0 ns k)) hx hb hK hP hD hS 1 rfl (by omega) (by decide) dX0_cutAll_17 (fun H locs hP hD hS => ?_)
        have hP : va_P dG vwCl (GW cJ g gA (nI n) (nI ec) (vp_updL (cut0 ns k) k 0) ++ X) H := hP
        have hD : va_D A (GW cJ g gA (nI n) (nI ec) (vp_updL (cut0 ns k) k 0) ++ X) := hD
        refine x_iincN (lv' := [(1, .int (nI (k + 1))), (0, .ref g)]) hx hb dX0_cutAll_18 hl (k := 1) rfl (by decide) rfl (fun ls hl => ?_)
        refine lv_goto (tgt := 2) hx hb dX0_cutAll_21 (by decide) ?_
        rw [cut0_s] at hP hD
        exact ih (k + 1) (by omega) (by omega) kx H locs hP hD hS ls (lv_sub hl [1, 0] rfl)
  refine loop _ 49 0 (by omega) (by omega) (fun  H locs hP hD hS ls hl => ?_) s.heap [] hP hD hS ls (lv_sub hl [1, 0] rfl)
  refine lv_aload_n hx hb dX0_cutAll_24 rfl (lv_at hl 0 rfl) ?_
  refine lv_iconst (v := (nI 0)) hx hb dX0_cutAll_25 (by decide) ?_
  refine va_put (D := dG) (ci := 0) (v := .int (nI 0)) (ty := .int) (C := RX0) (T := TX0) (N := 3) hx hb hts hiX0 tyX0 tyX0_ok nmX0 hown hK.1 hP hD hS 0 rfl rfl 2 (by decide) hf19 (fun _ h9 => h9) rfl (by decide +kernel) rfl rfl (Nat.le_of_ble_eq_true rfl) dX0_cutAll_26 (fun H locs hP hD hS => ?_)
  have hP : va_P dG vwCl (GW cJ g gA (nI n) (nI 0) (cut0 ns 48) ++ X) H := hP
  have hD : va_D A (GW cJ g gA (nI n) (nI 0) (cut0 ns 48) ++ X) := hD
  exact W.vret hx hb hr (fun t ht hW => ⟨⟨(), rfl, trivial, by rw [ht]; exact hP, hD⟩, hS.F ht⟩) hS.2.2 dX0_cutAll_29
