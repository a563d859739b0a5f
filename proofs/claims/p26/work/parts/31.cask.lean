/-! the class's askers, where they don't throw -/
/-- the class's own cell -/
abbrev XW (x g lb se tl ts : Nat) (bd : Int32) : va_W := [(x, .inr (3, [.ref g, .ref lb, .ref se, .ref tl, .ref ts, .int bd]))]
set_option maxHeartbeats 4000000 in
set_option maxRecDepth 100000 in
theorem c_requireVertex (l : Launch) (dG : va_G) (cI cJ : ClassId) (xo tl ts : Nat) (bt : Bool) (se : Nat) (g gA n ec : Nat) (ns : Nat → Int64) (lb aR aV aH aD aP : Nat) (rk vb : Nat → Int32) (rc : Int32) (hs : Nat → Int64) (D Pp : Nat → Int32) (hn : n ≤ 48) (v : Nat) (hv : v < n) : Met l yX3_requireVertex wsX3_requireVertex ({ frames := 1, cells := 0, slots := 0, locals := 21 } : Room) (RPc dG cI cJ [.ref xo, .int (nI v)] (XW xo g lb se tl ts (bI bt) ++ (GW cJ g gA (nI n) (nI ec) ns ++ (LW cI cJ lb aR aV aH aD aP rk vb rc hs D Pp)))) (va_Sv (fun _ => True)) 0 0 (fun _ => False) := by
  refine Met.ofW (cc := cX3_requireVertex) (maxL := 2) (ret := none) (by decide) rfl ?_
  intro p e s m args below meth c s₁ B9 hml hv
  obtain ⟨rfl, hP, hK⟩ := hv
  have hx := B9.exec
  have hb := B9.bytes
  have hr := B9.returns
  have hts := atoms_spec (ws := wsX3_requireVertex) B9.pre
  have hown : s.vm.findClass RX3 = some m.cls := findClass_of_methodNamed B9.named
  have hlocks := B9.notSynchronized
  have hl := lv_entry ([.ref xo, .int (nI v)]) (n := 2) (Nat.le_of_ble_eq_true rfl)
  rw [lg_entry_eq]
  generalize (lg_sl ([.ref xo, .int (nI v)]) ++ List.replicate (2 - (lg_sl ([.ref xo, .int (nI v)])).length) Slot.unset).toArray = ls at hl ⊢
  have hl : lv_has ls 2 [(0, .ref xo), (1, .int (nI v))] := hl
  have hiX3 : ∀ w ∈ wsX30, w ∈ wsX3_requireVertex := by decide +kernel
  have hf10 := hts (.fieldLink RX3 10 "LandmarkLea" "graph" "LLandmarkLea$Graph;") (by decide +kernel)
  refine lv_aload_n hx hb dX3_requireVertex_0 rfl (lv_at hl 0 rfl) ?_
  refine va_get (D := dG) (ci := 3) (v := .ref g) (C := RX3) (T := TX3) (N := 6) hx hb hts hiX3 hown hK.1 hP 0 rfl rfl 0 (by decide) hf10 (fun _ h9 => h9) rfl dX3_requireVertex_1 ?_
  refine lv_iload_n hx hb dX3_requireVertex_4 rfl (lv_at hl 1 rfl) ?_
  have hPc := hP.sub (ws' := (GW cJ g gA (nI n) (nI ec) ns)) [1, 2] rfl
  refine x_ri (W.runV (As := [.int (nI v)]) (rest := []) ⟨hx, hb, hml, hown, hts⟩ (c_has l dG cI cJ g gA n ec ns (by omega) (nI v)) (cwV 1 hts gX3_requireVertex_X0_has rfl rfl rfl (by decide +kernel) ⟨Nat.le_of_ble_eq_true rfl, Nat.le_of_ble_eq_true rfl⟩) (RPc.pre hPc hK (va_recv hK.1 hPc (ci := 0) (q0 := 0) rfl rfl)) rfl rfl hl.1 rfl (lv_room (Nat.le_of_ble_eq_true rfl)) dX3_requireVertex_5 ⟨Nat.zero_le _, Nat.zero_le _⟩) ?_
  refine x_ifneB (tgt := 21) hx hb dX3_requireVertex_8 (by decide) (fun c8 => ?_) (fun c8 => ?_)
  · skip
    exact W.vret hx hb hr (fun t ht hW => ⟨rfl, trivial, ht⟩) (fun _ h => nomatch h) dX3_requireVertex_21
  · skip
    rw [inV_nI (by omega), decide_eq_true hv] at c8; cases c8

set_option maxHeartbeats 4000000 in
set_option maxRecDepth 100000 in
theorem c_requireRoomFor (l : Launch) (dG : va_G) (cI cJ : ClassId) (xo tl ts : Nat) (bt : Bool) (se : Nat) (g gA n ec : Nat) (ns : Nat → Int64) (lb aR aV aH aD aP : Nat) (rk vb : Nat → Int32) (rc : Int32) (hs : Nat → Int64) (D Pp : Nat → Int32) (hn : n ≤ 48) (k : Nat) (hk : n + k ≤ 48) : Met l yX3_requireRoomFor wsX3_requireRoomFor ({ frames := 1, cells := 0, slots := 0, locals := 20 } : Room) (RPc dG cI cJ [.ref xo, .int (nI k)] (XW xo g lb se tl ts (bI bt) ++ (GW cJ g gA (nI n) (nI ec) ns ++ (LW cI cJ lb aR aV aH aD aP rk vb rc hs D Pp)))) (va_Sv (fun _ => True)) 0 0 (fun _ => False) := by
  refine Met.ofW (cc := cX3_requireRoomFor) (maxL := 2) (ret := none) (by decide) rfl ?_
  intro p e s m args below meth c s₁ B9 hml hv
  obtain ⟨rfl, hP, hK⟩ := hv
  have hx := B9.exec
  have hb := B9.bytes
  have hr := B9.returns
  have hts := atoms_spec (ws := wsX3_requireRoomFor) B9.pre
  have hown : s.vm.findClass RX3 = some m.cls := findClass_of_methodNamed B9.named
  have hlocks := B9.notSynchronized
  have hl := lv_entry ([.ref xo, .int (nI k)]) (n := 2) (Nat.le_of_ble_eq_true rfl)
  rw [lg_entry_eq]
  generalize (lg_sl ([.ref xo, .int (nI k)]) ++ List.replicate (2 - (lg_sl ([.ref xo, .int (nI k)])).length) Slot.unset).toArray = ls at hl ⊢
  have hl : lv_has ls 2 [(0, .ref xo), (1, .int (nI k))] := hl
  have hiX3 : ∀ w ∈ wsX30, w ∈ wsX3_requireRoomFor := by decide +kernel
  have hf10 := hts (.fieldLink RX3 10 "LandmarkLea" "graph" "LLandmarkLea$Graph;") (by decide +kernel)
  refine lv_iload_n hx hb dX3_requireRoomFor_0 rfl (lv_at hl 1 rfl) ?_
  refine lv_bipush (v := (nI 48)) hx hb dX3_requireRoomFor_1 (by decide) ?_
  refine lv_aload_n hx hb dX3_requireRoomFor_3 rfl (lv_at hl 0 rfl) ?_
  refine va_get (D := dG) (ci := 3) (v := .ref g) (C := RX3) (T := TX3) (N := 6) hx hb hts hiX3 hown hK.1 hP 0 rfl rfl 0 (by decide) hf10 (fun _ h9 => h9) rfl dX3_requireRoomFor_4 ?_
  have hPc := hP.sub (ws' := (GW cJ g gA (nI n) (nI ec) ns)) [1, 2] rfl
  refine x_ri (W.runV (As := []) (rest := [.int (nI 48), .int (nI k)]) ⟨hx, hb, hml, hown, hts⟩ (c_size l dG cI cJ g gA n ec ns) (cwV 0 hts gX3_requireRoomFor_X0_size rfl rfl rfl (by decide +kernel) ⟨Nat.le_of_ble_eq_true rfl, Nat.le_of_ble_eq_true rfl⟩) (RPc.pre hPc hK (va_recv hK.1 hPc (ci := 0) (q0 := 0) rfl rfl)) rfl rfl hl.1 rfl (lv_room (Nat.le_of_ble_eq_true rfl)) dX3_requireRoomFor_7 ⟨Nat.zero_le _, Nat.zero_le _⟩) ?_
  refine x_subN (i := 48) (j := n) hx hb (by omega) dX3_requireRoomFor_10 ?_
  refine x_icmp_leN (i := k) (j := (48 - n)) (tgt := 24) hx hb (by omega) (by omega) dX3_requireRoomFor_11 (by decide) (fun c11 => ?_) (fun c11 => ?_)
  · skip
    exact W.vret hx hb hr (fun t ht hW => ⟨rfl, trivial, ht⟩) (fun _ h => nomatch h) dX3_requireRoomFor_24
  · skip
    exact absurd c11 (by omega)

set_option maxHeartbeats 4000000 in
set_option maxRecDepth 100000 in
theorem c_requireLabelsOf (l : Launch) (dG : va_G) (cI cJ : ClassId) (xo tl ts : Nat) (bt : Bool) (se : Nat) (g gA n ec : Nat) (ns : Nat → Int64) (lb aR aV aH aD aP : Nat) (rk vb : Nat → Int32) (rc : Int32) (hs : Nat → Int64) (D Pp : Nat → Int32) (hn : n ≤ 48) (u v : Nat) (hu : u < n) (hv : v < n) (hbt : bt = true) : Met l yX3_requireLabelsOf wsX3_requireLabelsOf ({ frames := 2, cells := 0, slots := 0, locals := 42 } : Room) (RPc dG cI cJ [.ref xo, .int (nI u), .int (nI v)] (XW xo g lb se tl ts (bI bt) ++ (GW cJ g gA (nI n) (nI ec) ns ++ (LW cI cJ lb aR aV aH aD aP rk vb rc hs D Pp)))) (va_Sv (fun _ => True)) 0 0 (fun _ => False) := by
  refine Met.ofW (cc := cX3_requireLabelsOf) (maxL := 3) (ret := none) (by decide) rfl ?_
  intro p e s m args below meth c s₁ B9 hml hv
  obtain ⟨rfl, hP, hK⟩ := hv
  have hx := B9.exec
  have hb := B9.bytes
  have hr := B9.returns
  have hts := atoms_spec (ws := wsX3_requireLabelsOf) B9.pre
  have hown : s.vm.findClass RX3 = some m.cls := findClass_of_methodNamed B9.named
  have hlocks := B9.notSynchronized
  have hl := lv_entry ([.ref xo, .int (nI u), .int (nI v)]) (n := 3) (Nat.le_of_ble_eq_true rfl)
  rw [lg_entry_eq]
  generalize (lg_sl ([.ref xo, .int (nI u), .int (nI v)]) ++ List.replicate (3 - (lg_sl ([.ref xo, .int (nI u), .int (nI v)])).length) Slot.unset).toArray = ls at hl ⊢
  have hl : lv_has ls 3 [(0, .ref xo), (1, .int (nI u)), (2, .int (nI v))] := hl
  have hiX3 : ∀ w ∈ wsX30, w ∈ wsX3_requireLabelsOf := by decide +kernel
  have hf38 := hts (.fieldLink RX3 38 "LandmarkLea" "labelled" "Z") (by decide +kernel)
  refine lv_aload_n hx hb dX3_requireLabelsOf_0 rfl (lv_at hl 0 rfl) ?_
  refine lv_iload_n hx hb dX3_requireLabelsOf_1 rfl (lv_at hl 1 rfl) ?_
  have hPc := hP.sub (ws' := (XW xo g lb se tl ts (bI bt) ++ (GW cJ g gA (nI n) (nI ec) ns ++ (LW cI cJ lb aR aV aH aD aP rk vb rc hs D Pp)))) [0, 1, 2, 3, 4, 5, 6, 7, 8] rfl
  refine x_rv (W.runV (As := [.int (nI u)]) (rest := []) ⟨hx, hb, hml, hown, hts⟩ (c_requireVertex l dG cI cJ xo tl ts bt se g gA n ec ns lb aR aV aH aD aP rk vb rc hs D Pp hn u (by omega)) (cwV 1 hts gX3_requireLabelsOf_X3_requireVertex rfl rfl rfl (by decide +kernel) ⟨Nat.le_of_ble_eq_true rfl, Nat.le_of_ble_eq_true rfl⟩) (RPc.pre hPc hK (va_recv hK.1 hPc (ci := 3) (q0 := 0) rfl rfl)) rfl rfl hl.1 rfl (lv_room (Nat.le_of_ble_eq_true rfl)) dX3_requireLabelsOf_2 ⟨Nat.zero_le _, Nat.zero_le _⟩) ?_
  refine lv_aload_n hx hb dX3_requireLabelsOf_5 rfl (lv_at hl 0 rfl) ?_
  refine lv_iload_n hx hb dX3_requireLabelsOf_6 rfl (lv_at hl 2 rfl) ?_
  have hPc := hP.sub (ws' := (XW xo g lb se tl ts (bI bt) ++ (GW cJ g gA (nI n) (nI ec) ns ++ (LW cI cJ lb aR aV aH aD aP rk vb rc hs D Pp)))) [0, 1, 2, 3, 4, 5, 6, 7, 8] rfl
  refine x_rv (W.runV (As := [.int (nI v)]) (rest := []) ⟨hx, hb, hml, hown, hts⟩ (c_requireVertex l dG cI cJ xo tl ts bt se g gA n ec ns lb aR aV aH aD aP rk vb rc hs D Pp hn v (by omega)) (cwV 1 hts gX3_requireLabelsOf_X3_requireVertex rfl rfl rfl (by decide +kernel) ⟨Nat.le_of_ble_eq_true rfl, Nat.le_of_ble_eq_true rfl⟩) (RPc.pre hPc hK (va_recv hK.1 hPc (ci := 3) (q0 := 0) rfl rfl)) rfl rfl hl.1 rfl (lv_room (Nat.le_of_ble_eq_true rfl)) dX3_requireLabelsOf_7 ⟨Nat.zero_le _, Nat.zero_le _⟩) ?_
  refine lv_aload_n hx hb dX3_requireLabelsOf_10 rfl (lv_at hl 0 rfl) ?_
  refine va_get (D := dG) (ci := 3) (v := .int (bI bt)) (C := RX3) (T := TX3) (N := 6) hx hb hts hiX3 hown hK.1 hP 0 rfl rfl 5 (by decide) hf38 (fun _ h9 => h9) rfl dX3_requireLabelsOf_11 ?_
  refine x_ifneB (tgt := 27) hx hb dX3_requireLabelsOf_14 (by decide) (fun c14 => ?_) (fun c14 => ?_)
  · skip
    exact W.vret hx hb hr (fun t ht hW => ⟨rfl, trivial, ht⟩) (fun _ h => nomatch h) dX3_requireLabelsOf_27
  · skip
    rw [hbt] at c14; cases c14

set_option maxHeartbeats 4000000 in
set_option maxRecDepth 100000 in
theorem c_vertices (l : Launch) (dG : va_G) (cI cJ : ClassId) (xo tl ts : Nat) (bt : Bool) (se : Nat) (g gA n ec : Nat) (ns : Nat → Int64) (lb aR aV aH aD aP : Nat) (rk vb : Nat → Int32) (rc : Int32) (hs : Nat → Int64) (D Pp : Nat → Int32) (hn : n ≤ 48) : Met l yX3_vertices wsX3_vertices ({ frames := 1, cells := 0, slots := 0, locals := 20 } : Room) (RPc dG cI cJ [.ref xo] (XW xo g lb se tl ts (bI bt) ++ (GW cJ g gA (nI n) (nI ec) ns ++ (LW cI cJ lb aR aV aH aD aP rk vb rc hs D Pp)))) (vp_Si (fun r9 => r9 = (nI n))) 0 0 (fun _ => False) := by
  refine Met.ofW (cc := cX3_vertices) (maxL := 1) (ret := (some .int)) (by decide) rfl ?_
  intro p e s m args below meth c s₁ B9 hml hv
  obtain ⟨rfl, hP, hK⟩ := hv
  have hx := B9.exec
  have hb := B9.bytes
  have hr := B9.returns
  have hts := atoms_spec (ws := wsX3_vertices) B9.pre
  have hown : s.vm.findClass RX3 = some m.cls := findClass_of_methodNamed B9.named
  have hlocks := B9.notSynchronized
  have hl := lv_entry ([.ref xo]) (n := 1) (Nat.le_of_ble_eq_true rfl)
  rw [lg_entry_eq]
  generalize (lg_sl ([.ref xo]) ++ List.replicate (1 - (lg_sl ([.ref xo])).length) Slot.unset).toArray = ls at hl ⊢
  have hl : lv_has ls 1 [(0, .ref xo)] := hl
  have hiX3 : ∀ w ∈ wsX30, w ∈ wsX3_vertices := by decide +kernel
  have hf10 := hts (.fieldLink RX3 10 "LandmarkLea" "graph" "LLandmarkLea$Graph;") (by decide +kernel)
  refine lv_aload_n hx hb dX3_vertices_0 rfl (lv_at hl 0 rfl) ?_
  refine va_get (D := dG) (ci := 3) (v := .ref g) (C := RX3) (T := TX3) (N := 6) hx hb hts hiX3 hown hK.1 hP 0 rfl rfl 0 (by decide) hf10 (fun _ h9 => h9) rfl dX3_vertices_1 ?_
  have hPc := hP.sub (ws' := (GW cJ g gA (nI n) (nI ec) ns)) [1, 2] rfl
  refine x_ri (W.runV (As := []) (rest := []) ⟨hx, hb, hml, hown, hts⟩ (c_size l dG cI cJ g gA n ec ns) (cwV 0 hts gX3_vertices_X0_size rfl rfl rfl (by decide +kernel) ⟨Nat.le_of_ble_eq_true rfl, Nat.le_of_ble_eq_true rfl⟩) (RPc.pre hPc hK (va_recv hK.1 hPc (ci := 0) (q0 := 0) rfl rfl)) rfl rfl hl.1 rfl (lv_room (Nat.le_of_ble_eq_true rfl)) dX3_vertices_4 ⟨Nat.zero_le _, Nat.zero_le _⟩) ?_
  exact W.iret (v := (nI n)) hx hb hr (fun t ht hW => ⟨_, rfl, rfl, ht⟩) (fun _ h => nomatch h) dX3_vertices_7

set_option maxHeartbeats 4000000 in
set_option maxRecDepth 100000 in
theorem c_edges (l : Launch) (dG : va_G) (cI cJ : ClassId) (xo tl ts : Nat) (bt : Bool) (se : Nat) (g gA n ec : Nat) (ns : Nat → Int64) (lb aR aV aH aD aP : Nat) (rk vb : Nat → Int32) (rc : Int32) (hs : Nat → Int64) (D Pp : Nat → Int32) (hn : n ≤ 48) : Met l yX3_edges wsX3_edges ({ frames := 1, cells := 0, slots := 0, locals := 20 } : Room) (RPc dG cI cJ [.ref xo] (XW xo g lb se tl ts (bI bt) ++ (GW cJ g gA (nI n) (nI ec) ns ++ (LW cI cJ lb aR aV aH aD aP rk vb rc hs D Pp)))) (vp_Si (fun r9 => r9 = (nI ec))) 0 0 (fun _ => False) := by
  refine Met.ofW (cc := cX3_edges) (maxL := 1) (ret := (some .int)) (by decide) rfl ?_
  intro p e s m args below meth c s₁ B9 hml hv
  obtain ⟨rfl, hP, hK⟩ := hv
  have hx := B9.exec
  have hb := B9.bytes
  have hr := B9.returns
  have hts := atoms_spec (ws := wsX3_edges) B9.pre
  have hown : s.vm.findClass RX3 = some m.cls := findClass_of_methodNamed B9.named
  have hlocks := B9.notSynchronized
  have hl := lv_entry ([.ref xo]) (n := 1) (Nat.le_of_ble_eq_true rfl)
  rw [lg_entry_eq]
  generalize (lg_sl ([.ref xo]) ++ List.replicate (1 - (lg_sl ([.ref xo])).length) Slot.unset).toArray = ls at hl ⊢
  have hl : lv_has ls 1 [(0, .ref xo)] := hl
  have hiX3 : ∀ w ∈ wsX30, w ∈ wsX3_edges := by decide +kernel
  have hf10 := hts (.fieldLink RX3 10 "LandmarkLea" "graph" "LLandmarkLea$Graph;") (by decide +kernel)
  refine lv_aload_n hx hb dX3_edges_0 rfl (lv_at hl 0 rfl) ?_
  refine va_get (D := dG) (ci := 3) (v := .ref g) (C := RX3) (T := TX3) (N := 6) hx hb hts hiX3 hown hK.1 hP 0 rfl rfl 0 (by decide) hf10 (fun _ h9 => h9) rfl dX3_edges_1 ?_
  have hPc := hP.sub (ws' := (GW cJ g gA (nI n) (nI ec) ns)) [1, 2] rfl
  refine x_ri (W.runV (As := []) (rest := []) ⟨hx, hb, hml, hown, hts⟩ (c_countOfEdges l dG cI cJ g gA n ec ns) (cwV 0 hts gX3_edges_X0_countOfEdges rfl rfl rfl (by decide +kernel) ⟨Nat.le_of_ble_eq_true rfl, Nat.le_of_ble_eq_true rfl⟩) (RPc.pre hPc hK (va_recv hK.1 hPc (ci := 0) (q0 := 0) rfl rfl)) rfl rfl hl.1 rfl (lv_room (Nat.le_of_ble_eq_true rfl)) dX3_edges_4 ⟨Nat.zero_le _, Nat.zero_le _⟩) ?_
  exact W.iret (v := (nI ec)) hx hb hr (fun t ht hW => ⟨_, rfl, rfl, ht⟩) (fun _ h => nomatch h) dX3_edges_7

set_option maxHeartbeats 4000000 in
set_option maxRecDepth 100000 in
theorem c_isBuilt (l : Launch) (dG : va_G) (cI cJ : ClassId) (xo tl ts : Nat) (bt : Bool) (se : Nat) (g gA n ec : Nat) (ns : Nat → Int64) (lb aR aV aH aD aP : Nat) (rk vb : Nat → Int32) (rc : Int32) (hs : Nat → Int64) (D Pp : Nat → Int32) (hn : n ≤ 48) : Met l yX3_isBuilt wsX3_isBuilt ({ frames := 0, cells := 0, slots := 0, locals := 0 } : Room) (RPc dG cI cJ [.ref xo] (XW xo g lb se tl ts (bI bt) ++ (GW cJ g gA (nI n) (nI ec) ns ++ (LW cI cJ lb aR aV aH aD aP rk vb rc hs D Pp)))) (vp_Si (fun r9 => r9 = (bI bt))) 0 0 (fun _ => False) := by
  refine Met.ofW (cc := cX3_isBuilt) (maxL := 1) (ret := (some .boolean)) (by decide) rfl ?_
  intro p e s m args below meth c s₁ B9 hml hv
  obtain ⟨rfl, hP, hK⟩ := hv
  have hx := B9.exec
  have hb := B9.bytes
  have hr := B9.returns
  have hts := atoms_spec (ws := wsX3_isBuilt) B9.pre
  have hown : s.vm.findClass RX3 = some m.cls := findClass_of_methodNamed B9.named
  have hlocks := B9.notSynchronized
  have hl := lv_entry ([.ref xo]) (n := 1) (Nat.le_of_ble_eq_true rfl)
  rw [lg_entry_eq]
  generalize (lg_sl ([.ref xo]) ++ List.replicate (1 - (lg_sl ([.ref xo])).length) Slot.unset).toArray = ls at hl ⊢
  have hl : lv_has ls 1 [(0, .ref xo)] := hl
  have hiX3 : ∀ w ∈ wsX30, w ∈ wsX3_isBuilt := by decide +kernel
  have hf38 := hts (.fieldLink RX3 38 "LandmarkLea" "labelled" "Z") (by decide +kernel)
  refine lv_aload_n hx hb dX3_isBuilt_0 rfl (lv_at hl 0 rfl) ?_
  refine va_get (D := dG) (ci := 3) (v := .int (bI bt)) (C := RX3) (T := TX3) (N := 6) hx hb hts hiX3 hown hK.1 hP 0 rfl rfl 5 (by decide) hf38 (fun _ h9 => h9) rfl dX3_isBuilt_1 ?_
  exact W.zret (v := (bI bt)) (ty := .boolean) hx hb hr (bI_narrow _) (fun t ht hW => ⟨_, rfl, rfl, ht⟩) (fun _ h => nomatch h) dX3_isBuilt_4

set_option maxHeartbeats 4000000 in
set_option maxRecDepth 100000 in
theorem c_neighbours (l : Launch) (dG : va_G) (cI cJ : ClassId) (xo tl ts : Nat) (bt : Bool) (se : Nat) (g gA n ec : Nat) (ns : Nat → Int64) (lb aR aV aH aD aP : Nat) (rk vb : Nat → Int32) (rc : Int32) (hs : Nat → Int64) (D Pp : Nat → Int32) (hn : n ≤ 48) (u : Nat) (hu : u < n) : Met l yX3_neighbours wsX3_neighbours ({ frames := 2, cells := 0, slots := 0, locals := 42 } : Room) (RPc dG cI cJ [.ref xo, .int (nI u)] (XW xo g lb se tl ts (bI bt) ++ (GW cJ g gA (nI n) (nI ec) ns ++ (LW cI cJ lb aR aV aH aD aP rk vb rc hs D Pp)))) (vp_Sl (fun r9 => r9 = (ns u))) 0 0 (fun _ => False) := by
  refine Met.ofW (cc := cX3_neighbours) (maxL := 2) (ret := (some .long)) (by decide) rfl ?_
  intro p e s m args below meth c s₁ B9 hml hv
  obtain ⟨rfl, hP, hK⟩ := hv
  have hx := B9.exec
  have hb := B9.bytes
  have hr := B9.returns
  have hts := atoms_spec (ws := wsX3_neighbours) B9.pre
  have hown : s.vm.findClass RX3 = some m.cls := findClass_of_methodNamed B9.named
  have hlocks := B9.notSynchronized
  have hl := lv_entry ([.ref xo, .int (nI u)]) (n := 2) (Nat.le_of_ble_eq_true rfl)
  rw [lg_entry_eq]
  generalize (lg_sl ([.ref xo, .int (nI u)]) ++ List.replicate (2 - (lg_sl ([.ref xo, .int (nI u)])).length) Slot.unset).toArray = ls at hl ⊢
  have hl : lv_has ls 2 [(0, .ref xo), (1, .int (nI u))] := hl
  have hiX3 : ∀ w ∈ wsX30, w ∈ wsX3_neighbours := by decide +kernel
  have hf10 := hts (.fieldLink RX3 10 "LandmarkLea" "graph" "LLandmarkLea$Graph;") (by decide +kernel)
  refine lv_aload_n hx hb dX3_neighbours_0 rfl (lv_at hl 0 rfl) ?_
  refine lv_iload_n hx hb dX3_neighbours_1 rfl (lv_at hl 1 rfl) ?_
  have hPc := hP.sub (ws' := (XW xo g lb se tl ts (bI bt) ++ (GW cJ g gA (nI n) (nI ec) ns ++ (LW cI cJ lb aR aV aH aD aP rk vb rc hs D Pp)))) [0, 1, 2, 3, 4, 5, 6, 7, 8] rfl
  refine x_rv (W.runV (As := [.int (nI u)]) (rest := []) ⟨hx, hb, hml, hown, hts⟩ (c_requireVertex l dG cI cJ xo tl ts bt se g gA n ec ns lb aR aV aH aD aP rk vb rc hs D Pp hn u hu) (cwV 1 hts gX3_neighbours_X3_requireVertex rfl rfl rfl (by decide +kernel) ⟨Nat.le_of_ble_eq_true rfl, Nat.le_of_ble_eq_true rfl⟩) (RPc.pre hPc hK (va_recv hK.1 hPc (ci := 3) (q0 := 0) rfl rfl)) rfl rfl hl.1 rfl (lv_room (Nat.le_of_ble_eq_true rfl)) dX3_neighbours_2 ⟨Nat.zero_le _, Nat.zero_le _⟩) ?_
  refine lv_aload_n hx hb dX3_neighbours_5 rfl (lv_at hl 0 rfl) ?_
  refine va_get (D := dG) (ci := 3) (v := .ref g) (C := RX3) (T := TX3) (N := 6) hx hb hts hiX3 hown hK.1 hP 0 rfl rfl 0 (by decide) hf10 (fun _ h9 => h9) rfl dX3_neighbours_6 ?_
  refine lv_iload_n hx hb dX3_neighbours_9 rfl (lv_at hl 1 rfl) ?_
  have hPc := hP.sub (ws' := (GW cJ g gA (nI n) (nI ec) ns)) [1, 2] rfl
  refine x_rl (W.runV (As := [.int (nI u)]) (rest := []) ⟨hx, hb, hml, hown, hts⟩ (c_adjacent l dG cI cJ g gA n ec ns u (by omega)) (cwV 1 hts gX3_neighbours_X0_adjacent rfl rfl rfl (by decide +kernel) ⟨Nat.le_of_ble_eq_true rfl, Nat.le_of_ble_eq_true rfl⟩) (RPc.pre hPc hK (va_recv hK.1 hPc (ci := 0) (q0 := 0) rfl rfl)) rfl rfl hl.1 rfl (lv_room (Nat.le_of_ble_eq_true rfl)) dX3_neighbours_10 ⟨Nat.zero_le _, Nat.zero_le _⟩) ?_
  exact W.lret (v := (ns u)) hx hb hr (fun t ht hW => ⟨_, rfl, rfl, ht⟩) (fun _ h => nomatch h) dX3_neighbours_13

set_option maxHeartbeats 4000000 in
set_option maxRecDepth 100000 in
theorem c_entriesU (l : Launch) (dG : va_G) (cI cJ : ClassId) (xo tl ts : Nat) (bt : Bool) (se : Nat) (g gA n ec : Nat) (ns : Nat → Int64) (lb aR aV aH aD aP : Nat) (rk vb : Nat → Int32) (rc : Int32) (hs : Nat → Int64) (D Pp : Nat → Int32) (hn : n ≤ 48) (hbt : bt = false) : Met l yX3_entries wsX3_entries ({ frames := 3, cells := 0, slots := 0, locals := 64 } : Room) (RPc dG cI cJ [.ref xo] (XW xo g lb se tl ts (bI bt) ++ (GW cJ g gA (nI n) (nI ec) ns ++ (LW cI cJ lb aR aV aH aD aP rk vb rc hs D Pp)))) (vp_Si (fun r9 => r9 = (nI 0))) 0 0 (fun _ => False) := by
  refine Met.ofW (cc := cX3_entries) (maxL := 1) (ret := (some .int)) (by decide) rfl ?_
  intro p e s m args below meth c s₁ B9 hml hv
  obtain ⟨rfl, hP, hK⟩ := hv
  have hx := B9.exec
  have hb := B9.bytes
  have hr := B9.returns
  have hts := atoms_spec (ws := wsX3_entries) B9.pre
  have hown : s.vm.findClass RX3 = some m.cls := findClass_of_methodNamed B9.named
  have hlocks := B9.notSynchronized
  have hl := lv_entry ([.ref xo]) (n := 1) (Nat.le_of_ble_eq_true rfl)
  rw [lg_entry_eq]
  generalize (lg_sl ([.ref xo]) ++ List.replicate (1 - (lg_sl ([.ref xo])).length) Slot.unset).toArray = ls at hl ⊢
  have hl : lv_has ls 1 [(0, .ref xo)] := hl
  have hiX3 : ∀ w ∈ wsX30, w ∈ wsX3_entries := by decide +kernel
  have hf19 := hts (.fieldLink RX3 19 "LandmarkLea" "labels" "LLandmarkLea$Labels;") (by decide +kernel)
  have hf38 := hts (.fieldLink RX3 38 "LandmarkLea" "labelled" "Z") (by decide +kernel)
  refine lv_aload_n hx hb dX3_entries_0 rfl (lv_at hl 0 rfl) ?_
  refine va_get (D := dG) (ci := 3) (v := .int (bI bt)) (C := RX3) (T := TX3) (N := 6) hx hb hts hiX3 hown hK.1 hP 0 rfl rfl 5 (by decide) hf38 (fun _ h9 => h9) rfl dX3_entries_1 ?_
  refine x_ifeqB (tgt := 17) hx hb dX3_entries_4 (by decide) (fun c4 => ?_) (fun c4 => ?_)
  · skip
    refine lv_iconst (v := (nI 0)) hx hb dX3_entries_17 (by decide) ?_
    exact W.iret (v := (nI 0)) hx hb hr (fun t ht hW => ⟨_, rfl, rfl, ht⟩) (fun _ h => nomatch h) dX3_entries_18
  · skip
    rw [hbt] at c4; cases c4

set_option maxHeartbeats 4000000 in
set_option maxRecDepth 100000 in
theorem c_pruned (l : Launch) (dG : va_G) (cI cJ : ClassId) (xo tl ts : Nat) (bt : Bool) (qa qb qc : Nat) (qv qd qp : Nat → Int32) (ql : Int32) (qs : Int64) (vi pr wr : Int32) (g lb se : Nat) : Met l yX3_pruned wsX3_pruned ({ frames := 1, cells := 0, slots := 0, locals := 20 } : Room) (RPc dG cI cJ [.ref xo] (XW xo g lb se tl ts (bI bt) ++ (SW cI g lb se qa qb qc qv qd qp ql qs vi pr wr))) (vp_Si (fun r9 => r9 = pr)) 0 0 (fun _ => False) := by
  refine Met.ofW (cc := cX3_pruned) (maxL := 1) (ret := (some .int)) (by decide) rfl ?_
  intro p e s m args below meth c s₁ B9 hml hv
  obtain ⟨rfl, hP, hK⟩ := hv
  have hx := B9.exec
  have hb := B9.bytes
  have hr := B9.returns
  have hts := atoms_spec (ws := wsX3_pruned) B9.pre
  have hown : s.vm.findClass RX3 = some m.cls := findClass_of_methodNamed B9.named
  have hlocks := B9.notSynchronized
  have hl := lv_entry ([.ref xo]) (n := 1) (Nat.le_of_ble_eq_true rfl)
  rw [lg_entry_eq]
  generalize (lg_sl ([.ref xo]) ++ List.replicate (1 - (lg_sl ([.ref xo])).length) Slot.unset).toArray = ls at hl ⊢
  have hl : lv_has ls 1 [(0, .ref xo)] := hl
  have hiX3 : ∀ w ∈ wsX30, w ∈ wsX3_pruned := by decide +kernel
  have hf28 := hts (.fieldLink RX3 28 "LandmarkLea" "searches" "LLandmarkLea$Searches;") (by decide +kernel)
  refine lv_aload_n hx hb dX3_pruned_0 rfl (lv_at hl 0 rfl) ?_
  refine va_get (D := dG) (ci := 3) (v := .ref se) (C := RX3) (T := TX3) (N := 6) hx hb hts hiX3 hown hK.1 hP 0 rfl rfl 2 (by decide) hf28 (fun _ h9 => h9) rfl dX3_pruned_1 ?_
  have hPc := hP.sub (ws' := (SW cI g lb se qa qb qc qv qd qp ql qs vi pr wr)) [1, 2, 3, 4] rfl
  refine x_ri (W.runV (As := []) (rest := []) ⟨hx, hb, hml, hown, hts⟩ (c_countOfPruned l dG cI cJ g lb se qa qb qc qv qd qp ql qs vi pr wr) (cwV 0 hts gX3_pruned_X2_countOfPruned rfl rfl rfl (by decide +kernel) ⟨Nat.le_of_ble_eq_true rfl, Nat.le_of_ble_eq_true rfl⟩) (RPc.pre hPc hK (va_recv hK.1 hPc (ci := 2) (q0 := 0) rfl rfl)) rfl rfl hl.1 rfl (lv_room (Nat.le_of_ble_eq_true rfl)) dX3_pruned_4 ⟨Nat.zero_le _, Nat.zero_le _⟩) ?_
  exact W.iret (v := pr) hx hb hr (fun t ht hW => ⟨_, rfl, rfl, ht⟩) (fun _ h => nomatch h) dX3_pruned_7

set_option maxHeartbeats 4000000 in
set_option maxRecDepth 100000 in
theorem c_written (l : Launch) (dG : va_G) (cI cJ : ClassId) (xo tl ts : Nat) (bt : Bool) (qa qb qc : Nat) (qv qd qp : Nat → Int32) (ql : Int32) (qs : Int64) (vi pr wr : Int32) (g lb se : Nat) : Met l yX3_written wsX3_written ({ frames := 1, cells := 0, slots := 0, locals := 20 } : Room) (RPc dG cI cJ [.ref xo] (XW xo g lb se tl ts (bI bt) ++ (SW cI g lb se qa qb qc qv qd qp ql qs vi pr wr))) (vp_Si (fun r9 => r9 = wr)) 0 0 (fun _ => False) := by
  refine Met.ofW (cc := cX3_written) (maxL := 1) (ret := (some .int)) (by decide) rfl ?_
  intro p e s m args below meth c s₁ B9 hml hv
  obtain ⟨rfl, hP, hK⟩ := hv
  have hx := B9.exec
  have hb := B9.bytes
  have hr := B9.returns
  have hts := atoms_spec (ws := wsX3_written) B9.pre
  have hown : s.vm.findClass RX3 = some m.cls := findClass_of_methodNamed B9.named
  have hlocks := B9.notSynchronized
  have hl := lv_entry ([.ref xo]) (n := 1) (Nat.le_of_ble_eq_true rfl)
  rw [lg_entry_eq]
  generalize (lg_sl ([.ref xo]) ++ List.replicate (1 - (lg_sl ([.ref xo])).length) Slot.unset).toArray = ls at hl ⊢
  have hl : lv_has ls 1 [(0, .ref xo)] := hl
  have hiX3 : ∀ w ∈ wsX30, w ∈ wsX3_written := by decide +kernel
  have hf28 := hts (.fieldLink RX3 28 "LandmarkLea" "searches" "LLandmarkLea$Searches;") (by decide +kernel)
  refine lv_aload_n hx hb dX3_written_0 rfl (lv_at hl 0 rfl) ?_
  refine va_get (D := dG) (ci := 3) (v := .ref se) (C := RX3) (T := TX3) (N := 6) hx hb hts hiX3 hown hK.1 hP 0 rfl rfl 2 (by decide) hf28 (fun _ h9 => h9) rfl dX3_written_1 ?_
  have hPc := hP.sub (ws' := (SW cI g lb se qa qb qc qv qd qp ql qs vi pr wr)) [1, 2, 3, 4] rfl
  refine x_ri (W.runV (As := []) (rest := []) ⟨hx, hb, hml, hown, hts⟩ (c_countOfWritten l dG cI cJ g lb se qa qb qc qv qd qp ql qs vi pr wr) (cwV 0 hts gX3_written_X2_countOfWritten rfl rfl rfl (by decide +kernel) ⟨Nat.le_of_ble_eq_true rfl, Nat.le_of_ble_eq_true rfl⟩) (RPc.pre hPc hK (va_recv hK.1 hPc (ci := 2) (q0 := 0) rfl rfl)) rfl rfl hl.1 rfl (lv_room (Nat.le_of_ble_eq_true rfl)) dX3_written_4 ⟨Nat.zero_le _, Nat.zero_le _⟩) ?_
  exact W.iret (v := wr) hx hb hr (fun t ht hW => ⟨_, rfl, rfl, ht⟩) (fun _ h => nomatch h) dX3_written_7

