/-! addVertices, isAdded(3), dice -/
set_option maxHeartbeats 4000000 in
set_option maxRecDepth 100000 in
theorem h_addVertices (l : Launch) (dG : va_G) (cI cJ : ClassId) (A : Nat → Prop) (xo tl ts se lb g gA n : Nat) (ns : Nat → Int64) (aR aV aH aD aP : Nat) (rk vb : Nat → Int32) (rc : Int32) (hs : Nat → Int64) (D Pp : Nat → Int32) (c0 : Nat) (hc1 : 1 ≤ c0) (hc2 : n + c0 ≤ 48) (X : va_W) : Met l yL_addVertices wsL_addVertices ({ frames := 3, cells := 0, slots := 0, locals := 64 } : Room) (WPc dG cI cJ [.ref xo, .int (nI c0)] (XW xo g lb se tl ts (bI false) ++ (GW cJ g gA (nI n) (nI 0) ns ++ (LW cI cJ lb aR aV aH aD aP rk vb rc hs D Pp ++ X))) A) (va_Qi (S := Unit) (fun r _ => r = nI (n + c0)) (fun _ => WB dG A (XW xo g lb se tl ts (bI false) ++ (GW cJ g gA (nI (n + c0)) (nI 0) ns ++ (LW cI cJ lb aR aV aH aD aP rk vb rc hs D Pp ++ X)))) A) 0 0 A := by
  refine va_MetW (cc := cL_addVertices) (maxL := 3) (ret := (some .int)) (hh := [(0, 5, 6, 21), (0, 5, 10, 15)]) (by decide) rfl ?_
  intro p e s m args below meth c s₁ B9 hml hv
  obtain ⟨rfl, hP, hK, hD⟩ := hv
  have hx := B9.exec
  have hb := B9.bytes
  have hr := B9.returns
  have hts := atoms_spec (ws := wsL_addVertices) B9.pre
  have hown : s.vm.findClass RL = some m.cls := findClass_of_methodNamed B9.named
  have hlocks := B9.notSynchronized
  have hS : va_S A s.heap s.heap [] := va_S.rf
  have hl := lv_entry ([.ref xo, .int (nI c0)]) (n := 3) (Nat.le_of_ble_eq_true rfl)
  rw [lg_entry_eq]
  generalize (lg_sl ([.ref xo, .int (nI c0)]) ++ List.replicate (3 - (lg_sl ([.ref xo, .int (nI c0)])).length) Slot.unset).toArray = ls at hl ⊢
  have hl : lv_has ls 3 [(0, .ref xo), (1, .int (nI c0))] := hl
  refine lv_aload_n hx hb dL_addVertices_0 rfl (lv_at hl 0 rfl) ?_
  refine lv_iload_n hx hb dL_addVertices_1 rfl (lv_at hl 1 rfl) ?_
  have hPc : va_P dG vwCl (XW xo g lb se tl ts (bI false) ++ (GW cJ g gA (nI n) (nI 0) ns ++ (LW cI cJ lb aR aV aH aD aP rk vb rc hs D Pp ++ X))) s.heap := hP
  have hDc : va_D A (XW xo g lb se tl ts (bI false) ++ (GW cJ g gA (nI n) (nI 0) ns ++ (LW cI cJ lb aR aV aH aD aP rk vb rc hs D Pp ++ X))) := hD
  refine va_calli (va_runV (As := [.int (nI c0)]) (rest := []) ⟨hx, hb, hml, hown, hts⟩ (c_addVerticesU l dG cI cJ A xo tl ts false se g gA n 0 ns lb aR aV aH aD aP rk vb rc hs D Pp c0 hc1 hc2 rfl _) (cwV 1 hts gL_addVertices_X3_addVertices rfl rfl rfl (by decide +kernel) ⟨Nat.le_of_ble_eq_true rfl, Nat.le_of_ble_eq_true rfl⟩) (WPc.pre hPc hDc hK (va_recv hK.1 hPc (ci := 3) (q0 := 0) rfl rfl)) rfl rfl hl.1 rfl (lv_room (Nat.le_of_ble_eq_true rfl)) dL_addVertices_2 ⟨Nat.zero_le _, Nat.zero_le _⟩) hS (fun q _ h => h) (fun q h => h) (fun r9 u9 t H locs ht hvm hw hB hz1 hk1 hS => ?_)
  obtain ⟨hP, hD⟩ := hB
  rw [ht] at hP
  have hP : va_P dG vwCl (XW xo g lb se tl ts (bI false) ++ (GW cJ g gA (nI (n + c0)) (nI 0) ns ++ (LW cI cJ lb aR aV aH aD aP rk vb rc hs D Pp ++ X))) H := hP
  have hD : va_D A (XW xo g lb se tl ts (bI false) ++ (GW cJ g gA (nI (n + c0)) (nI 0) ns ++ (LW cI cJ lb aR aV aH aD aP rk vb rc hs D Pp ++ X))) := hD
  rw [show r9 = nI (n + c0) from hw]
  exact W.iret (v := (nI (n + c0))) hx hb hr (fun t ht hW => ⟨⟨_, (), rfl, rfl, by rw [ht]; exact hP, hD⟩, hS.F ht⟩) hS.2.2 dL_addVertices_5

set_option maxHeartbeats 16000000 in
set_option maxRecDepth 100000 in
theorem h_isAdded (l : Launch) (dG : va_G) (cI cJ : ClassId) (A : Nat → Prop) (xo tl ts se lb g gA : Nat) (ns : Nat → Int64) (aR aV aH aD aP : Nat) (rk vb : Nat → Int32) (rc : Int32) (hs : Nat → Int64) (D Pp : Nat → Int32) (qa qb qc : Nat) (qv qd qp : Nat → Int32) (ql : Int32) (qs : Int64) (vi pr wr : Int32) (hns : ∀ v, ns v = 0) (X : va_W) : Met l yL_isAdded wsL_isAdded ({ frames := 4, cells := 0, slots := 0, locals := 86 } : Room) (WPc dG cI cJ [.ref xo, .int (nI 3)] (XW xo g lb se tl ts (bI false) ++ (GW cJ g gA (nI 0) (nI 0) ns ++ (LW cI cJ lb aR aV aH aD aP rk vb rc hs D Pp ++ (SW cI g lb se qa qb qc qv qd qp ql qs vi pr wr ++ X)))) A) (va_Qi (S := Unit) (fun r _ => r = (bI true)) (fun _ => WB dG A (XW xo g lb se tl ts (bI false) ++ (GW cJ g gA (nI 3) (nI 0) ns ++ (LW cI cJ lb aR aV aH aD aP rk vb rc hs D Pp ++ (SW cI g lb se qa qb qc qv qd qp ql qs vi pr wr ++ X))))) A) 0 0 A := by
  refine Met.ofW (cc := cL_isAdded) (maxL := 8) (ret := (some .boolean)) (by decide) rfl ?_
  intro p e s m args below meth c s₁ B9 hml hv
  obtain ⟨rfl, hP, hK, hD⟩ := hv
  have hx := B9.exec
  have hb := B9.bytes
  have hr := B9.returns
  have hts := atoms_spec (ws := wsL_isAdded) B9.pre
  have hown : s.vm.findClass RL = some m.cls := findClass_of_methodNamed B9.named
  have hlocks := B9.notSynchronized
  have hS : va_S A s.heap s.heap [] := va_S.rf
  have hl := lv_entry ([.ref xo, .int (nI 3)]) (n := 8) (Nat.le_of_ble_eq_true rfl)
  rw [lg_entry_eq]
  generalize (lg_sl ([.ref xo, .int (nI 3)]) ++ List.replicate (8 - (lg_sl ([.ref xo, .int (nI 3)])).length) Slot.unset).toArray = ls at hl ⊢
  have hl : lv_has ls 8 [(0, .ref xo), (1, .int (nI 3))] := hl
  refine lv_aload_n hx hb dL_isAdded_0 rfl (lv_at hl 0 rfl) ?_
  have hPc := hP.sub (ws' := (XW xo g lb se tl ts (bI false) ++ (GW cJ g gA (nI 0) (nI 0) ns ++ (LW cI cJ lb aR aV aH aD aP rk vb rc hs D Pp)))) [0, 1, 2, 3, 4, 5, 6, 7, 8] rfl
  refine x_ri (W.runV (As := []) (rest := []) ⟨hx, hb, hml, hown, hts⟩ (c_vertices l dG cI cJ xo tl ts false se g gA 0 0 ns lb aR aV aH aD aP rk vb rc hs D Pp (by decide)) (cwV 0 hts gL_isAdded_X3_vertices rfl rfl rfl (by decide +kernel) ⟨Nat.le_of_ble_eq_true rfl, Nat.le_of_ble_eq_true rfl⟩) (RPc.pre hPc hK (va_recv hK.1 hPc (ci := 3) (q0 := 0) rfl rfl)) rfl rfl hl.1 rfl (lv_room (Nat.le_of_ble_eq_true rfl)) dL_isAdded_1 ⟨Nat.le_of_ble_eq_true rfl, Nat.le_of_ble_eq_true rfl⟩) ?_
  refine lv_istore_n (lv' := [(2, .int (nI 0)), (0, .ref xo), (1, .int (nI 3))]) hx hb dL_isAdded_4 rfl hl (by decide) rfl (fun ls hl => ?_)
  refine lv_aload_n hx hb dL_isAdded_5 rfl (lv_at hl 1 rfl) ?_
  have hPc := hP.sub (ws' := (XW xo g lb se tl ts (bI false) ++ (GW cJ g gA (nI 0) (nI 0) ns ++ (LW cI cJ lb aR aV aH aD aP rk vb rc hs D Pp)))) [0, 1, 2, 3, 4, 5, 6, 7, 8] rfl
  refine x_ri (W.runV (As := []) (rest := []) ⟨hx, hb, hml, hown, hts⟩ (c_entriesU l dG cI cJ xo tl ts false se g gA 0 0 ns lb aR aV aH aD aP rk vb rc hs D Pp (by decide) rfl) (cwV 0 hts gL_isAdded_X3_entries rfl rfl rfl (by decide +kernel) ⟨Nat.le_of_ble_eq_true rfl, Nat.le_of_ble_eq_true rfl⟩) (RPc.pre hPc hK (va_recv hK.1 hPc (ci := 3) (q0 := 0) rfl rfl)) rfl rfl hl.1 rfl (lv_room (Nat.le_of_ble_eq_true rfl)) dL_isAdded_6 ⟨Nat.le_of_ble_eq_true rfl, Nat.le_of_ble_eq_true rfl⟩) ?_
  refine lv_istore_n (lv' := [(3, .int (nI 0)), (2, .int (nI 0)), (0, .ref xo), (1, .int (nI 3))]) hx hb dL_isAdded_9 rfl hl (by decide) rfl (fun ls hl => ?_)
  refine lv_aload_n hx hb dL_isAdded_10 rfl (lv_at hl 2 rfl) ?_
  have hPc := hP.sub (ws' := (XW xo g lb se tl ts (bI false) ++ (SW cI g lb se qa qb qc qv qd qp ql qs vi pr wr))) [0, 9, 10, 11, 12] rfl
  refine x_ri (W.runV (As := []) (rest := []) ⟨hx, hb, hml, hown, hts⟩ (c_pruned l dG cI cJ xo tl ts false qa qb qc qv qd qp ql qs vi pr wr g lb se) (cwV 0 hts gL_isAdded_X3_pruned rfl rfl rfl (by decide +kernel) ⟨Nat.le_of_ble_eq_true rfl, Nat.le_of_ble_eq_true rfl⟩) (RPc.pre hPc hK (va_recv hK.1 hPc (ci := 3) (q0 := 0) rfl rfl)) rfl rfl hl.1 rfl (lv_room (Nat.le_of_ble_eq_true rfl)) dL_isAdded_11 ⟨Nat.le_of_ble_eq_true rfl, Nat.le_of_ble_eq_true rfl⟩) ?_
  refine lv_istore (lv' := [(4, .int pr), (3, .int (nI 0)), (2, .int (nI 0)), (0, .ref xo), (1, .int (nI 3))]) hx hb dL_isAdded_14 hl (by decide) rfl (fun ls hl => ?_)
  refine lv_iload_n hx hb dL_isAdded_16 rfl (lv_at hl 4 rfl) ?_
  refine lv_iconst (v := (nI 1)) hx hb dL_isAdded_17 (by decide) ?_
  refine lv_icmp_ne (tgt := 28) hx hb dL_isAdded_18 (by decide) (fun _ => ?_) (fun h9 => (show False by revert h9; decide +kernel).elim)
  refine lv_aload_n hx hb dL_isAdded_28 rfl (lv_at hl 3 rfl) ?_
  refine lv_iload_n hx hb dL_isAdded_29 rfl (lv_at hl 4 rfl) ?_
  refine va_calli (vx_runSW (hh := [(0, 5, 6, 21), (0, 5, 10, 15)]) (As := [.ref xo, .int (nI 3)]) (rest := []) ⟨hx, hb, hml, hown, hts⟩ (h_addVertices l dG cI cJ A xo tl ts se lb g gA 0 ns aR aV aH aD aP rk vb rc hs D Pp 3 (by decide) (by decide) _) (vx_cwSW 2 hts gL_isAdded_L_addVertices rfl rfl rfl (by decide +kernel) ⟨Nat.le_of_ble_eq_true rfl, Nat.le_of_ble_eq_true rfl⟩) (WPc.preS hP hD hK) rfl rfl hl.1 rfl (lv_room (Nat.le_of_ble_eq_true rfl)) dL_isAdded_30 ⟨Nat.le_of_ble_eq_true rfl, Nat.le_of_ble_eq_true rfl⟩) hS (fun q _ h => h) (fun q h => h) (fun r9 u9 t H locs ht hvm hw hB hz1 hk1 hS => ?_)
  obtain ⟨hP, hD⟩ := hB
  rw [ht] at hP
  have hP : va_P dG vwCl (XW xo g lb se tl ts (bI false) ++ (GW cJ g gA (nI 3) (nI 0) ns ++ (LW cI cJ lb aR aV aH aD aP rk vb rc hs D Pp ++ (SW cI g lb se qa qb qc qv qd qp ql qs vi pr wr ++ X)))) H := hP
  have hD : va_D A (XW xo g lb se tl ts (bI false) ++ (GW cJ g gA (nI 3) (nI 0) ns ++ (LW cI cJ lb aR aV aH aD aP rk vb rc hs D Pp ++ (SW cI g lb se qa qb qc qv qd qp ql qs vi pr wr ++ X)))) := hD
  rw [show r9 = (nI 3) from hw]
  refine lv_istore (lv' := [(5, .int (nI 3)), (4, .int pr), (3, .int (nI 0)), (2, .int (nI 0)), (0, .ref xo), (1, .int (nI 3))]) hx hb dL_isAdded_33 hl (by decide) rfl (fun ls hl => ?_)
  refine lv_iload_n hx hb dL_isAdded_35 rfl (lv_at hl 3 rfl) ?_
  refine lv_iload_n hx hb dL_isAdded_36 rfl (lv_at hl 5 rfl) ?_
  refine lv_iadd hx hb dL_isAdded_37 ?_
  rw [show (nI 0) + (nI 3) = (nI 3) from by decide +kernel]
  refine lv_bipush (v := (nI 48)) hx hb dL_isAdded_38 (by decide) ?_
  refine lv_icmp_le (tgt := 64) hx hb dL_isAdded_40 (by decide) (fun _ => ?_) (fun h9 => (show False by revert h9; decide +kernel).elim)
  refine lv_iload hx hb dL_isAdded_64 (lv_at hl 0 rfl) ?_
  refine lv_iload_n hx hb dL_isAdded_66 rfl (lv_at hl 5 rfl) ?_
  refine lv_iconst (v := (nI 1)) hx hb dL_isAdded_67 (by decide) ?_
  refine lv_icmp_ne (tgt := 75) hx hb dL_isAdded_68 (by decide) (fun _ => ?_) (fun h9 => (show False by revert h9; decide +kernel).elim)
  refine lv_iload_n hx hb dL_isAdded_75 rfl (lv_at hl 3 rfl) ?_
  refine lv_iload_n hx hb dL_isAdded_76 rfl (lv_at hl 5 rfl) ?_
  refine lv_iadd hx hb dL_isAdded_77 ?_
  rw [show (nI 0) + (nI 3) = (nI 3) from by decide +kernel]
  refine lv_icmp_ne (tgt := 125) hx hb dL_isAdded_78 (by decide) (fun h9 => (show False by revert h9; decide +kernel).elim) (fun _ => ?_)
  refine lv_aload_n hx hb dL_isAdded_81 rfl (lv_at hl 4 rfl) ?_
  have hPc := hP.sub (ws' := (XW xo g lb se tl ts (bI false) ++ (GW cJ g gA (nI 3) (nI 0) ns ++ (LW cI cJ lb aR aV aH aD aP rk vb rc hs D Pp)))) [0, 1, 2, 3, 4, 5, 6, 7, 8] rfl
  refine x_ri (W.runV (As := []) (rest := []) ⟨hx, hb, hml, hown, hts⟩ (c_vertices l dG cI cJ xo tl ts false se g gA 3 0 ns lb aR aV aH aD aP rk vb rc hs D Pp (by decide)) (cwV 0 hts gL_isAdded_X3_vertices rfl rfl rfl (by decide +kernel) ⟨Nat.le_of_ble_eq_true rfl, Nat.le_of_ble_eq_true rfl⟩) (RPc.pre hPc hK (va_recv hK.1 hPc (ci := 3) (q0 := 0) rfl rfl)) rfl rfl hl.1 rfl (lv_room (Nat.le_of_ble_eq_true rfl)) dL_isAdded_82 ⟨Nat.le_of_ble_eq_true rfl, Nat.le_of_ble_eq_true rfl⟩) ?_
  refine lv_iload_n hx hb dL_isAdded_85 rfl (lv_at hl 3 rfl) ?_
  refine lv_iload_n hx hb dL_isAdded_86 rfl (lv_at hl 5 rfl) ?_
  refine lv_iadd hx hb dL_isAdded_87 ?_
  rw [show (nI 0) + (nI 3) = (nI 3) from by decide +kernel]
  refine lv_icmp_ne (tgt := 125) hx hb dL_isAdded_88 (by decide) (fun h9 => (show False by revert h9; decide +kernel).elim) (fun _ => ?_)
  refine lv_aload_n hx hb dL_isAdded_91 rfl (lv_at hl 4 rfl) ?_
  have hPc := hP.sub (ws' := (XW xo g lb se tl ts (bI false) ++ (SW cI g lb se qa qb qc qv qd qp ql qs vi pr wr))) [0, 9, 10, 11, 12] rfl
  refine x_ri (W.runV (As := []) (rest := []) ⟨hx, hb, hml, hown, hts⟩ (c_pruned l dG cI cJ xo tl ts false qa qb qc qv qd qp ql qs vi pr wr g lb se) (cwV 0 hts gL_isAdded_X3_pruned rfl rfl rfl (by decide +kernel) ⟨Nat.le_of_ble_eq_true rfl, Nat.le_of_ble_eq_true rfl⟩) (RPc.pre hPc hK (va_recv hK.1 hPc (ci := 3) (q0 := 0) rfl rfl)) rfl rfl hl.1 rfl (lv_room (Nat.le_of_ble_eq_true rfl)) dL_isAdded_92 ⟨Nat.le_of_ble_eq_true rfl, Nat.le_of_ble_eq_true rfl⟩) ?_
  refine lv_iload hx hb dL_isAdded_95 (lv_at hl 1 rfl) ?_
  refine lv_icmp_ne (tgt := 125) hx hb dL_isAdded_97 (by decide) (fun c97 => ?_) (fun c97 => ?_)
  · skip
    exact absurd rfl c97
  · skip
    refine lv_aload_n hx hb dL_isAdded_100 rfl (lv_at hl 4 rfl) ?_
    have hPc := hP.sub (ws' := (XW xo g lb se tl ts (bI false) ++ (GW cJ g gA (nI 3) (nI 0) ns ++ (LW cI cJ lb aR aV aH aD aP rk vb rc hs D Pp)))) [0, 1, 2, 3, 4, 5, 6, 7, 8] rfl
    refine x_ri (W.runV (As := []) (rest := []) ⟨hx, hb, hml, hown, hts⟩ (c_entriesU l dG cI cJ xo tl ts false se g gA 3 0 ns lb aR aV aH aD aP rk vb rc hs D Pp (by decide) rfl) (cwV 0 hts gL_isAdded_X3_entries rfl rfl rfl (by decide +kernel) ⟨Nat.le_of_ble_eq_true rfl, Nat.le_of_ble_eq_true rfl⟩) (RPc.pre hPc hK (va_recv hK.1 hPc (ci := 3) (q0 := 0) rfl rfl)) rfl rfl hl.1 rfl (lv_room (Nat.le_of_ble_eq_true rfl)) dL_isAdded_101 ⟨Nat.le_of_ble_eq_true rfl, Nat.le_of_ble_eq_true rfl⟩) ?_
    refine lv_iload_n hx hb dL_isAdded_104 rfl (lv_at hl 2 rfl) ?_
    refine lv_aload_n hx hb dL_isAdded_105 rfl (lv_at hl 4 rfl) ?_
    have hPc := hP.sub (ws' := (XW xo g lb se tl ts (bI false) ++ (GW cJ g gA (nI 3) (nI 0) ns ++ (LW cI cJ lb aR aV aH aD aP rk vb rc hs D Pp)))) [0, 1, 2, 3, 4, 5, 6, 7, 8] rfl
    refine x_ri (W.runV (As := []) (rest := [.int (nI 0), .int (nI 0)]) ⟨hx, hb, hml, hown, hts⟩ (c_isBuilt l dG cI cJ xo tl ts false se g gA 3 0 ns lb aR aV aH aD aP rk vb rc hs D Pp (by decide)) (cwV 0 hts gL_isAdded_X3_isBuilt rfl rfl rfl (by decide +kernel) ⟨Nat.le_of_ble_eq_true rfl, Nat.le_of_ble_eq_true rfl⟩) (RPc.pre hPc hK (va_recv hK.1 hPc (ci := 3) (q0 := 0) rfl rfl)) rfl rfl hl.1 rfl (lv_room (Nat.le_of_ble_eq_true rfl)) dL_isAdded_106 ⟨Nat.le_of_ble_eq_true rfl, Nat.le_of_ble_eq_true rfl⟩) ?_
    refine x_ifeqB (tgt := 116) hx hb dL_isAdded_109 (by decide) (fun h9 => ?_) (fun h9 => absurd h9 (by decide))
    refine lv_iconst (v := (nI 0)) hx hb dL_isAdded_116 (by decide) ?_
    refine lv_iadd hx hb dL_isAdded_117 ?_
    rw [show (nI 0) + (nI 0) = (nI 0) from by decide +kernel]
    refine lv_icmp_ne (tgt := 125) hx hb dL_isAdded_118 (by decide) (fun h9 => (show False by revert h9; decide +kernel).elim) (fun _ => ?_)
    refine lv_iconst (v := (nI 1)) hx hb dL_isAdded_121 (by decide) ?_
    refine lv_goto (tgt := 126) hx hb dL_isAdded_122 (by decide) ?_
    refine lv_istore (lv' := [(6, .int (nI 1)), (5, .int (nI 3)), (4, .int pr), (3, .int (nI 0)), (2, .int (nI 0)), (0, .ref xo), (1, .int (nI 3))]) hx hb dL_isAdded_126 hl (by decide) rfl (fun ls hl => ?_)
    refine lv_iload_n hx hb dL_isAdded_128 rfl (lv_at hl 4 rfl) ?_
    refine lv_istore (lv' := [(7, .int (nI 0)), (6, .int (nI 1)), (5, .int (nI 3)), (4, .int pr), (3, .int (nI 0)), (2, .int (nI 0)), (0, .ref xo), (1, .int (nI 3))]) hx hb dL_isAdded_129 hl (by decide) rfl (fun ls hl => ?_)
    refine lv_iload hx hb dL_isAdded_131 (lv_at hl 0 rfl) ?_
    refine lv_aload_n hx hb dL_isAdded_133 rfl (lv_at hl 6 rfl) ?_
    have hPc := hP.sub (ws' := (XW xo g lb se tl ts (bI false) ++ (GW cJ g gA (nI 3) (nI 0) ns ++ (LW cI cJ lb aR aV aH aD aP rk vb rc hs D Pp)))) [0, 1, 2, 3, 4, 5, 6, 7, 8] rfl
    refine x_ri (W.runV (As := []) (rest := [.int (nI 0)]) ⟨hx, hb, hml, hown, hts⟩ (c_vertices l dG cI cJ xo tl ts false se g gA 3 0 ns lb aR aV aH aD aP rk vb rc hs D Pp (by decide)) (cwV 0 hts gL_isAdded_X3_vertices rfl rfl rfl (by decide +kernel) ⟨Nat.le_of_ble_eq_true rfl, Nat.le_of_ble_eq_true rfl⟩) (RPc.pre hPc hK (va_recv hK.1 hPc (ci := 3) (q0 := 0) rfl rfl)) rfl rfl hl.1 rfl (lv_room (Nat.le_of_ble_eq_true rfl)) dL_isAdded_134 ⟨Nat.le_of_ble_eq_true rfl, Nat.le_of_ble_eq_true rfl⟩) ?_
    refine lv_icmp_ge (tgt := 239) hx hb dL_isAdded_137 (by decide) (fun h9 => (show False by revert h9; decide +kernel).elim) (fun _ => ?_)
    refine lv_iload hx hb dL_isAdded_140 (lv_at hl 1 rfl) ?_
    refine lv_if_eq (tgt := 239) hx hb dL_isAdded_142 (by decide) (fun h9 => absurd h9 (by decide)) (fun _ => ?_)
    refine lv_aload_n hx hb dL_isAdded_145 rfl (lv_at hl 6 rfl) ?_
    refine lv_iload hx hb dL_isAdded_146 (lv_at hl 0 rfl) ?_
    have hPc := hP.sub (ws' := (XW xo g lb se tl ts (bI false) ++ (GW cJ g gA (nI 3) (nI 0) ns ++ (LW cI cJ lb aR aV aH aD aP rk vb rc hs D Pp)))) [0, 1, 2, 3, 4, 5, 6, 7, 8] rfl
    refine x_rl (W.runV (As := [.int (nI 0)]) (rest := []) ⟨hx, hb, hml, hown, hts⟩ (c_neighbours l dG cI cJ xo tl ts false se g gA 3 0 ns lb aR aV aH aD aP rk vb rc hs D Pp (by decide) 0 (by decide)) (cwV 1 hts gL_isAdded_X3_neighbours rfl rfl rfl (by decide +kernel) ⟨Nat.le_of_ble_eq_true rfl, Nat.le_of_ble_eq_true rfl⟩) (RPc.pre hPc hK (va_recv hK.1 hPc (ci := 3) (q0 := 0) rfl rfl)) rfl rfl hl.1 rfl (lv_room (Nat.le_of_ble_eq_true rfl)) dL_isAdded_148 ⟨Nat.le_of_ble_eq_true rfl, Nat.le_of_ble_eq_true rfl⟩) ?_
    rw [hns 0]
    refine lv_lconst (v := 0) hx hb dL_isAdded_151 rfl ?_
    refine W.lcmp hx hb dL_isAdded_152 ?_
    rw [show lg_cmp (0 : Int64) 0 = (nI 0) from by decide +kernel]
    refine lv_if_ne (tgt := 230) hx hb dL_isAdded_153 (by decide) (fun h9 => absurd rfl h9) (fun _ => ?_)
    refine lv_aload_n hx hb dL_isAdded_156 rfl (lv_at hl 6 rfl) ?_
    have hPc := hP.sub (ws' := (XW xo g lb se tl ts (bI false) ++ (GW cJ g gA (nI 3) (nI 0) ns ++ (LW cI cJ lb aR aV aH aD aP rk vb rc hs D Pp)))) [0, 1, 2, 3, 4, 5, 6, 7, 8] rfl
    refine x_ri (W.runV (As := []) (rest := []) ⟨hx, hb, hml, hown, hts⟩ (c_isBuilt l dG cI cJ xo tl ts false se g gA 3 0 ns lb aR aV aH aD aP rk vb rc hs D Pp (by decide)) (cwV 0 hts gL_isAdded_X3_isBuilt rfl rfl rfl (by decide +kernel) ⟨Nat.le_of_ble_eq_true rfl, Nat.le_of_ble_eq_true rfl⟩) (RPc.pre hPc hK (va_recv hK.1 hPc (ci := 3) (q0 := 0) rfl rfl)) rfl rfl hl.1 rfl (lv_room (Nat.le_of_ble_eq_true rfl)) dL_isAdded_157 ⟨Nat.le_of_ble_eq_true rfl, Nat.le_of_ble_eq_true rfl⟩) ?_
    refine x_ifeqB (tgt := 226) hx hb dL_isAdded_160 (by decide) (fun h9 => ?_) (fun h9 => absurd h9 (by decide))
    refine lv_iconst (v := (nI 1)) hx hb dL_isAdded_226 (by decide) ?_
    refine lv_goto (tgt := 231) hx hb dL_isAdded_227 (by decide) ?_
    refine lv_istore (lv' := [(6, .int (nI 1)), (7, .int (nI 0)), (5, .int (nI 3)), (4, .int pr), (3, .int (nI 0)), (2, .int (nI 0)), (0, .ref xo), (1, .int (nI 3))]) hx hb dL_isAdded_231 hl (by decide) rfl (fun ls hl => ?_)
    refine lv_iinc (v := (nI 1)) (lv' := [(7, .int (nI 1)), (6, .int (nI 1)), (5, .int (nI 3)), (4, .int pr), (3, .int (nI 0)), (2, .int (nI 0)), (0, .ref xo), (1, .int (nI 3))]) hx hb dL_isAdded_233 hl (k := 1) rfl (by decide +kernel) (by decide) rfl (fun ls hl => ?_)
    refine lv_goto (tgt := 131) hx hb dL_isAdded_236 (by decide) ?_
    refine lv_iload hx hb dL_isAdded_131 (lv_at hl 0 rfl) ?_
    refine lv_aload_n hx hb dL_isAdded_133 rfl (lv_at hl 6 rfl) ?_
    have hPc := hP.sub (ws' := (XW xo g lb se tl ts (bI false) ++ (GW cJ g gA (nI 3) (nI 0) ns ++ (LW cI cJ lb aR aV aH aD aP rk vb rc hs D Pp)))) [0, 1, 2, 3, 4, 5, 6, 7, 8] rfl
    refine x_ri (W.runV (As := []) (rest := [.int (nI 1)]) ⟨hx, hb, hml, hown, hts⟩ (c_vertices l dG cI cJ xo tl ts false se g gA 3 0 ns lb aR aV aH aD aP rk vb rc hs D Pp (by decide)) (cwV 0 hts gL_isAdded_X3_vertices rfl rfl rfl (by decide +kernel) ⟨Nat.le_of_ble_eq_true rfl, Nat.le_of_ble_eq_true rfl⟩) (RPc.pre hPc hK (va_recv hK.1 hPc (ci := 3) (q0 := 0) rfl rfl)) rfl rfl hl.1 rfl (lv_room (Nat.le_of_ble_eq_true rfl)) dL_isAdded_134 ⟨Nat.le_of_ble_eq_true rfl, Nat.le_of_ble_eq_true rfl⟩) ?_
    refine lv_icmp_ge (tgt := 239) hx hb dL_isAdded_137 (by decide) (fun h9 => (show False by revert h9; decide +kernel).elim) (fun _ => ?_)
    refine lv_iload hx hb dL_isAdded_140 (lv_at hl 1 rfl) ?_
    refine lv_if_eq (tgt := 239) hx hb dL_isAdded_142 (by decide) (fun h9 => absurd h9 (by decide)) (fun _ => ?_)
    refine lv_aload_n hx hb dL_isAdded_145 rfl (lv_at hl 6 rfl) ?_
    refine lv_iload hx hb dL_isAdded_146 (lv_at hl 0 rfl) ?_
    have hPc := hP.sub (ws' := (XW xo g lb se tl ts (bI false) ++ (GW cJ g gA (nI 3) (nI 0) ns ++ (LW cI cJ lb aR aV aH aD aP rk vb rc hs D Pp)))) [0, 1, 2, 3, 4, 5, 6, 7, 8] rfl
    refine x_rl (W.runV (As := [.int (nI 1)]) (rest := []) ⟨hx, hb, hml, hown, hts⟩ (c_neighbours l dG cI cJ xo tl ts false se g gA 3 0 ns lb aR aV aH aD aP rk vb rc hs D Pp (by decide) 1 (by decide)) (cwV 1 hts gL_isAdded_X3_neighbours rfl rfl rfl (by decide +kernel) ⟨Nat.le_of_ble_eq_true rfl, Nat.le_of_ble_eq_true rfl⟩) (RPc.pre hPc hK (va_recv hK.1 hPc (ci := 3) (q0 := 0) rfl rfl)) rfl rfl hl.1 rfl (lv_room (Nat.le_of_ble_eq_true rfl)) dL_isAdded_148 ⟨Nat.le_of_ble_eq_true rfl, Nat.le_of_ble_eq_true rfl⟩) ?_
    rw [hns 1]
    refine lv_lconst (v := 0) hx hb dL_isAdded_151 rfl ?_
    refine W.lcmp hx hb dL_isAdded_152 ?_
    rw [show lg_cmp (0 : Int64) 0 = (nI 0) from by decide +kernel]
    refine lv_if_ne (tgt := 230) hx hb dL_isAdded_153 (by decide) (fun h9 => absurd rfl h9) (fun _ => ?_)
    refine lv_aload_n hx hb dL_isAdded_156 rfl (lv_at hl 6 rfl) ?_
    have hPc := hP.sub (ws' := (XW xo g lb se tl ts (bI false) ++ (GW cJ g gA (nI 3) (nI 0) ns ++ (LW cI cJ lb aR aV aH aD aP rk vb rc hs D Pp)))) [0, 1, 2, 3, 4, 5, 6, 7, 8] rfl
    refine x_ri (W.runV (As := []) (rest := []) ⟨hx, hb, hml, hown, hts⟩ (c_isBuilt l dG cI cJ xo tl ts false se g gA 3 0 ns lb aR aV aH aD aP rk vb rc hs D Pp (by decide)) (cwV 0 hts gL_isAdded_X3_isBuilt rfl rfl rfl (by decide +kernel) ⟨Nat.le_of_ble_eq_true rfl, Nat.le_of_ble_eq_true rfl⟩) (RPc.pre hPc hK (va_recv hK.1 hPc (ci := 3) (q0 := 0) rfl rfl)) rfl rfl hl.1 rfl (lv_room (Nat.le_of_ble_eq_true rfl)) dL_isAdded_157 ⟨Nat.le_of_ble_eq_true rfl, Nat.le_of_ble_eq_true rfl⟩) ?_
    refine x_ifeqB (tgt := 226) hx hb dL_isAdded_160 (by decide) (fun h9 => ?_) (fun h9 => absurd h9 (by decide))
    refine lv_iconst (v := (nI 1)) hx hb dL_isAdded_226 (by decide) ?_
    refine lv_goto (tgt := 231) hx hb dL_isAdded_227 (by decide) ?_
    refine lv_istore (lv' := [(6, .int (nI 1)), (7, .int (nI 1)), (5, .int (nI 3)), (4, .int pr), (3, .int (nI 0)), (2, .int (nI 0)), (0, .ref xo), (1, .int (nI 3))]) hx hb dL_isAdded_231 hl (by decide) rfl (fun ls hl => ?_)
    refine lv_iinc (v := (nI 2)) (lv' := [(7, .int (nI 2)), (6, .int (nI 1)), (5, .int (nI 3)), (4, .int pr), (3, .int (nI 0)), (2, .int (nI 0)), (0, .ref xo), (1, .int (nI 3))]) hx hb dL_isAdded_233 hl (k := 1) rfl (by decide +kernel) (by decide) rfl (fun ls hl => ?_)
    refine lv_goto (tgt := 131) hx hb dL_isAdded_236 (by decide) ?_
    refine lv_iload hx hb dL_isAdded_131 (lv_at hl 0 rfl) ?_
    refine lv_aload_n hx hb dL_isAdded_133 rfl (lv_at hl 6 rfl) ?_
    have hPc := hP.sub (ws' := (XW xo g lb se tl ts (bI false) ++ (GW cJ g gA (nI 3) (nI 0) ns ++ (LW cI cJ lb aR aV aH aD aP rk vb rc hs D Pp)))) [0, 1, 2, 3, 4, 5, 6, 7, 8] rfl
    refine x_ri (W.runV (As := []) (rest := [.int (nI 2)]) ⟨hx, hb, hml, hown, hts⟩ (c_vertices l dG cI cJ xo tl ts false se g gA 3 0 ns lb aR aV aH aD aP rk vb rc hs D Pp (by decide)) (cwV 0 hts gL_isAdded_X3_vertices rfl rfl rfl (by decide +kernel) ⟨Nat.le_of_ble_eq_true rfl, Nat.le_of_ble_eq_true rfl⟩) (RPc.pre hPc hK (va_recv hK.1 hPc (ci := 3) (q0 := 0) rfl rfl)) rfl rfl hl.1 rfl (lv_room (Nat.le_of_ble_eq_true rfl)) dL_isAdded_134 ⟨Nat.le_of_ble_eq_true rfl, Nat.le_of_ble_eq_true rfl⟩) ?_
    refine lv_icmp_ge (tgt := 239) hx hb dL_isAdded_137 (by decide) (fun h9 => (show False by revert h9; decide +kernel).elim) (fun _ => ?_)
    refine lv_iload hx hb dL_isAdded_140 (lv_at hl 1 rfl) ?_
    refine lv_if_eq (tgt := 239) hx hb dL_isAdded_142 (by decide) (fun h9 => absurd h9 (by decide)) (fun _ => ?_)
    refine lv_aload_n hx hb dL_isAdded_145 rfl (lv_at hl 6 rfl) ?_
    refine lv_iload hx hb dL_isAdded_146 (lv_at hl 0 rfl) ?_
    have hPc := hP.sub (ws' := (XW xo g lb se tl ts (bI false) ++ (GW cJ g gA (nI 3) (nI 0) ns ++ (LW cI cJ lb aR aV aH aD aP rk vb rc hs D Pp)))) [0, 1, 2, 3, 4, 5, 6, 7, 8] rfl
    refine x_rl (W.runV (As := [.int (nI 2)]) (rest := []) ⟨hx, hb, hml, hown, hts⟩ (c_neighbours l dG cI cJ xo tl ts false se g gA 3 0 ns lb aR aV aH aD aP rk vb rc hs D Pp (by decide) 2 (by decide)) (cwV 1 hts gL_isAdded_X3_neighbours rfl rfl rfl (by decide +kernel) ⟨Nat.le_of_ble_eq_true rfl, Nat.le_of_ble_eq_true rfl⟩) (RPc.pre hPc hK (va_recv hK.1 hPc (ci := 3) (q0 := 0) rfl rfl)) rfl rfl hl.1 rfl (lv_room (Nat.le_of_ble_eq_true rfl)) dL_isAdded_148 ⟨Nat.le_of_ble_eq_true rfl, Nat.le_of_ble_eq_true rfl⟩) ?_
    rw [hns 2]
    refine lv_lconst (v := 0) hx hb dL_isAdded_151 rfl ?_
    refine W.lcmp hx hb dL_isAdded_152 ?_
    rw [show lg_cmp (0 : Int64) 0 = (nI 0) from by decide +kernel]
    refine lv_if_ne (tgt := 230) hx hb dL_isAdded_153 (by decide) (fun h9 => absurd rfl h9) (fun _ => ?_)
    refine lv_aload_n hx hb dL_isAdded_156 rfl (lv_at hl 6 rfl) ?_
    have hPc := hP.sub (ws' := (XW xo g lb se tl ts (bI false) ++ (GW cJ g gA (nI 3) (nI 0) ns ++ (LW cI cJ lb aR aV aH aD aP rk vb rc hs D Pp)))) [0, 1, 2, 3, 4, 5, 6, 7, 8] rfl
    refine x_ri (W.runV (As := []) (rest := []) ⟨hx, hb, hml, hown, hts⟩ (c_isBuilt l dG cI cJ xo tl ts false se g gA 3 0 ns lb aR aV aH aD aP rk vb rc hs D Pp (by decide)) (cwV 0 hts gL_isAdded_X3_isBuilt rfl rfl rfl (by decide +kernel) ⟨Nat.le_of_ble_eq_true rfl, Nat.le_of_ble_eq_true rfl⟩) (RPc.pre hPc hK (va_recv hK.1 hPc (ci := 3) (q0 := 0) rfl rfl)) rfl rfl hl.1 rfl (lv_room (Nat.le_of_ble_eq_true rfl)) dL_isAdded_157 ⟨Nat.le_of_ble_eq_true rfl, Nat.le_of_ble_eq_true rfl⟩) ?_
    refine x_ifeqB (tgt := 226) hx hb dL_isAdded_160 (by decide) (fun h9 => ?_) (fun h9 => absurd h9 (by decide))
    refine lv_iconst (v := (nI 1)) hx hb dL_isAdded_226 (by decide) ?_
    refine lv_goto (tgt := 231) hx hb dL_isAdded_227 (by decide) ?_
    refine lv_istore (lv' := [(6, .int (nI 1)), (7, .int (nI 2)), (5, .int (nI 3)), (4, .int pr), (3, .int (nI 0)), (2, .int (nI 0)), (0, .ref xo), (1, .int (nI 3))]) hx hb dL_isAdded_231 hl (by decide) rfl (fun ls hl => ?_)
    refine lv_iinc (v := (nI 3)) (lv' := [(7, .int (nI 3)), (6, .int (nI 1)), (5, .int (nI 3)), (4, .int pr), (3, .int (nI 0)), (2, .int (nI 0)), (0, .ref xo), (1, .int (nI 3))]) hx hb dL_isAdded_233 hl (k := 1) rfl (by decide +kernel) (by decide) rfl (fun ls hl => ?_)
    refine lv_goto (tgt := 131) hx hb dL_isAdded_236 (by decide) ?_
    refine lv_iload hx hb dL_isAdded_131 (lv_at hl 0 rfl) ?_
    refine lv_aload_n hx hb dL_isAdded_133 rfl (lv_at hl 6 rfl) ?_
    have hPc := hP.sub (ws' := (XW xo g lb se tl ts (bI false) ++ (GW cJ g gA (nI 3) (nI 0) ns ++ (LW cI cJ lb aR aV aH aD aP rk vb rc hs D Pp)))) [0, 1, 2, 3, 4, 5, 6, 7, 8] rfl
    refine x_ri (W.runV (As := []) (rest := [.int (nI 3)]) ⟨hx, hb, hml, hown, hts⟩ (c_vertices l dG cI cJ xo tl ts false se g gA 3 0 ns lb aR aV aH aD aP rk vb rc hs D Pp (by decide)) (cwV 0 hts gL_isAdded_X3_vertices rfl rfl rfl (by decide +kernel) ⟨Nat.le_of_ble_eq_true rfl, Nat.le_of_ble_eq_true rfl⟩) (RPc.pre hPc hK (va_recv hK.1 hPc (ci := 3) (q0 := 0) rfl rfl)) rfl rfl hl.1 rfl (lv_room (Nat.le_of_ble_eq_true rfl)) dL_isAdded_134 ⟨Nat.le_of_ble_eq_true rfl, Nat.le_of_ble_eq_true rfl⟩) ?_
    refine lv_icmp_ge (tgt := 239) hx hb dL_isAdded_137 (by decide) (fun _ => ?_) (fun h9 => (show False by revert h9; decide +kernel).elim)
    refine lv_iload hx hb dL_isAdded_239 (lv_at hl 1 rfl) ?_
    exact W.zret (v := (nI 1)) (ty := .boolean) hx hb hr (by decide) (fun t ht hW => ⟨⟨_, (), rfl, (show (nI 1) = (bI true) from rfl), by rw [ht]; exact hP, hD⟩, hS.F ht⟩) hS.2.2 dL_isAdded_241

set_option maxHeartbeats 4000000 in
set_option maxRecDepth 100000 in
theorem r_dice (l : Launch) (b L : Nat) (xs : Nat → Int32) (k : Nat) (hk : k < L) (hL : L < 2 ^ 31) : Met l yL_dice wsL_dice ({ frames := 0, cells := 0, slots := 0, locals := 0 } : Room) (va_Pc [.ref b, .int (nI k)] (fun U => va_X b L xs U U.heap ∧ b < U.heap.size)) (vp_Si (fun r9 => r9 = (xs k &&& 2147483647))) 0 0 (fun _ => False) := by
  refine Met.ofW (cc := cL_dice) (maxL := 2) (ret := (some .int)) (by decide) rfl ?_
  intro p e s m args below meth c s₁ B9 hml hv
  obtain ⟨rfl, hX, hbl⟩ := hv
  have hx := B9.exec
  have hb := B9.bytes
  have hr := B9.returns
  have hts := atoms_spec (ws := wsL_dice) B9.pre
  have hown : s.vm.findClass RL = some m.cls := findClass_of_methodNamed B9.named
  have hlocks := B9.notSynchronized
  have hS : va_S (fun _ => False) s.heap s.heap [] := va_S.rf
  have hl := lv_entry ([.ref b, .int (nI k)]) (n := 2) (Nat.le_of_ble_eq_true rfl)
  rw [lg_entry_eq]
  generalize (lg_sl ([.ref b, .int (nI k)]) ++ List.replicate (2 - (lg_sl ([.ref b, .int (nI k)])).length) Slot.unset).toArray = ls at hl ⊢
  have hl : lv_has ls 2 [(0, .ref b), (1, .int (nI k))] := hl
  refine lv_iload_n hx hb dL_dice_0 rfl (lv_at hl 1 rfl) ?_
  refine lv_aload_n hx hb dL_dice_1 rfl (lv_at hl 0 rfl) ?_
  refine va_slen hx hb hX hbl (fun h => h) hS dL_dice_2 ?_
  refine x_icmp_geN (i := k) (j := L) (tgt := 12) hx hb (by omega) (by omega) dL_dice_3 (by decide) (fun c3 => absurd c3 (by omega)) (fun _ => ?_)
  refine lv_aload_n hx hb dL_dice_6 rfl (lv_at hl 0 rfl) ?_
  refine lv_iload_n hx hb dL_dice_7 rfl (lv_at hl 1 rfl) ?_
  refine va_sld hx hb hX hbl (fun h => h) hS (vp_in_nI hk hL) dL_dice_8 ?_
  rw [nI_clamp (Nat.lt_trans hk hL)]
  refine lv_goto (tgt := 31) hx hb dL_dice_9 (by decide) ?_
  refine lv_ldc hx hb hown (hts (.constant RL 8 (2147483647)) (by decide +kernel)) dL_dice_31 ?_
  refine lv_iand hx hb dL_dice_33 ?_
  exact W.iret (v := (xs k &&& 2147483647)) hx hb hr (fun t ht hW => ⟨_, rfl, rfl, ht⟩) (fun _ h => nomatch h) dL_dice_34
theorem dice_pre {b L : Nat} {xs : Nat → Int32} {k : Nat} {s : State} {H : Heap} {A : Nat → Prop} {locs : List Loc} (hX : va_X b L xs s s.heap) (hbl : b < s.heap.size) (hbA : ¬ A b) (hS : va_S A s.heap H locs) : PreS s H (va_Pc [.ref b, .int (nI k)] (fun U => va_X b L xs U U.heap ∧ b < U.heap.size)) [.ref b, .int (nI k)] :=
  ⟨fun _ _ _ _ q => ⟨q.1, va_X.moved (Vm.Alike.refl _) q.2.1, q.2.2⟩, fun U hU hW => ⟨rfl, by rw [hU]; exact (hX.kept (hS.2.1 b hbl hbA)).moved hW.alike, by rw [hU]; exact Nat.lt_of_lt_of_le hbl hS.1⟩⟩
