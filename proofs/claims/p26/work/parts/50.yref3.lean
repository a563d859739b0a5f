/-! isRefused, with vertices: 29 cells -/
set_option maxHeartbeats 16000000 in
set_option maxRecDepth 100000 in
theorem y_refused_3 (l : Launch) (hlt : l.stackTraces = false) (dG : va_G) (cI cJ : ClassId) (A : Nat → Prop) (xo tl ts se lb g gA : Nat) (ns : Nat → Int64) (aR aV aH aD aP : Nat) (rk vb : Nat → Int32) (rc : Int32) (hs : Nat → Int64) (D Pp : Nat → Int32) (qa qb qc : Nat) (qv qd qp : Nat → Int32) (ql : Int32) (qs : Int64) (vi pr wr : Int32) (hns : ∀ v, ns v = 0) (N : Nat) (X : va_W) : Met l yL_isRefused wsL_isRefused ({ frames := 11, cells := 29, slots := 174, locals := 204 } : Room) (YPc dG cI cJ [.ref xo, .int (nI 21)] (XW xo g lb se tl ts (bI false) ++ (GW cJ g gA (nI 3) (nI 0) ns ++ (LW cI cJ lb aR aV aH aD aP rk vb rc hs D Pp ++ (SW cI g lb se qa qb qc qv qd qp ql qs vi pr wr ++ X)))) A N) (va_Qi (S := Unit) (fun r _ => r = (bI true)) (fun _ => YB dG A (XW xo g lb se tl ts (bI false) ++ (GW cJ g gA (nI 3) (nI 0) ns ++ (LW cI cJ lb aR aV aH aD aP rk vb rc hs D Pp ++ (SW cI g lb se qa qb qc qv qd qp ql qs vi pr wr ++ X)))) (N + 29)) A) 29 174 A := by
  refine Met.ofW (cc := cL_isRefused) (maxL := 9) (ret := (some .boolean)) (by decide) rfl ?_
  intro p e s m args below meth c s₁ B9 hml hv
  obtain ⟨rfl, hP, hK, hD, hTK, hTH, hN⟩ := hv
  have hx := B9.exec
  have hb := B9.bytes
  have hr := B9.returns
  have hts := atoms_spec (ws := wsL_isRefused) B9.pre
  have hown : s.vm.findClass RL = some m.cls := findClass_of_methodNamed B9.named
  have hlocks := B9.notSynchronized
  have hS : va_S A s.heap s.heap [] := va_S.rf
  have hl := lv_entry ([.ref xo, .int (nI 21)]) (n := 9) (Nat.le_of_ble_eq_true rfl)
  rw [lg_entry_eq]
  generalize (lg_sl ([.ref xo, .int (nI 21)]) ++ List.replicate (9 - (lg_sl ([.ref xo, .int (nI 21)])).length) Slot.unset).toArray = ls at hl ⊢
  have hl : lv_has ls 9 [(0, .ref xo), (1, .int (nI 21))] := hl
  refine lv_iload_n hx hb dL_isRefused_0 rfl (lv_at hl 1 rfl) ?_
  refine lv_iconst (v := (nI 2)) hx hb dL_isRefused_1 (by decide) ?_
  refine lv_irem hx hb dL_isRefused_2 (by decide) ?_
  rw [show (nI 21) - (nI 21) / (nI 2) * (nI 2) = (nI 1) from by decide +kernel]
  refine lv_if_ne (tgt := 10) hx hb dL_isRefused_3 (by decide) (fun _ => ?_) (fun h9 => absurd h9 (by decide))
  refine lv_iconst (v := (nI 0)) hx hb dL_isRefused_10 (by decide) ?_
  refine lv_istore_n (lv' := [(2, .int (nI 0)), (0, .ref xo), (1, .int (nI 21))]) hx hb dL_isRefused_11 rfl hl (by decide) rfl (fun ls hl => ?_)
  refine lv_iload_n hx hb dL_isRefused_12 rfl (lv_at hl 0 rfl) ?_
  refine lv_if_eq (tgt := 25) hx hb dL_isRefused_13 (by decide) (fun _ => ?_) (fun h9 => absurd rfl h9)
  refine lv_aload_n hx hb dL_isRefused_25 rfl (lv_at hl 1 rfl) ?_
  have hPc := hP.sub (ws' := (XW xo g lb se tl ts (bI false) ++ (GW cJ g gA (nI 3) (nI 0) ns ++ (LW cI cJ lb aR aV aH aD aP rk vb rc hs D Pp)))) [0, 1, 2, 3, 4, 5, 6, 7, 8] rfl
  refine x_ri (W.runV (As := []) (rest := []) ⟨hx, hb, hml, hown, hts⟩ (c_vertices l dG cI cJ xo tl ts false se g gA 3 0 ns lb aR aV aH aD aP rk vb rc hs D Pp (by decide)) (cwV 0 hts gL_isRefused_X3_vertices rfl rfl rfl (by decide +kernel) ⟨Nat.le_of_ble_eq_true rfl, Nat.le_of_ble_eq_true rfl⟩) (RPc.pre hPc hK (va_recv hK.1 hPc (ci := 3) (q0 := 0) rfl rfl)) rfl rfl hl.1 rfl (lv_room (Nat.le_of_ble_eq_true rfl)) dL_isRefused_26 ⟨Nat.le_of_ble_eq_true rfl, Nat.le_of_ble_eq_true rfl⟩) ?_
  refine lv_iload_n hx hb dL_isRefused_29 rfl (lv_at hl 2 rfl) ?_
  refine lv_bipush (v := (nI 80)) hx hb dL_isRefused_30 (by decide) ?_
  refine lv_irem hx hb dL_isRefused_32 (by decide) ?_
  rw [show (nI 21) - (nI 21) / (nI 80) * (nI 80) = (nI 21) from by decide +kernel]
  refine lv_iadd hx hb dL_isRefused_33 ?_
  rw [show (nI 3) + (nI 21) = (nI 24) from by decide +kernel]
  refine lv_istore_n (lv' := [(3, .int (nI 24)), (2, .int (nI 0)), (0, .ref xo), (1, .int (nI 21))]) hx hb dL_isRefused_34 rfl hl (by decide) rfl (fun ls hl => ?_)
  refine lv_aload_n hx hb dL_isRefused_35 rfl (lv_at hl 2 rfl) ?_
  have hPc := hP.sub (ws' := (XW xo g lb se tl ts (bI false) ++ (GW cJ g gA (nI 3) (nI 0) ns ++ (LW cI cJ lb aR aV aH aD aP rk vb rc hs D Pp ++ (SW cI g lb se qa qb qc qv qd qp ql qs vi pr wr))))) [0, 1, 2, 3, 4, 5, 6, 7, 8, 9, 10, 11, 12] rfl
  refine x_rl (W.runS (As := [.ref xo]) (rest := []) ⟨hx, hb, hml, hown, hts⟩ (r_graph l dG cI cJ xo tl ts se lb g gA 3 ns aR aV aH aD aP rk vb rc hs D Pp qa qb qc qv qd qp ql qs vi pr wr (by decide) hns) (va_cwS 1 hts gL_isRefused_L_graph rfl rfl rfl (by decide +kernel) ⟨Nat.le_of_ble_eq_true rfl, Nat.le_of_ble_eq_true rfl⟩) (RPc.preS hPc hK) rfl rfl hl.1 rfl (lv_room (Nat.le_of_ble_eq_true rfl)) dL_isRefused_36 ⟨Nat.le_of_ble_eq_true rfl, Nat.le_of_ble_eq_true rfl⟩) ?_
  refine lv_ldc2 hx hb hown (hts (.constantLong RL 91 (3)) (by decide +kernel)) dL_isRefused_39 ?_
  refine lv_aload_n hx hb dL_isRefused_42 rfl (lv_at hl 2 rfl) ?_
  have hPc := hP.sub (ws' := (XW xo g lb se tl ts (bI false) ++ (GW cJ g gA (nI 3) (nI 0) ns ++ (LW cI cJ lb aR aV aH aD aP rk vb rc hs D Pp ++ (SW cI g lb se qa qb qc qv qd qp ql qs vi pr wr))))) [0, 1, 2, 3, 4, 5, 6, 7, 8, 9, 10, 11, 12] rfl
  refine x_rl (W.runS (As := [.ref xo]) (rest := [.long (3), .long (gph 3 pr wr)]) ⟨hx, hb, hml, hown, hts⟩ (r_labels l dG cI cJ xo tl ts se lb g gA 3 ns aR aV aH aD aP rk vb rc hs D Pp qa qb qc qv qd qp ql qs vi pr wr (by decide) hns) (va_cwS 1 hts gL_isRefused_L_labels rfl rfl rfl (by decide +kernel) ⟨Nat.le_of_ble_eq_true rfl, Nat.le_of_ble_eq_true rfl⟩) (RPc.preS hPc hK) rfl rfl hl.1 rfl (lv_room (Nat.le_of_ble_eq_true rfl)) dL_isRefused_43 ⟨Nat.le_of_ble_eq_true rfl, Nat.le_of_ble_eq_true rfl⟩) ?_
  refine lv_lmul hx hb dL_isRefused_46 ?_
  refine lv_ladd hx hb dL_isRefused_47 ?_
  refine lv_lstore (lv' := [(4, .long ((gph 3 pr wr) + ((3) * ((nI 0).toInt64)))), (3, .int (nI 24)), (2, .int (nI 0)), (0, .ref xo), (1, .int (nI 21))]) hx hb dL_isRefused_48 hl (by decide) rfl (fun ls hl => ?_)
  refine lv_aload_n hx hb dL_isRefused_50 rfl (lv_at hl 3 rfl) ?_
  refine lv_iload_n hx hb dL_isRefused_51 rfl (lv_at hl 2 rfl) ?_
  refine lv_if_eq (tgt := 59) hx hb dL_isRefused_52 (by decide) (fun _ => ?_) (fun h9 => absurd rfl h9)
  refine lv_bipush (v := (nI 49)) hx hb dL_isRefused_59 (by decide) ?_
  refine lv_iload_n hx hb dL_isRefused_61 rfl (lv_at hl 4 rfl) ?_
  refine lv_bipush (v := (nI 80)) hx hb dL_isRefused_62 (by decide) ?_
  refine lv_irem hx hb dL_isRefused_64 (by decide) ?_
  rw [show (nI 21) - (nI 21) / (nI 80) * (nI 80) = (nI 21) from by decide +kernel]
  refine lv_iadd hx hb dL_isRefused_65 ?_
  rw [show (nI 49) + (nI 21) = (nI 70) from by decide +kernel]
  refine va_calli (vx_runSW (hh := [(0, 5, 6, 21), (0, 5, 10, 15)]) (As := [.ref xo, .int (nI 70)]) (rest := []) ⟨hx, hb, hml, hown, hts⟩ (t_addVertices_1 l hlt dG cI cJ A xo tl ts se lb g gA 3 ns (by decide) (nI 70) (by decide +kernel) _ _) (vx_cwSW 2 hts gL_isRefused_L_addVertices rfl rfl rfl (by decide +kernel) ⟨Nat.le_of_ble_eq_true rfl, Nat.le_of_ble_eq_true rfl⟩) (YPc.preS hP hD hK hTK (hTH.kept hS.2.1) hN) rfl rfl hl.1 rfl (lv_room (Nat.le_of_ble_eq_true rfl)) dL_isRefused_66 ⟨Nat.le_of_ble_eq_true rfl, Nat.le_of_ble_eq_true rfl⟩) hS (fun q _ h => h) (fun q h => h) (fun r9 u9 t H locs ht hvm hw hB hz1 hk1 hS => ?_)
  obtain ⟨hP, hD, hN⟩ := hB
  rw [ht] at hP hN
  have hN : N + 1 ≤ H.size := hN
  have hP : va_P dG vwCl (XW xo g lb se tl ts (bI false) ++ (GW cJ g gA (nI 3) (nI 0) ns ++ (LW cI cJ lb aR aV aH aD aP rk vb rc hs D Pp ++ (SW cI g lb se qa qb qc qv qd qp ql qs vi pr wr ++ X)))) H := hP
  have hD : va_D A (XW xo g lb se tl ts (bI false) ++ (GW cJ g gA (nI 3) (nI 0) ns ++ (LW cI cJ lb aR aV aH aD aP rk vb rc hs D Pp ++ (SW cI g lb se qa qb qc qv qd qp ql qs vi pr wr ++ X)))) := hD
  rw [show r9 = (-4) from hw]
  refine lv_bipush (v := (-4)) hx hb dL_isRefused_69 (by decide) ?_
  refine lv_icmp_ne (tgt := 187) hx hb dL_isRefused_71 (by decide) (fun h9 => (show False by revert h9; decide +kernel).elim) (fun _ => ?_)
  refine lv_aload_n hx hb dL_isRefused_74 rfl (lv_at hl 3 rfl) ?_
  have hPc := hP.sub (ws' := (XW xo g lb se tl ts (bI false) ++ (GW cJ g gA (nI 3) (nI 0) ns ++ (LW cI cJ lb aR aV aH aD aP rk vb rc hs D Pp)))) [0, 1, 2, 3, 4, 5, 6, 7, 8] rfl
  refine x_ri (W.runV (As := []) (rest := []) ⟨hx, hb, hml, hown, hts⟩ (c_vertices l dG cI cJ xo tl ts false se g gA 3 0 ns lb aR aV aH aD aP rk vb rc hs D Pp (by decide)) (cwV 0 hts gL_isRefused_X3_vertices rfl rfl rfl (by decide +kernel) ⟨Nat.le_of_ble_eq_true rfl, Nat.le_of_ble_eq_true rfl⟩) (RPc.pre hPc hK (va_recv hK.1 hPc (ci := 3) (q0 := 0) rfl rfl)) rfl rfl hl.1 rfl (lv_room (Nat.le_of_ble_eq_true rfl)) dL_isRefused_75 ⟨Nat.le_of_ble_eq_true rfl, Nat.le_of_ble_eq_true rfl⟩) ?_
  refine lv_if_eq (tgt := 92) hx hb dL_isRefused_78 (by decide) (fun h9 => (show False by revert h9; decide +kernel).elim) (fun _ => ?_)
  refine lv_aload_n hx hb dL_isRefused_81 rfl (lv_at hl 3 rfl) ?_
  refine lv_bipush (v := (nI 48)) hx hb dL_isRefused_82 (by decide) ?_
  refine va_calli (vx_runSW (hh := [(0, 5, 6, 21), (0, 5, 10, 15)]) (As := [.ref xo, .int (nI 48)]) (rest := []) ⟨hx, hb, hml, hown, hts⟩ (t_addVertices_2 l hlt dG cI cJ A xo tl ts se lb g gA 3 ns (by decide) 48 (by decide) (by decide) (by decide) _ _) (vx_cwSW 2 hts gL_isRefused_L_addVertices rfl rfl rfl (by decide +kernel) ⟨Nat.le_of_ble_eq_true rfl, Nat.le_of_ble_eq_true rfl⟩) (YPc.preS hP hD hK hTK (hTH.kept hS.2.1) hN) rfl rfl hl.1 rfl (lv_room (Nat.le_of_ble_eq_true rfl)) dL_isRefused_84 ⟨Nat.le_of_ble_eq_true rfl, Nat.le_of_ble_eq_true rfl⟩) hS (fun q _ h => h) (fun q h => h) (fun r9 u9 t H locs ht hvm hw hB hz1 hk1 hS => ?_)
  obtain ⟨hP, hD, hN⟩ := hB
  rw [ht] at hP hN
  have hN : N + 2 ≤ H.size := hN
  have hP : va_P dG vwCl (XW xo g lb se tl ts (bI false) ++ (GW cJ g gA (nI 3) (nI 0) ns ++ (LW cI cJ lb aR aV aH aD aP rk vb rc hs D Pp ++ (SW cI g lb se qa qb qc qv qd qp ql qs vi pr wr ++ X)))) H := hP
  have hD : va_D A (XW xo g lb se tl ts (bI false) ++ (GW cJ g gA (nI 3) (nI 0) ns ++ (LW cI cJ lb aR aV aH aD aP rk vb rc hs D Pp ++ (SW cI g lb se qa qb qc qv qd qp ql qs vi pr wr ++ X)))) := hD
  rw [show r9 = (-5) from hw]
  refine lv_bipush (v := (-5)) hx hb dL_isRefused_87 (by decide) ?_
  refine lv_icmp_ne (tgt := 187) hx hb dL_isRefused_89 (by decide) (fun h9 => (show False by revert h9; decide +kernel).elim) (fun _ => ?_)
  refine lv_aload_n hx hb dL_isRefused_92 rfl (lv_at hl 3 rfl) ?_
  have hPc := hP.sub (ws' := (XW xo g lb se tl ts (bI false) ++ (GW cJ g gA (nI 3) (nI 0) ns ++ (LW cI cJ lb aR aV aH aD aP rk vb rc hs D Pp)))) [0, 1, 2, 3, 4, 5, 6, 7, 8] rfl
  refine x_ri (W.runV (As := []) (rest := []) ⟨hx, hb, hml, hown, hts⟩ (c_vertices l dG cI cJ xo tl ts false se g gA 3 0 ns lb aR aV aH aD aP rk vb rc hs D Pp (by decide)) (cwV 0 hts gL_isRefused_X3_vertices rfl rfl rfl (by decide +kernel) ⟨Nat.le_of_ble_eq_true rfl, Nat.le_of_ble_eq_true rfl⟩) (RPc.pre hPc hK (va_recv hK.1 hPc (ci := 3) (q0 := 0) rfl rfl)) rfl rfl hl.1 rfl (lv_room (Nat.le_of_ble_eq_true rfl)) dL_isRefused_93 ⟨Nat.le_of_ble_eq_true rfl, Nat.le_of_ble_eq_true rfl⟩) ?_
  refine lv_bipush (v := (nI 48)) hx hb dL_isRefused_96 (by decide) ?_
  refine lv_icmp_lt (tgt := 110) hx hb dL_isRefused_98 (by decide) (fun _ => ?_) (fun h9 => (show False by revert h9; decide +kernel).elim)
  refine lv_aload_n hx hb dL_isRefused_110 rfl (lv_at hl 3 rfl) ?_
  refine lv_iload_n hx hb dL_isRefused_111 rfl (lv_at hl 1 rfl) ?_
  refine lv_iload_n hx hb dL_isRefused_112 rfl (lv_at hl 1 rfl) ?_
  refine va_calli (vx_runSW (hh := [(0, 6, 7, 27), (0, 6, 11, 15)]) (As := [.ref xo, .int (nI 24), .int (nI 24)]) (rest := []) ⟨hx, hb, hml, hown, hts⟩ (t_addEdge_1 l hlt dG cI cJ A xo tl ts se lb g gA 3 ns (by decide) (nI 24) (nI 24) (by decide +kernel) _ _) (vx_cwSW 3 hts gL_isRefused_L_addEdge rfl rfl rfl (by decide +kernel) ⟨Nat.le_of_ble_eq_true rfl, Nat.le_of_ble_eq_true rfl⟩) (YPc.preS hP hD hK hTK (hTH.kept hS.2.1) hN) rfl rfl hl.1 rfl (lv_room (Nat.le_of_ble_eq_true rfl)) dL_isRefused_113 ⟨Nat.le_of_ble_eq_true rfl, Nat.le_of_ble_eq_true rfl⟩) hS (fun q _ h => h) (fun q h => h) (fun r9 u9 t H locs ht hvm hw hB hz1 hk1 hS => ?_)
  obtain ⟨hP, hD, hN⟩ := hB
  rw [ht] at hP hN
  have hN : N + 3 ≤ H.size := hN
  have hP : va_P dG vwCl (XW xo g lb se tl ts (bI false) ++ (GW cJ g gA (nI 3) (nI 0) ns ++ (LW cI cJ lb aR aV aH aD aP rk vb rc hs D Pp ++ (SW cI g lb se qa qb qc qv qd qp ql qs vi pr wr ++ X)))) H := hP
  have hD : va_D A (XW xo g lb se tl ts (bI false) ++ (GW cJ g gA (nI 3) (nI 0) ns ++ (LW cI cJ lb aR aV aH aD aP rk vb rc hs D Pp ++ (SW cI g lb se qa qb qc qv qd qp ql qs vi pr wr ++ X)))) := hD
  rw [show r9 = (-3) from hw]
  refine lv_bipush (v := (-3)) hx hb dL_isRefused_116 (by decide) ?_
  refine lv_icmp_ne (tgt := 187) hx hb dL_isRefused_118 (by decide) (fun h9 => (show False by revert h9; decide +kernel).elim) (fun _ => ?_)
  refine lv_aload_n hx hb dL_isRefused_121 rfl (lv_at hl 3 rfl) ?_
  refine lv_iload_n hx hb dL_isRefused_122 rfl (lv_at hl 1 rfl) ?_
  refine lv_iconst (v := (nI 0)) hx hb dL_isRefused_123 (by decide) ?_
  refine va_calli (vx_runSW (hh := [(0, 6, 7, 27), (0, 6, 11, 15)]) (As := [.ref xo, .int (nI 24), .int (nI 0)]) (rest := []) ⟨hx, hb, hml, hown, hts⟩ (t_addEdge_1 l hlt dG cI cJ A xo tl ts se lb g gA 3 ns (by decide) (nI 24) (nI 0) (by decide +kernel) _ _) (vx_cwSW 3 hts gL_isRefused_L_addEdge rfl rfl rfl (by decide +kernel) ⟨Nat.le_of_ble_eq_true rfl, Nat.le_of_ble_eq_true rfl⟩) (YPc.preS hP hD hK hTK (hTH.kept hS.2.1) hN) rfl rfl hl.1 rfl (lv_room (Nat.le_of_ble_eq_true rfl)) dL_isRefused_124 ⟨Nat.le_of_ble_eq_true rfl, Nat.le_of_ble_eq_true rfl⟩) hS (fun q _ h => h) (fun q h => h) (fun r9 u9 t H locs ht hvm hw hB hz1 hk1 hS => ?_)
  obtain ⟨hP, hD, hN⟩ := hB
  rw [ht] at hP hN
  have hN : N + 4 ≤ H.size := hN
  have hP : va_P dG vwCl (XW xo g lb se tl ts (bI false) ++ (GW cJ g gA (nI 3) (nI 0) ns ++ (LW cI cJ lb aR aV aH aD aP rk vb rc hs D Pp ++ (SW cI g lb se qa qb qc qv qd qp ql qs vi pr wr ++ X)))) H := hP
  have hD : va_D A (XW xo g lb se tl ts (bI false) ++ (GW cJ g gA (nI 3) (nI 0) ns ++ (LW cI cJ lb aR aV aH aD aP rk vb rc hs D Pp ++ (SW cI g lb se qa qb qc qv qd qp ql qs vi pr wr ++ X)))) := hD
  rw [show r9 = (-3) from hw]
  refine lv_bipush (v := (-3)) hx hb dL_isRefused_127 (by decide) ?_
  refine lv_icmp_ne (tgt := 187) hx hb dL_isRefused_129 (by decide) (fun h9 => (show False by revert h9; decide +kernel).elim) (fun _ => ?_)
  refine lv_aload_n hx hb dL_isRefused_132 rfl (lv_at hl 3 rfl) ?_
  refine lv_iload_n hx hb dL_isRefused_133 rfl (lv_at hl 1 rfl) ?_
  refine va_calll (vx_runSW (hh := [(0, 5, 6, 27)]) (As := [.ref xo, .int (nI 24)]) (rest := []) ⟨hx, hb, hml, hown, hts⟩ (t_neighbours_1 l hlt dG cI cJ A xo tl ts se lb g gA 3 ns (by decide) (nI 24) (by decide +kernel) _ _) (vx_cwSW 2 hts gL_isRefused_L_neighbours rfl rfl rfl (by decide +kernel) ⟨Nat.le_of_ble_eq_true rfl, Nat.le_of_ble_eq_true rfl⟩) (YPc.preS hP hD hK hTK (hTH.kept hS.2.1) hN) rfl rfl hl.1 rfl (lv_room (Nat.le_of_ble_eq_true rfl)) dL_isRefused_134 ⟨Nat.le_of_ble_eq_true rfl, Nat.le_of_ble_eq_true rfl⟩) hS (fun q _ h => h) (fun q h => h) (fun r9 u9 t H locs ht hvm hw hB hz1 hk1 hS => ?_)
  obtain ⟨hP, hD, hN⟩ := hB
  rw [ht] at hP hN
  have hN : N + 5 ≤ H.size := hN
  have hP : va_P dG vwCl (XW xo g lb se tl ts (bI false) ++ (GW cJ g gA (nI 3) (nI 0) ns ++ (LW cI cJ lb aR aV aH aD aP rk vb rc hs D Pp ++ (SW cI g lb se qa qb qc qv qd qp ql qs vi pr wr ++ X)))) H := hP
  have hD : va_D A (XW xo g lb se tl ts (bI false) ++ (GW cJ g gA (nI 3) (nI 0) ns ++ (LW cI cJ lb aR aV aH aD aP rk vb rc hs D Pp ++ (SW cI g lb se qa qb qc qv qd qp ql qs vi pr wr ++ X)))) := hD
  rw [show r9 = (-3) from hw]
  refine lv_ldc2 hx hb hown (hts (.constantLong RL 61 (-3)) (by decide +kernel)) dL_isRefused_137 ?_
  refine W.lcmp hx hb dL_isRefused_140 ?_
  rw [show lg_cmp (-3) (-3) = (nI 0) from by decide +kernel]
  refine lv_if_ne (tgt := 187) hx hb dL_isRefused_141 (by decide) (fun h9 => absurd rfl h9) (fun _ => ?_)
  refine lv_aload_n hx hb dL_isRefused_144 rfl (lv_at hl 3 rfl) ?_
  refine lv_iconst (v := (nI 0)) hx hb dL_isRefused_145 (by decide) ?_
  refine lv_iload_n hx hb dL_isRefused_146 rfl (lv_at hl 1 rfl) ?_
  refine lv_iconst (v := (-1)) hx hb dL_isRefused_147 (by decide) ?_
  refine va_calli (vx_runSW (hh := [(0, 7, 8, 27), (0, 7, 13, 15), (0, 7, 18, 21)]) (As := [.ref xo, .int (nI 0), .int (nI 24), .int (-1)]) (rest := []) ⟨hx, hb, hml, hown, hts⟩ (t_pathVertex_1 l hlt dG cI cJ A xo tl ts se lb g gA 3 ns (by decide) (nI 0) (nI 24) (-1) (by decide +kernel) _ _) (vx_cwSW 4 hts gL_isRefused_L_pathVertex rfl rfl rfl (by decide +kernel) ⟨Nat.le_of_ble_eq_true rfl, Nat.le_of_ble_eq_true rfl⟩) (YPc.preS hP hD hK hTK (hTH.kept hS.2.1) hN) rfl rfl hl.1 rfl (lv_room (Nat.le_of_ble_eq_true rfl)) dL_isRefused_148 ⟨Nat.le_of_ble_eq_true rfl, Nat.le_of_ble_eq_true rfl⟩) hS (fun q _ h => h) (fun q h => h) (fun r9 u9 t H locs ht hvm hw hB hz1 hk1 hS => ?_)
  obtain ⟨hP, hD, hN⟩ := hB
  rw [ht] at hP hN
  have hN : N + 6 ≤ H.size := hN
  have hP : va_P dG vwCl (XW xo g lb se tl ts (bI false) ++ (GW cJ g gA (nI 3) (nI 0) ns ++ (LW cI cJ lb aR aV aH aD aP rk vb rc hs D Pp ++ (SW cI g lb se qa qb qc qv qd qp ql qs vi pr wr ++ X)))) H := hP
  have hD : va_D A (XW xo g lb se tl ts (bI false) ++ (GW cJ g gA (nI 3) (nI 0) ns ++ (LW cI cJ lb aR aV aH aD aP rk vb rc hs D Pp ++ (SW cI g lb se qa qb qc qv qd qp ql qs vi pr wr ++ X)))) := hD
  rw [show r9 = (-3) from hw]
  refine lv_bipush (v := (-3)) hx hb dL_isRefused_151 (by decide) ?_
  refine lv_icmp_ne (tgt := 187) hx hb dL_isRefused_153 (by decide) (fun h9 => (show False by revert h9; decide +kernel).elim) (fun _ => ?_)
  refine lv_aload_n hx hb dL_isRefused_156 rfl (lv_at hl 3 rfl) ?_
  refine lv_iload_n hx hb dL_isRefused_157 rfl (lv_at hl 1 rfl) ?_
  refine lv_iconst (v := (-1)) hx hb dL_isRefused_158 (by decide) ?_
  refine va_calll (vx_runSW (hh := [(0, 6, 7, 27), (0, 6, 12, 15), (0, 6, 17, 21)]) (As := [.ref xo, .int (nI 24), .int (-1)]) (rest := []) ⟨hx, hb, hml, hown, hts⟩ (t_within_1 l hlt dG cI cJ A xo tl ts se lb g gA 3 ns (by decide) (nI 24) (-1) (by decide +kernel) _ _) (vx_cwSW 3 hts gL_isRefused_L_within rfl rfl rfl (by decide +kernel) ⟨Nat.le_of_ble_eq_true rfl, Nat.le_of_ble_eq_true rfl⟩) (YPc.preS hP hD hK hTK (hTH.kept hS.2.1) hN) rfl rfl hl.1 rfl (lv_room (Nat.le_of_ble_eq_true rfl)) dL_isRefused_159 ⟨Nat.le_of_ble_eq_true rfl, Nat.le_of_ble_eq_true rfl⟩) hS (fun q _ h => h) (fun q h => h) (fun r9 u9 t H locs ht hvm hw hB hz1 hk1 hS => ?_)
  obtain ⟨hP, hD, hN⟩ := hB
  rw [ht] at hP hN
  have hN : N + 7 ≤ H.size := hN
  have hP : va_P dG vwCl (XW xo g lb se tl ts (bI false) ++ (GW cJ g gA (nI 3) (nI 0) ns ++ (LW cI cJ lb aR aV aH aD aP rk vb rc hs D Pp ++ (SW cI g lb se qa qb qc qv qd qp ql qs vi pr wr ++ X)))) H := hP
  have hD : va_D A (XW xo g lb se tl ts (bI false) ++ (GW cJ g gA (nI 3) (nI 0) ns ++ (LW cI cJ lb aR aV aH aD aP rk vb rc hs D Pp ++ (SW cI g lb se qa qb qc qv qd qp ql qs vi pr wr ++ X)))) := hD
  rw [show r9 = (-3) from hw]
  refine lv_ldc2 hx hb hown (hts (.constantLong RL 61 (-3)) (by decide +kernel)) dL_isRefused_162 ?_
  refine W.lcmp hx hb dL_isRefused_165 ?_
  rw [show lg_cmp (-3) (-3) = (nI 0) from by decide +kernel]
  refine lv_if_ne (tgt := 187) hx hb dL_isRefused_166 (by decide) (fun h9 => absurd rfl h9) (fun _ => ?_)
  refine lv_aload_n hx hb dL_isRefused_169 rfl (lv_at hl 3 rfl) ?_
  have hPc := hP.sub (ws' := (XW xo g lb se tl ts (bI false) ++ (GW cJ g gA (nI 3) (nI 0) ns ++ (LW cI cJ lb aR aV aH aD aP rk vb rc hs D Pp)))) [0, 1, 2, 3, 4, 5, 6, 7, 8] rfl
  refine x_ri (W.runV (As := []) (rest := []) ⟨hx, hb, hml, hown, hts⟩ (c_isBuilt l dG cI cJ xo tl ts false se g gA 3 0 ns lb aR aV aH aD aP rk vb rc hs D Pp (by decide)) (cwV 0 hts gL_isRefused_X3_isBuilt rfl rfl rfl (by decide +kernel) ⟨Nat.le_of_ble_eq_true rfl, Nat.le_of_ble_eq_true rfl⟩) (RPc.pre hPc hK (va_recv hK.1 hPc (ci := 3) (q0 := 0) rfl rfl)) rfl rfl hl.1 rfl (lv_room (Nat.le_of_ble_eq_true rfl)) dL_isRefused_170 ⟨Nat.le_of_ble_eq_true rfl, Nat.le_of_ble_eq_true rfl⟩) ?_
  refine x_ifneB (tgt := 183) hx hb dL_isRefused_173 (by decide) (fun h9 => absurd h9 (by decide)) (fun h9 => ?_)
  refine lv_aload_n hx hb dL_isRefused_176 rfl (lv_at hl 3 rfl) ?_
  have hPc := hP.sub (ws' := (XW xo g lb se tl ts (bI false) ++ (GW cJ g gA (nI 3) (nI 0) ns ++ (LW cI cJ lb aR aV aH aD aP rk vb rc hs D Pp)))) [0, 1, 2, 3, 4, 5, 6, 7, 8] rfl
  refine x_ri (W.runV (As := []) (rest := []) ⟨hx, hb, hml, hown, hts⟩ (c_entriesU l dG cI cJ xo tl ts false se g gA 3 0 ns lb aR aV aH aD aP rk vb rc hs D Pp (by decide) rfl) (cwV 0 hts gL_isRefused_X3_entries rfl rfl rfl (by decide +kernel) ⟨Nat.le_of_ble_eq_true rfl, Nat.le_of_ble_eq_true rfl⟩) (RPc.pre hPc hK (va_recv hK.1 hPc (ci := 3) (q0 := 0) rfl rfl)) rfl rfl hl.1 rfl (lv_room (Nat.le_of_ble_eq_true rfl)) dL_isRefused_177 ⟨Nat.le_of_ble_eq_true rfl, Nat.le_of_ble_eq_true rfl⟩) ?_
  refine lv_if_ne (tgt := 187) hx hb dL_isRefused_180 (by decide) (fun h9 => absurd rfl h9) (fun _ => ?_)
  refine lv_iconst (v := (nI 1)) hx hb dL_isRefused_183 (by decide) ?_
  refine lv_goto (tgt := 188) hx hb dL_isRefused_184 (by decide) ?_
  refine lv_istore (lv' := [(6, .int (nI 1)), (4, .long ((gph 3 pr wr) + ((3) * ((nI 0).toInt64)))), (3, .int (nI 24)), (2, .int (nI 0)), (0, .ref xo), (1, .int (nI 21))]) hx hb dL_isRefused_188 hl (by decide) rfl (fun ls hl => ?_)
  refine lv_iconst (v := (nI 0)) hx hb dL_isRefused_190 (by decide) ?_
  refine lv_istore (lv' := [(7, .int (nI 0)), (6, .int (nI 1)), (4, .long ((gph 3 pr wr) + ((3) * ((nI 0).toInt64)))), (3, .int (nI 24)), (2, .int (nI 0)), (0, .ref xo), (1, .int (nI 21))]) hx hb dL_isRefused_191 hl (by decide) rfl (fun ls hl => ?_)
  refine lv_iload hx hb dL_isRefused_193 (lv_at hl 0 rfl) ?_
  refine lv_iconst (v := (nI 5)) hx hb dL_isRefused_195 (by decide) ?_
  refine lv_icmp_ge (tgt := 249) hx hb dL_isRefused_196 (by decide) (fun h9 => (show False by revert h9; decide +kernel).elim) (fun _ => ?_)
  refine lv_iload hx hb dL_isRefused_199 (lv_at hl 1 rfl) ?_
  refine lv_if_eq (tgt := 249) hx hb dL_isRefused_201 (by decide) (fun h9 => absurd h9 (by decide)) (fun _ => ?_)
  refine lv_aload_n hx hb dL_isRefused_204 rfl (lv_at hl 5 rfl) ?_
  refine lv_iload hx hb dL_isRefused_205 (lv_at hl 0 rfl) ?_
  refine lv_iload_n hx hb dL_isRefused_207 rfl (lv_at hl 3 rfl) ?_
  refine lv_iconst (v := (nI 0)) hx hb dL_isRefused_208 (by decide) ?_
  refine va_calli (vx_runSW (hh := [(0, 58, 59, 27), (0, 58, 64, 15)]) (As := [.ref xo, .int (nI 0), .int (nI 24), .int (nI 0)]) (rest := []) ⟨hx, hb, hml, hown, hts⟩ (t_of_0_1 l hlt dG cI cJ A xo tl ts se lb g gA 3 ns (by decide) (nI 24) (nI 0) (by decide +kernel) _ _) (vx_cwSW 4 hts gL_isRefused_L_of rfl rfl rfl (by decide +kernel) ⟨Nat.le_of_ble_eq_true rfl, Nat.le_of_ble_eq_true rfl⟩) (YPc.preS hP hD hK hTK (hTH.kept hS.2.1) hN) rfl rfl hl.1 rfl (lv_room (Nat.le_of_ble_eq_true rfl)) dL_isRefused_209 ⟨Nat.le_of_ble_eq_true rfl, Nat.le_of_ble_eq_true rfl⟩) hS (fun q _ h => h) (fun q h => h) (fun r9 u9 t H locs ht hvm hw hB hz1 hk1 hS => ?_)
  obtain ⟨hP, hD, hN⟩ := hB
  rw [ht] at hP hN
  have hN : N + 8 ≤ H.size := hN
  have hP : va_P dG vwCl (XW xo g lb se tl ts (bI false) ++ (GW cJ g gA (nI 3) (nI 0) ns ++ (LW cI cJ lb aR aV aH aD aP rk vb rc hs D Pp ++ (SW cI g lb se qa qb qc qv qd qp ql qs vi pr wr ++ X)))) H := hP
  have hD : va_D A (XW xo g lb se tl ts (bI false) ++ (GW cJ g gA (nI 3) (nI 0) ns ++ (LW cI cJ lb aR aV aH aD aP rk vb rc hs D Pp ++ (SW cI g lb se qa qb qc qv qd qp ql qs vi pr wr ++ X)))) := hD
  rw [show r9 = (-3) from hw]
  refine lv_bipush (v := (-3)) hx hb dL_isRefused_212 (by decide) ?_
  refine lv_icmp_ne (tgt := 240) hx hb dL_isRefused_214 (by decide) (fun h9 => (show False by revert h9; decide +kernel).elim) (fun _ => ?_)
  refine lv_iload hx hb dL_isRefused_217 (lv_at hl 0 rfl) ?_
  refine lv_iconst (v := (nI 2)) hx hb dL_isRefused_219 (by decide) ?_
  refine lv_icmp_gt (tgt := 236) hx hb dL_isRefused_220 (by decide) (fun h9 => (show False by revert h9; decide +kernel).elim) (fun _ => ?_)
  refine lv_aload_n hx hb dL_isRefused_223 rfl (lv_at hl 5 rfl) ?_
  refine lv_iload hx hb dL_isRefused_224 (lv_at hl 0 rfl) ?_
  refine lv_iload_n hx hb dL_isRefused_226 rfl (lv_at hl 3 rfl) ?_
  refine lv_iconst (v := (-1)) hx hb dL_isRefused_227 (by decide) ?_
  refine va_calli (vx_runSW (hh := [(0, 33, 34, 27), (0, 33, 39, 15), (0, 33, 44, 21)]) (As := [.ref xo, .int (nI 0), .int (nI 24), .int (-1)]) (rest := []) ⟨hx, hb, hml, hown, hts⟩ (t_entry_0_1 l hlt dG cI cJ A xo tl ts se lb g gA 3 ns (by decide) (nI 24) (-1) (by decide +kernel) _ _) (vx_cwSW 4 hts gL_isRefused_L_entry rfl rfl rfl (by decide +kernel) ⟨Nat.le_of_ble_eq_true rfl, Nat.le_of_ble_eq_true rfl⟩) (YPc.preS hP hD hK hTK (hTH.kept hS.2.1) hN) rfl rfl hl.1 rfl (lv_room (Nat.le_of_ble_eq_true rfl)) dL_isRefused_228 ⟨Nat.le_of_ble_eq_true rfl, Nat.le_of_ble_eq_true rfl⟩) hS (fun q _ h => h) (fun q h => h) (fun r9 u9 t H locs ht hvm hw hB hz1 hk1 hS => ?_)
  obtain ⟨hP, hD, hN⟩ := hB
  rw [ht] at hP hN
  have hN : N + 9 ≤ H.size := hN
  have hP : va_P dG vwCl (XW xo g lb se tl ts (bI false) ++ (GW cJ g gA (nI 3) (nI 0) ns ++ (LW cI cJ lb aR aV aH aD aP rk vb rc hs D Pp ++ (SW cI g lb se qa qb qc qv qd qp ql qs vi pr wr ++ X)))) H := hP
  have hD : va_D A (XW xo g lb se tl ts (bI false) ++ (GW cJ g gA (nI 3) (nI 0) ns ++ (LW cI cJ lb aR aV aH aD aP rk vb rc hs D Pp ++ (SW cI g lb se qa qb qc qv qd qp ql qs vi pr wr ++ X)))) := hD
  rw [show r9 = (-3) from hw]
  refine lv_bipush (v := (-3)) hx hb dL_isRefused_231 (by decide) ?_
  refine lv_icmp_ne (tgt := 240) hx hb dL_isRefused_233 (by decide) (fun h9 => (show False by revert h9; decide +kernel).elim) (fun _ => ?_)
  refine lv_iconst (v := (nI 1)) hx hb dL_isRefused_236 (by decide) ?_
  refine lv_goto (tgt := 241) hx hb dL_isRefused_237 (by decide) ?_
  refine lv_istore (lv' := [(6, .int (nI 1)), (7, .int (nI 0)), (4, .long ((gph 3 pr wr) + ((3) * ((nI 0).toInt64)))), (3, .int (nI 24)), (2, .int (nI 0)), (0, .ref xo), (1, .int (nI 21))]) hx hb dL_isRefused_241 hl (by decide) rfl (fun ls hl => ?_)
  refine lv_iinc (v := (nI 1)) (lv' := [(7, .int (nI 1)), (6, .int (nI 1)), (4, .long ((gph 3 pr wr) + ((3) * ((nI 0).toInt64)))), (3, .int (nI 24)), (2, .int (nI 0)), (0, .ref xo), (1, .int (nI 21))]) hx hb dL_isRefused_243 hl (k := 1) rfl (by decide +kernel) (by decide) rfl (fun ls hl => ?_)
  refine lv_goto (tgt := 193) hx hb dL_isRefused_246 (by decide) ?_
  refine lv_iload hx hb dL_isRefused_193 (lv_at hl 0 rfl) ?_
  refine lv_iconst (v := (nI 5)) hx hb dL_isRefused_195 (by decide) ?_
  refine lv_icmp_ge (tgt := 249) hx hb dL_isRefused_196 (by decide) (fun h9 => (show False by revert h9; decide +kernel).elim) (fun _ => ?_)
  refine lv_iload hx hb dL_isRefused_199 (lv_at hl 1 rfl) ?_
  refine lv_if_eq (tgt := 249) hx hb dL_isRefused_201 (by decide) (fun h9 => absurd h9 (by decide)) (fun _ => ?_)
  refine lv_aload_n hx hb dL_isRefused_204 rfl (lv_at hl 5 rfl) ?_
  refine lv_iload hx hb dL_isRefused_205 (lv_at hl 0 rfl) ?_
  refine lv_iload_n hx hb dL_isRefused_207 rfl (lv_at hl 3 rfl) ?_
  refine lv_iconst (v := (nI 0)) hx hb dL_isRefused_208 (by decide) ?_
  refine va_calli (vx_runSW (hh := [(0, 58, 59, 27), (0, 58, 64, 15)]) (As := [.ref xo, .int (nI 1), .int (nI 24), .int (nI 0)]) (rest := []) ⟨hx, hb, hml, hown, hts⟩ (t_of_1_1 l hlt dG cI cJ A xo tl ts se lb g gA 3 ns (by decide) (nI 24) (nI 0) (by decide +kernel) _ _) (vx_cwSW 4 hts gL_isRefused_L_of rfl rfl rfl (by decide +kernel) ⟨Nat.le_of_ble_eq_true rfl, Nat.le_of_ble_eq_true rfl⟩) (YPc.preS hP hD hK hTK (hTH.kept hS.2.1) hN) rfl rfl hl.1 rfl (lv_room (Nat.le_of_ble_eq_true rfl)) dL_isRefused_209 ⟨Nat.le_of_ble_eq_true rfl, Nat.le_of_ble_eq_true rfl⟩) hS (fun q _ h => h) (fun q h => h) (fun r9 u9 t H locs ht hvm hw hB hz1 hk1 hS => ?_)
  obtain ⟨hP, hD, hN⟩ := hB
  rw [ht] at hP hN
  have hN : N + 10 ≤ H.size := hN
  have hP : va_P dG vwCl (XW xo g lb se tl ts (bI false) ++ (GW cJ g gA (nI 3) (nI 0) ns ++ (LW cI cJ lb aR aV aH aD aP rk vb rc hs D Pp ++ (SW cI g lb se qa qb qc qv qd qp ql qs vi pr wr ++ X)))) H := hP
  have hD : va_D A (XW xo g lb se tl ts (bI false) ++ (GW cJ g gA (nI 3) (nI 0) ns ++ (LW cI cJ lb aR aV aH aD aP rk vb rc hs D Pp ++ (SW cI g lb se qa qb qc qv qd qp ql qs vi pr wr ++ X)))) := hD
  rw [show r9 = (-3) from hw]
  refine lv_bipush (v := (-3)) hx hb dL_isRefused_212 (by decide) ?_
  refine lv_icmp_ne (tgt := 240) hx hb dL_isRefused_214 (by decide) (fun h9 => (show False by revert h9; decide +kernel).elim) (fun _ => ?_)
  refine lv_iload hx hb dL_isRefused_217 (lv_at hl 0 rfl) ?_
  refine lv_iconst (v := (nI 2)) hx hb dL_isRefused_219 (by decide) ?_
  refine lv_icmp_gt (tgt := 236) hx hb dL_isRefused_220 (by decide) (fun h9 => (show False by revert h9; decide +kernel).elim) (fun _ => ?_)
  refine lv_aload_n hx hb dL_isRefused_223 rfl (lv_at hl 5 rfl) ?_
  refine lv_iload hx hb dL_isRefused_224 (lv_at hl 0 rfl) ?_
  refine lv_iload_n hx hb dL_isRefused_226 rfl (lv_at hl 3 rfl) ?_
  refine lv_iconst (v := (-1)) hx hb dL_isRefused_227 (by decide) ?_
  refine va_calli (vx_runSW (hh := [(0, 33, 34, 27), (0, 33, 39, 15), (0, 33, 44, 21)]) (As := [.ref xo, .int (nI 1), .int (nI 24), .int (-1)]) (rest := []) ⟨hx, hb, hml, hown, hts⟩ (t_entry_1_1 l hlt dG cI cJ A xo tl ts se lb g gA 3 ns (by decide) (nI 24) (-1) (by decide +kernel) _ _) (vx_cwSW 4 hts gL_isRefused_L_entry rfl rfl rfl (by decide +kernel) ⟨Nat.le_of_ble_eq_true rfl, Nat.le_of_ble_eq_true rfl⟩) (YPc.preS hP hD hK hTK (hTH.kept hS.2.1) hN) rfl rfl hl.1 rfl (lv_room (Nat.le_of_ble_eq_true rfl)) dL_isRefused_228 ⟨Nat.le_of_ble_eq_true rfl, Nat.le_of_ble_eq_true rfl⟩) hS (fun q _ h => h) (fun q h => h) (fun r9 u9 t H locs ht hvm hw hB hz1 hk1 hS => ?_)
  obtain ⟨hP, hD, hN⟩ := hB
  rw [ht] at hP hN
  have hN : N + 11 ≤ H.size := hN
  have hP : va_P dG vwCl (XW xo g lb se tl ts (bI false) ++ (GW cJ g gA (nI 3) (nI 0) ns ++ (LW cI cJ lb aR aV aH aD aP rk vb rc hs D Pp ++ (SW cI g lb se qa qb qc qv qd qp ql qs vi pr wr ++ X)))) H := hP
  have hD : va_D A (XW xo g lb se tl ts (bI false) ++ (GW cJ g gA (nI 3) (nI 0) ns ++ (LW cI cJ lb aR aV aH aD aP rk vb rc hs D Pp ++ (SW cI g lb se qa qb qc qv qd qp ql qs vi pr wr ++ X)))) := hD
  rw [show r9 = (-3) from hw]
  refine lv_bipush (v := (-3)) hx hb dL_isRefused_231 (by decide) ?_
  refine lv_icmp_ne (tgt := 240) hx hb dL_isRefused_233 (by decide) (fun h9 => (show False by revert h9; decide +kernel).elim) (fun _ => ?_)
  refine lv_iconst (v := (nI 1)) hx hb dL_isRefused_236 (by decide) ?_
  refine lv_goto (tgt := 241) hx hb dL_isRefused_237 (by decide) ?_
  refine lv_istore (lv' := [(6, .int (nI 1)), (7, .int (nI 1)), (4, .long ((gph 3 pr wr) + ((3) * ((nI 0).toInt64)))), (3, .int (nI 24)), (2, .int (nI 0)), (0, .ref xo), (1, .int (nI 21))]) hx hb dL_isRefused_241 hl (by decide) rfl (fun ls hl => ?_)
  refine lv_iinc (v := (nI 2)) (lv' := [(7, .int (nI 2)), (6, .int (nI 1)), (4, .long ((gph 3 pr wr) + ((3) * ((nI 0).toInt64)))), (3, .int (nI 24)), (2, .int (nI 0)), (0, .ref xo), (1, .int (nI 21))]) hx hb dL_isRefused_243 hl (k := 1) rfl (by decide +kernel) (by decide) rfl (fun ls hl => ?_)
  refine lv_goto (tgt := 193) hx hb dL_isRefused_246 (by decide) ?_
  refine lv_iload hx hb dL_isRefused_193 (lv_at hl 0 rfl) ?_
  refine lv_iconst (v := (nI 5)) hx hb dL_isRefused_195 (by decide) ?_
  refine lv_icmp_ge (tgt := 249) hx hb dL_isRefused_196 (by decide) (fun h9 => (show False by revert h9; decide +kernel).elim) (fun _ => ?_)
  refine lv_iload hx hb dL_isRefused_199 (lv_at hl 1 rfl) ?_
  refine lv_if_eq (tgt := 249) hx hb dL_isRefused_201 (by decide) (fun h9 => absurd h9 (by decide)) (fun _ => ?_)
  refine lv_aload_n hx hb dL_isRefused_204 rfl (lv_at hl 5 rfl) ?_
  refine lv_iload hx hb dL_isRefused_205 (lv_at hl 0 rfl) ?_
  refine lv_iload_n hx hb dL_isRefused_207 rfl (lv_at hl 3 rfl) ?_
  refine lv_iconst (v := (nI 0)) hx hb dL_isRefused_208 (by decide) ?_
  refine va_calli (vx_runSW (hh := [(0, 58, 59, 27), (0, 58, 64, 15)]) (As := [.ref xo, .int (nI 2), .int (nI 24), .int (nI 0)]) (rest := []) ⟨hx, hb, hml, hown, hts⟩ (t_of_2_1 l hlt dG cI cJ A xo tl ts se lb g gA 3 ns (by decide) (nI 24) (nI 0) (by decide +kernel) _ _) (vx_cwSW 4 hts gL_isRefused_L_of rfl rfl rfl (by decide +kernel) ⟨Nat.le_of_ble_eq_true rfl, Nat.le_of_ble_eq_true rfl⟩) (YPc.preS hP hD hK hTK (hTH.kept hS.2.1) hN) rfl rfl hl.1 rfl (lv_room (Nat.le_of_ble_eq_true rfl)) dL_isRefused_209 ⟨Nat.le_of_ble_eq_true rfl, Nat.le_of_ble_eq_true rfl⟩) hS (fun q _ h => h) (fun q h => h) (fun r9 u9 t H locs ht hvm hw hB hz1 hk1 hS => ?_)
  obtain ⟨hP, hD, hN⟩ := hB
  rw [ht] at hP hN
  have hN : N + 12 ≤ H.size := hN
  have hP : va_P dG vwCl (XW xo g lb se tl ts (bI false) ++ (GW cJ g gA (nI 3) (nI 0) ns ++ (LW cI cJ lb aR aV aH aD aP rk vb rc hs D Pp ++ (SW cI g lb se qa qb qc qv qd qp ql qs vi pr wr ++ X)))) H := hP
  have hD : va_D A (XW xo g lb se tl ts (bI false) ++ (GW cJ g gA (nI 3) (nI 0) ns ++ (LW cI cJ lb aR aV aH aD aP rk vb rc hs D Pp ++ (SW cI g lb se qa qb qc qv qd qp ql qs vi pr wr ++ X)))) := hD
  rw [show r9 = (-3) from hw]
  refine lv_bipush (v := (-3)) hx hb dL_isRefused_212 (by decide) ?_
  refine lv_icmp_ne (tgt := 240) hx hb dL_isRefused_214 (by decide) (fun h9 => (show False by revert h9; decide +kernel).elim) (fun _ => ?_)
  refine lv_iload hx hb dL_isRefused_217 (lv_at hl 0 rfl) ?_
  refine lv_iconst (v := (nI 2)) hx hb dL_isRefused_219 (by decide) ?_
  refine lv_icmp_gt (tgt := 236) hx hb dL_isRefused_220 (by decide) (fun h9 => (show False by revert h9; decide +kernel).elim) (fun _ => ?_)
  refine lv_aload_n hx hb dL_isRefused_223 rfl (lv_at hl 5 rfl) ?_
  refine lv_iload hx hb dL_isRefused_224 (lv_at hl 0 rfl) ?_
  refine lv_iload_n hx hb dL_isRefused_226 rfl (lv_at hl 3 rfl) ?_
  refine lv_iconst (v := (-1)) hx hb dL_isRefused_227 (by decide) ?_
  refine va_calli (vx_runSW (hh := [(0, 33, 34, 27), (0, 33, 39, 15), (0, 33, 44, 21)]) (As := [.ref xo, .int (nI 2), .int (nI 24), .int (-1)]) (rest := []) ⟨hx, hb, hml, hown, hts⟩ (t_entry_2_1 l hlt dG cI cJ A xo tl ts se lb g gA 3 ns (by decide) (nI 24) (-1) (by decide +kernel) _ _) (vx_cwSW 4 hts gL_isRefused_L_entry rfl rfl rfl (by decide +kernel) ⟨Nat.le_of_ble_eq_true rfl, Nat.le_of_ble_eq_true rfl⟩) (YPc.preS hP hD hK hTK (hTH.kept hS.2.1) hN) rfl rfl hl.1 rfl (lv_room (Nat.le_of_ble_eq_true rfl)) dL_isRefused_228 ⟨Nat.le_of_ble_eq_true rfl, Nat.le_of_ble_eq_true rfl⟩) hS (fun q _ h => h) (fun q h => h) (fun r9 u9 t H locs ht hvm hw hB hz1 hk1 hS => ?_)
  obtain ⟨hP, hD, hN⟩ := hB
  rw [ht] at hP hN
  have hN : N + 13 ≤ H.size := hN
  have hP : va_P dG vwCl (XW xo g lb se tl ts (bI false) ++ (GW cJ g gA (nI 3) (nI 0) ns ++ (LW cI cJ lb aR aV aH aD aP rk vb rc hs D Pp ++ (SW cI g lb se qa qb qc qv qd qp ql qs vi pr wr ++ X)))) H := hP
  have hD : va_D A (XW xo g lb se tl ts (bI false) ++ (GW cJ g gA (nI 3) (nI 0) ns ++ (LW cI cJ lb aR aV aH aD aP rk vb rc hs D Pp ++ (SW cI g lb se qa qb qc qv qd qp ql qs vi pr wr ++ X)))) := hD
  rw [show r9 = (-3) from hw]
  refine lv_bipush (v := (-3)) hx hb dL_isRefused_231 (by decide) ?_
  refine lv_icmp_ne (tgt := 240) hx hb dL_isRefused_233 (by decide) (fun h9 => (show False by revert h9; decide +kernel).elim) (fun _ => ?_)
  refine lv_iconst (v := (nI 1)) hx hb dL_isRefused_236 (by decide) ?_
  refine lv_goto (tgt := 241) hx hb dL_isRefused_237 (by decide) ?_
  refine lv_istore (lv' := [(6, .int (nI 1)), (7, .int (nI 2)), (4, .long ((gph 3 pr wr) + ((3) * ((nI 0).toInt64)))), (3, .int (nI 24)), (2, .int (nI 0)), (0, .ref xo), (1, .int (nI 21))]) hx hb dL_isRefused_241 hl (by decide) rfl (fun ls hl => ?_)
  refine lv_iinc (v := (nI 3)) (lv' := [(7, .int (nI 3)), (6, .int (nI 1)), (4, .long ((gph 3 pr wr) + ((3) * ((nI 0).toInt64)))), (3, .int (nI 24)), (2, .int (nI 0)), (0, .ref xo), (1, .int (nI 21))]) hx hb dL_isRefused_243 hl (k := 1) rfl (by decide +kernel) (by decide) rfl (fun ls hl => ?_)
  refine lv_goto (tgt := 193) hx hb dL_isRefused_246 (by decide) ?_
  refine lv_iload hx hb dL_isRefused_193 (lv_at hl 0 rfl) ?_
  refine lv_iconst (v := (nI 5)) hx hb dL_isRefused_195 (by decide) ?_
  refine lv_icmp_ge (tgt := 249) hx hb dL_isRefused_196 (by decide) (fun h9 => (show False by revert h9; decide +kernel).elim) (fun _ => ?_)
  refine lv_iload hx hb dL_isRefused_199 (lv_at hl 1 rfl) ?_
  refine lv_if_eq (tgt := 249) hx hb dL_isRefused_201 (by decide) (fun h9 => absurd h9 (by decide)) (fun _ => ?_)
  refine lv_aload_n hx hb dL_isRefused_204 rfl (lv_at hl 5 rfl) ?_
  refine lv_iload hx hb dL_isRefused_205 (lv_at hl 0 rfl) ?_
  refine lv_iload_n hx hb dL_isRefused_207 rfl (lv_at hl 3 rfl) ?_
  refine lv_iconst (v := (nI 0)) hx hb dL_isRefused_208 (by decide) ?_
  refine va_calli (vx_runSW (hh := [(0, 58, 59, 27), (0, 58, 64, 15)]) (As := [.ref xo, .int (nI 3), .int (nI 24), .int (nI 0)]) (rest := []) ⟨hx, hb, hml, hown, hts⟩ (t_of_3_1 l hlt dG cI cJ A xo tl ts se lb g gA 3 ns (by decide) (nI 24) (nI 0) (by decide +kernel) _ _) (vx_cwSW 4 hts gL_isRefused_L_of rfl rfl rfl (by decide +kernel) ⟨Nat.le_of_ble_eq_true rfl, Nat.le_of_ble_eq_true rfl⟩) (YPc.preS hP hD hK hTK (hTH.kept hS.2.1) hN) rfl rfl hl.1 rfl (lv_room (Nat.le_of_ble_eq_true rfl)) dL_isRefused_209 ⟨Nat.le_of_ble_eq_true rfl, Nat.le_of_ble_eq_true rfl⟩) hS (fun q _ h => h) (fun q h => h) (fun r9 u9 t H locs ht hvm hw hB hz1 hk1 hS => ?_)
  obtain ⟨hP, hD, hN⟩ := hB
  rw [ht] at hP hN
  have hN : N + 14 ≤ H.size := hN
  have hP : va_P dG vwCl (XW xo g lb se tl ts (bI false) ++ (GW cJ g gA (nI 3) (nI 0) ns ++ (LW cI cJ lb aR aV aH aD aP rk vb rc hs D Pp ++ (SW cI g lb se qa qb qc qv qd qp ql qs vi pr wr ++ X)))) H := hP
  have hD : va_D A (XW xo g lb se tl ts (bI false) ++ (GW cJ g gA (nI 3) (nI 0) ns ++ (LW cI cJ lb aR aV aH aD aP rk vb rc hs D Pp ++ (SW cI g lb se qa qb qc qv qd qp ql qs vi pr wr ++ X)))) := hD
  rw [show r9 = (-3) from hw]
  refine lv_bipush (v := (-3)) hx hb dL_isRefused_212 (by decide) ?_
  refine lv_icmp_ne (tgt := 240) hx hb dL_isRefused_214 (by decide) (fun h9 => (show False by revert h9; decide +kernel).elim) (fun _ => ?_)
  refine lv_iload hx hb dL_isRefused_217 (lv_at hl 0 rfl) ?_
  refine lv_iconst (v := (nI 2)) hx hb dL_isRefused_219 (by decide) ?_
  refine lv_icmp_gt (tgt := 236) hx hb dL_isRefused_220 (by decide) (fun _ => ?_) (fun h9 => (show False by revert h9; decide +kernel).elim)
  refine lv_iconst (v := (nI 1)) hx hb dL_isRefused_236 (by decide) ?_
  refine lv_goto (tgt := 241) hx hb dL_isRefused_237 (by decide) ?_
  refine lv_istore (lv' := [(6, .int (nI 1)), (7, .int (nI 3)), (4, .long ((gph 3 pr wr) + ((3) * ((nI 0).toInt64)))), (3, .int (nI 24)), (2, .int (nI 0)), (0, .ref xo), (1, .int (nI 21))]) hx hb dL_isRefused_241 hl (by decide) rfl (fun ls hl => ?_)
  refine lv_iinc (v := (nI 4)) (lv' := [(7, .int (nI 4)), (6, .int (nI 1)), (4, .long ((gph 3 pr wr) + ((3) * ((nI 0).toInt64)))), (3, .int (nI 24)), (2, .int (nI 0)), (0, .ref xo), (1, .int (nI 21))]) hx hb dL_isRefused_243 hl (k := 1) rfl (by decide +kernel) (by decide) rfl (fun ls hl => ?_)
  refine lv_goto (tgt := 193) hx hb dL_isRefused_246 (by decide) ?_
  refine lv_iload hx hb dL_isRefused_193 (lv_at hl 0 rfl) ?_
  refine lv_iconst (v := (nI 5)) hx hb dL_isRefused_195 (by decide) ?_
  refine lv_icmp_ge (tgt := 249) hx hb dL_isRefused_196 (by decide) (fun h9 => (show False by revert h9; decide +kernel).elim) (fun _ => ?_)
  refine lv_iload hx hb dL_isRefused_199 (lv_at hl 1 rfl) ?_
  refine lv_if_eq (tgt := 249) hx hb dL_isRefused_201 (by decide) (fun h9 => absurd h9 (by decide)) (fun _ => ?_)
  refine lv_aload_n hx hb dL_isRefused_204 rfl (lv_at hl 5 rfl) ?_
  refine lv_iload hx hb dL_isRefused_205 (lv_at hl 0 rfl) ?_
  refine lv_iload_n hx hb dL_isRefused_207 rfl (lv_at hl 3 rfl) ?_
  refine lv_iconst (v := (nI 0)) hx hb dL_isRefused_208 (by decide) ?_
  refine va_calli (vx_runSW (hh := [(0, 58, 59, 27), (0, 58, 64, 15)]) (As := [.ref xo, .int (nI 4), .int (nI 24), .int (nI 0)]) (rest := []) ⟨hx, hb, hml, hown, hts⟩ (t_of_4_1 l hlt dG cI cJ A xo tl ts se lb g gA 3 ns (by decide) (nI 24) (nI 0) (by decide +kernel) _ _) (vx_cwSW 4 hts gL_isRefused_L_of rfl rfl rfl (by decide +kernel) ⟨Nat.le_of_ble_eq_true rfl, Nat.le_of_ble_eq_true rfl⟩) (YPc.preS hP hD hK hTK (hTH.kept hS.2.1) hN) rfl rfl hl.1 rfl (lv_room (Nat.le_of_ble_eq_true rfl)) dL_isRefused_209 ⟨Nat.le_of_ble_eq_true rfl, Nat.le_of_ble_eq_true rfl⟩) hS (fun q _ h => h) (fun q h => h) (fun r9 u9 t H locs ht hvm hw hB hz1 hk1 hS => ?_)
  obtain ⟨hP, hD, hN⟩ := hB
  rw [ht] at hP hN
  have hN : N + 15 ≤ H.size := hN
  have hP : va_P dG vwCl (XW xo g lb se tl ts (bI false) ++ (GW cJ g gA (nI 3) (nI 0) ns ++ (LW cI cJ lb aR aV aH aD aP rk vb rc hs D Pp ++ (SW cI g lb se qa qb qc qv qd qp ql qs vi pr wr ++ X)))) H := hP
  have hD : va_D A (XW xo g lb se tl ts (bI false) ++ (GW cJ g gA (nI 3) (nI 0) ns ++ (LW cI cJ lb aR aV aH aD aP rk vb rc hs D Pp ++ (SW cI g lb se qa qb qc qv qd qp ql qs vi pr wr ++ X)))) := hD
  rw [show r9 = (-3) from hw]
  refine lv_bipush (v := (-3)) hx hb dL_isRefused_212 (by decide) ?_
  refine lv_icmp_ne (tgt := 240) hx hb dL_isRefused_214 (by decide) (fun h9 => (show False by revert h9; decide +kernel).elim) (fun _ => ?_)
  refine lv_iload hx hb dL_isRefused_217 (lv_at hl 0 rfl) ?_
  refine lv_iconst (v := (nI 2)) hx hb dL_isRefused_219 (by decide) ?_
  refine lv_icmp_gt (tgt := 236) hx hb dL_isRefused_220 (by decide) (fun _ => ?_) (fun h9 => (show False by revert h9; decide +kernel).elim)
  refine lv_iconst (v := (nI 1)) hx hb dL_isRefused_236 (by decide) ?_
  refine lv_goto (tgt := 241) hx hb dL_isRefused_237 (by decide) ?_
  refine lv_istore (lv' := [(6, .int (nI 1)), (7, .int (nI 4)), (4, .long ((gph 3 pr wr) + ((3) * ((nI 0).toInt64)))), (3, .int (nI 24)), (2, .int (nI 0)), (0, .ref xo), (1, .int (nI 21))]) hx hb dL_isRefused_241 hl (by decide) rfl (fun ls hl => ?_)
  refine lv_iinc (v := (nI 5)) (lv' := [(7, .int (nI 5)), (6, .int (nI 1)), (4, .long ((gph 3 pr wr) + ((3) * ((nI 0).toInt64)))), (3, .int (nI 24)), (2, .int (nI 0)), (0, .ref xo), (1, .int (nI 21))]) hx hb dL_isRefused_243 hl (k := 1) rfl (by decide +kernel) (by decide) rfl (fun ls hl => ?_)
  refine lv_goto (tgt := 193) hx hb dL_isRefused_246 (by decide) ?_
  refine lv_iload hx hb dL_isRefused_193 (lv_at hl 0 rfl) ?_
  refine lv_iconst (v := (nI 5)) hx hb dL_isRefused_195 (by decide) ?_
  refine lv_icmp_ge (tgt := 249) hx hb dL_isRefused_196 (by decide) (fun _ => ?_) (fun h9 => (show False by revert h9; decide +kernel).elim)
  refine lv_iload hx hb dL_isRefused_249 (lv_at hl 1 rfl) ?_
  refine lv_if_eq (tgt := 465) hx hb dL_isRefused_251 (by decide) (fun h9 => absurd h9 (by decide)) (fun _ => ?_)
  refine lv_aload_n hx hb dL_isRefused_254 rfl (lv_at hl 5 rfl) ?_
  have hPc := hP.sub (ws' := (XW xo g lb se tl ts (bI false) ++ (GW cJ g gA (nI 3) (nI 0) ns ++ (LW cI cJ lb aR aV aH aD aP rk vb rc hs D Pp)))) [0, 1, 2, 3, 4, 5, 6, 7, 8] rfl
  refine x_ri (W.runV (As := []) (rest := []) ⟨hx, hb, hml, hown, hts⟩ (c_vertices l dG cI cJ xo tl ts false se g gA 3 0 ns lb aR aV aH aD aP rk vb rc hs D Pp (by decide)) (cwV 0 hts gL_isRefused_X3_vertices rfl rfl rfl (by decide +kernel) ⟨Nat.le_of_ble_eq_true rfl, Nat.le_of_ble_eq_true rfl⟩) (RPc.pre hPc hK (va_recv hK.1 hPc (ci := 3) (q0 := 0) rfl rfl)) rfl rfl hl.1 rfl (lv_room (Nat.le_of_ble_eq_true rfl)) dL_isRefused_255 ⟨Nat.le_of_ble_eq_true rfl, Nat.le_of_ble_eq_true rfl⟩) ?_
  refine lv_if_le (tgt := 465) hx hb dL_isRefused_258 (by decide) (fun h9 => (show False by revert h9; decide +kernel).elim) (fun _ => ?_)
  refine lv_iload_n hx hb dL_isRefused_261 rfl (lv_at hl 6 rfl) ?_
  refine lv_iconst (v := (nI 2)) hx hb dL_isRefused_262 (by decide) ?_
  refine lv_idiv hx hb dL_isRefused_263 (by decide) ?_
  rw [show (nI 21) / (nI 2) = (nI 10) from by decide +kernel]
  refine lv_aload_n hx hb dL_isRefused_264 rfl (lv_at hl 5 rfl) ?_
  have hPc := hP.sub (ws' := (XW xo g lb se tl ts (bI false) ++ (GW cJ g gA (nI 3) (nI 0) ns ++ (LW cI cJ lb aR aV aH aD aP rk vb rc hs D Pp)))) [0, 1, 2, 3, 4, 5, 6, 7, 8] rfl
  refine x_ri (W.runV (As := []) (rest := [.int (nI 10)]) ⟨hx, hb, hml, hown, hts⟩ (c_vertices l dG cI cJ xo tl ts false se g gA 3 0 ns lb aR aV aH aD aP rk vb rc hs D Pp (by decide)) (cwV 0 hts gL_isRefused_X3_vertices rfl rfl rfl (by decide +kernel) ⟨Nat.le_of_ble_eq_true rfl, Nat.le_of_ble_eq_true rfl⟩) (RPc.pre hPc hK (va_recv hK.1 hPc (ci := 3) (q0 := 0) rfl rfl)) rfl rfl hl.1 rfl (lv_room (Nat.le_of_ble_eq_true rfl)) dL_isRefused_265 ⟨Nat.le_of_ble_eq_true rfl, Nat.le_of_ble_eq_true rfl⟩) ?_
  refine lv_irem hx hb dL_isRefused_268 (by decide) ?_
  rw [show (nI 10) - (nI 10) / (nI 3) * (nI 3) = (nI 1) from by decide +kernel]
  refine lv_istore (lv' := [(7, .int (nI 1)), (6, .int (nI 1)), (4, .long ((gph 3 pr wr) + ((3) * ((nI 0).toInt64)))), (3, .int (nI 24)), (2, .int (nI 0)), (0, .ref xo), (1, .int (nI 21))]) hx hb dL_isRefused_269 hl (by decide) rfl (fun ls hl => ?_)
  refine lv_aload_n hx hb dL_isRefused_271 rfl (lv_at hl 5 rfl) ?_
  refine lv_iload hx hb dL_isRefused_272 (lv_at hl 0 rfl) ?_
  refine lv_iload_n hx hb dL_isRefused_274 rfl (lv_at hl 3 rfl) ?_
  refine va_calli (vx_runSW (hh := [(0, 6, 7, 27), (0, 6, 11, 15)]) (As := [.ref xo, .int (nI 1), .int (nI 24)]) (rest := []) ⟨hx, hb, hml, hown, hts⟩ (t_addEdge_1 l hlt dG cI cJ A xo tl ts se lb g gA 3 ns (by decide) (nI 1) (nI 24) (by decide +kernel) _ _) (vx_cwSW 3 hts gL_isRefused_L_addEdge rfl rfl rfl (by decide +kernel) ⟨Nat.le_of_ble_eq_true rfl, Nat.le_of_ble_eq_true rfl⟩) (YPc.preS hP hD hK hTK (hTH.kept hS.2.1) hN) rfl rfl hl.1 rfl (lv_room (Nat.le_of_ble_eq_true rfl)) dL_isRefused_275 ⟨Nat.le_of_ble_eq_true rfl, Nat.le_of_ble_eq_true rfl⟩) hS (fun q _ h => h) (fun q h => h) (fun r9 u9 t H locs ht hvm hw hB hz1 hk1 hS => ?_)
  obtain ⟨hP, hD, hN⟩ := hB
  rw [ht] at hP hN
  have hN : N + 16 ≤ H.size := hN
  have hP : va_P dG vwCl (XW xo g lb se tl ts (bI false) ++ (GW cJ g gA (nI 3) (nI 0) ns ++ (LW cI cJ lb aR aV aH aD aP rk vb rc hs D Pp ++ (SW cI g lb se qa qb qc qv qd qp ql qs vi pr wr ++ X)))) H := hP
  have hD : va_D A (XW xo g lb se tl ts (bI false) ++ (GW cJ g gA (nI 3) (nI 0) ns ++ (LW cI cJ lb aR aV aH aD aP rk vb rc hs D Pp ++ (SW cI g lb se qa qb qc qv qd qp ql qs vi pr wr ++ X)))) := hD
  rw [show r9 = (-3) from hw]
  refine lv_bipush (v := (-3)) hx hb dL_isRefused_278 (by decide) ?_
  refine lv_icmp_ne (tgt := 393) hx hb dL_isRefused_280 (by decide) (fun h9 => (show False by revert h9; decide +kernel).elim) (fun _ => ?_)
  refine lv_aload_n hx hb dL_isRefused_283 rfl (lv_at hl 5 rfl) ?_
  refine lv_iload hx hb dL_isRefused_284 (lv_at hl 0 rfl) ?_
  refine lv_iload hx hb dL_isRefused_286 (lv_at hl 0 rfl) ?_
  refine va_calli (vx_runSW (hh := [(0, 6, 7, 27), (0, 6, 11, 15)]) (As := [.ref xo, .int (nI 1), .int (nI 1)]) (rest := []) ⟨hx, hb, hml, hown, hts⟩ (t_addEdge_2 l hlt dG cI cJ A xo tl ts se lb g gA 3 ns (by decide) 1 1 (by decide) (by decide) (Or.inl rfl) _ _) (vx_cwSW 3 hts gL_isRefused_L_addEdge rfl rfl rfl (by decide +kernel) ⟨Nat.le_of_ble_eq_true rfl, Nat.le_of_ble_eq_true rfl⟩) (YPc.preS hP hD hK hTK (hTH.kept hS.2.1) hN) rfl rfl hl.1 rfl (lv_room (Nat.le_of_ble_eq_true rfl)) dL_isRefused_288 ⟨Nat.le_of_ble_eq_true rfl, Nat.le_of_ble_eq_true rfl⟩) hS (fun q _ h => h) (fun q h => h) (fun r9 u9 t H locs ht hvm hw hB hz1 hk1 hS => ?_)
  obtain ⟨hP, hD, hN⟩ := hB
  rw [ht] at hP hN
  have hN : N + 17 ≤ H.size := hN
  have hP : va_P dG vwCl (XW xo g lb se tl ts (bI false) ++ (GW cJ g gA (nI 3) (nI 0) ns ++ (LW cI cJ lb aR aV aH aD aP rk vb rc hs D Pp ++ (SW cI g lb se qa qb qc qv qd qp ql qs vi pr wr ++ X)))) H := hP
  have hD : va_D A (XW xo g lb se tl ts (bI false) ++ (GW cJ g gA (nI 3) (nI 0) ns ++ (LW cI cJ lb aR aV aH aD aP rk vb rc hs D Pp ++ (SW cI g lb se qa qb qc qv qd qp ql qs vi pr wr ++ X)))) := hD
  rw [show r9 = (-5) from hw]
  refine lv_bipush (v := (-5)) hx hb dL_isRefused_291 (by decide) ?_
  refine lv_icmp_ne (tgt := 393) hx hb dL_isRefused_293 (by decide) (fun h9 => (show False by revert h9; decide +kernel).elim) (fun _ => ?_)
  refine lv_aload_n hx hb dL_isRefused_296 rfl (lv_at hl 5 rfl) ?_
  refine lv_iconst (v := (nI 2)) hx hb dL_isRefused_297 (by decide) ?_
  refine lv_iload hx hb dL_isRefused_298 (lv_at hl 0 rfl) ?_
  refine lv_iload_n hx hb dL_isRefused_300 rfl (lv_at hl 3 rfl) ?_
  refine va_calli (vx_runSW (hh := [(0, 58, 59, 27), (0, 58, 64, 15)]) (As := [.ref xo, .int (nI 2), .int (nI 1), .int (nI 24)]) (rest := []) ⟨hx, hb, hml, hown, hts⟩ (t_of_2_1 l hlt dG cI cJ A xo tl ts se lb g gA 3 ns (by decide) (nI 1) (nI 24) (by decide +kernel) _ _) (vx_cwSW 4 hts gL_isRefused_L_of rfl rfl rfl (by decide +kernel) ⟨Nat.le_of_ble_eq_true rfl, Nat.le_of_ble_eq_true rfl⟩) (YPc.preS hP hD hK hTK (hTH.kept hS.2.1) hN) rfl rfl hl.1 rfl (lv_room (Nat.le_of_ble_eq_true rfl)) dL_isRefused_301 ⟨Nat.le_of_ble_eq_true rfl, Nat.le_of_ble_eq_true rfl⟩) hS (fun q _ h => h) (fun q h => h) (fun r9 u9 t H locs ht hvm hw hB hz1 hk1 hS => ?_)
  obtain ⟨hP, hD, hN⟩ := hB
  rw [ht] at hP hN
  have hN : N + 18 ≤ H.size := hN
  have hP : va_P dG vwCl (XW xo g lb se tl ts (bI false) ++ (GW cJ g gA (nI 3) (nI 0) ns ++ (LW cI cJ lb aR aV aH aD aP rk vb rc hs D Pp ++ (SW cI g lb se qa qb qc qv qd qp ql qs vi pr wr ++ X)))) H := hP
  have hD : va_D A (XW xo g lb se tl ts (bI false) ++ (GW cJ g gA (nI 3) (nI 0) ns ++ (LW cI cJ lb aR aV aH aD aP rk vb rc hs D Pp ++ (SW cI g lb se qa qb qc qv qd qp ql qs vi pr wr ++ X)))) := hD
  rw [show r9 = (-3) from hw]
  refine lv_bipush (v := (-3)) hx hb dL_isRefused_304 (by decide) ?_
  refine lv_icmp_ne (tgt := 393) hx hb dL_isRefused_306 (by decide) (fun h9 => (show False by revert h9; decide +kernel).elim) (fun _ => ?_)
  refine lv_aload_n hx hb dL_isRefused_309 rfl (lv_at hl 5 rfl) ?_
  refine lv_iconst (v := (nI 3)) hx hb dL_isRefused_310 (by decide) ?_
  refine lv_iload hx hb dL_isRefused_311 (lv_at hl 0 rfl) ?_
  refine lv_iload_n hx hb dL_isRefused_313 rfl (lv_at hl 3 rfl) ?_
  refine va_calli (vx_runSW (hh := [(0, 58, 59, 27), (0, 58, 64, 15)]) (As := [.ref xo, .int (nI 3), .int (nI 1), .int (nI 24)]) (rest := []) ⟨hx, hb, hml, hown, hts⟩ (t_of_3_1 l hlt dG cI cJ A xo tl ts se lb g gA 3 ns (by decide) (nI 1) (nI 24) (by decide +kernel) _ _) (vx_cwSW 4 hts gL_isRefused_L_of rfl rfl rfl (by decide +kernel) ⟨Nat.le_of_ble_eq_true rfl, Nat.le_of_ble_eq_true rfl⟩) (YPc.preS hP hD hK hTK (hTH.kept hS.2.1) hN) rfl rfl hl.1 rfl (lv_room (Nat.le_of_ble_eq_true rfl)) dL_isRefused_314 ⟨Nat.le_of_ble_eq_true rfl, Nat.le_of_ble_eq_true rfl⟩) hS (fun q _ h => h) (fun q h => h) (fun r9 u9 t H locs ht hvm hw hB hz1 hk1 hS => ?_)
  obtain ⟨hP, hD, hN⟩ := hB
  rw [ht] at hP hN
  have hN : N + 19 ≤ H.size := hN
  have hP : va_P dG vwCl (XW xo g lb se tl ts (bI false) ++ (GW cJ g gA (nI 3) (nI 0) ns ++ (LW cI cJ lb aR aV aH aD aP rk vb rc hs D Pp ++ (SW cI g lb se qa qb qc qv qd qp ql qs vi pr wr ++ X)))) H := hP
  have hD : va_D A (XW xo g lb se tl ts (bI false) ++ (GW cJ g gA (nI 3) (nI 0) ns ++ (LW cI cJ lb aR aV aH aD aP rk vb rc hs D Pp ++ (SW cI g lb se qa qb qc qv qd qp ql qs vi pr wr ++ X)))) := hD
  rw [show r9 = (-3) from hw]
  refine lv_bipush (v := (-3)) hx hb dL_isRefused_317 (by decide) ?_
  refine lv_icmp_ne (tgt := 393) hx hb dL_isRefused_319 (by decide) (fun h9 => (show False by revert h9; decide +kernel).elim) (fun _ => ?_)
  refine lv_aload_n hx hb dL_isRefused_322 rfl (lv_at hl 5 rfl) ?_
  refine lv_iload hx hb dL_isRefused_323 (lv_at hl 0 rfl) ?_
  refine lv_iload hx hb dL_isRefused_325 (lv_at hl 0 rfl) ?_
  refine lv_iconst (v := (-1)) hx hb dL_isRefused_327 (by decide) ?_
  refine lv_iload_n hx hb dL_isRefused_328 rfl (lv_at hl 6 rfl) ?_
  refine lv_bipush (v := (nI 9)) hx hb dL_isRefused_329 (by decide) ?_
  refine lv_irem hx hb dL_isRefused_331 (by decide) ?_
  rw [show (nI 21) - (nI 21) / (nI 9) * (nI 9) = (nI 3) from by decide +kernel]
  refine lv_isub hx hb dL_isRefused_332 ?_
  rw [show (-1) - (nI 3) = (-4) from by decide +kernel]
  refine va_calli (vx_runSW (hh := [(0, 7, 8, 27), (0, 7, 13, 15), (0, 7, 18, 21)]) (As := [.ref xo, .int (nI 1), .int (nI 1), .int (-4)]) (rest := []) ⟨hx, hb, hml, hown, hts⟩ (t_pathVertex_2 l hlt dG cI cJ A xo tl ts se lb g gA 3 ns (by decide) (nI 1) (nI 1) (-4) (by decide +kernel) _ _) (vx_cwSW 4 hts gL_isRefused_L_pathVertex rfl rfl rfl (by decide +kernel) ⟨Nat.le_of_ble_eq_true rfl, Nat.le_of_ble_eq_true rfl⟩) (YPc.preS hP hD hK hTK (hTH.kept hS.2.1) hN) rfl rfl hl.1 rfl (lv_room (Nat.le_of_ble_eq_true rfl)) dL_isRefused_333 ⟨Nat.le_of_ble_eq_true rfl, Nat.le_of_ble_eq_true rfl⟩) hS (fun q _ h => h) (fun q h => h) (fun r9 u9 t H locs ht hvm hw hB hz1 hk1 hS => ?_)
  obtain ⟨hP, hD, hN⟩ := hB
  rw [ht] at hP hN
  have hN : N + 20 ≤ H.size := hN
  have hP : va_P dG vwCl (XW xo g lb se tl ts (bI false) ++ (GW cJ g gA (nI 3) (nI 0) ns ++ (LW cI cJ lb aR aV aH aD aP rk vb rc hs D Pp ++ (SW cI g lb se qa qb qc qv qd qp ql qs vi pr wr ++ X)))) H := hP
  have hD : va_D A (XW xo g lb se tl ts (bI false) ++ (GW cJ g gA (nI 3) (nI 0) ns ++ (LW cI cJ lb aR aV aH aD aP rk vb rc hs D Pp ++ (SW cI g lb se qa qb qc qv qd qp ql qs vi pr wr ++ X)))) := hD
  rw [show r9 = (-5) from hw]
  refine lv_aload_n hx hb dL_isRefused_336 rfl (lv_at hl 5 rfl) ?_
  have hPc := hP.sub (ws' := (XW xo g lb se tl ts (bI false) ++ (GW cJ g gA (nI 3) (nI 0) ns ++ (LW cI cJ lb aR aV aH aD aP rk vb rc hs D Pp)))) [0, 1, 2, 3, 4, 5, 6, 7, 8] rfl
  refine x_ri (W.runV (As := []) (rest := [.int (-5)]) ⟨hx, hb, hml, hown, hts⟩ (c_isBuilt l dG cI cJ xo tl ts false se g gA 3 0 ns lb aR aV aH aD aP rk vb rc hs D Pp (by decide)) (cwV 0 hts gL_isRefused_X3_isBuilt rfl rfl rfl (by decide +kernel) ⟨Nat.le_of_ble_eq_true rfl, Nat.le_of_ble_eq_true rfl⟩) (RPc.pre hPc hK (va_recv hK.1 hPc (ci := 3) (q0 := 0) rfl rfl)) rfl rfl hl.1 rfl (lv_room (Nat.le_of_ble_eq_true rfl)) dL_isRefused_337 ⟨Nat.le_of_ble_eq_true rfl, Nat.le_of_ble_eq_true rfl⟩) ?_
  refine x_ifeqB (tgt := 348) hx hb dL_isRefused_340 (by decide) (fun h9 => ?_) (fun h9 => absurd h9 (by decide))
  refine lv_bipush (v := (-5)) hx hb dL_isRefused_348 (by decide) ?_
  refine lv_icmp_ne (tgt := 393) hx hb dL_isRefused_350 (by decide) (fun h9 => (show False by revert h9; decide +kernel).elim) (fun _ => ?_)
  refine lv_aload_n hx hb dL_isRefused_353 rfl (lv_at hl 5 rfl) ?_
  refine lv_iload hx hb dL_isRefused_354 (lv_at hl 0 rfl) ?_
  refine lv_iload_n hx hb dL_isRefused_356 rfl (lv_at hl 4 rfl) ?_
  refine lv_if_eq (tgt := 364) hx hb dL_isRefused_357 (by decide) (fun _ => ?_) (fun h9 => absurd rfl h9)
  refine lv_bipush (v := (nI 48)) hx hb dL_isRefused_364 (by decide) ?_
  refine va_calll (vx_runSW (hh := [(0, 6, 7, 27), (0, 6, 12, 15), (0, 6, 17, 21)]) (As := [.ref xo, .int (nI 1), .int (nI 48)]) (rest := []) ⟨hx, hb, hml, hown, hts⟩ (t_within_2 l hlt dG cI cJ A xo tl ts se lb g gA 3 ns (by decide) (nI 1) (nI 48) (by decide +kernel) _ _) (vx_cwSW 3 hts gL_isRefused_L_within rfl rfl rfl (by decide +kernel) ⟨Nat.le_of_ble_eq_true rfl, Nat.le_of_ble_eq_true rfl⟩) (YPc.preS hP hD hK hTK (hTH.kept hS.2.1) hN) rfl rfl hl.1 rfl (lv_room (Nat.le_of_ble_eq_true rfl)) dL_isRefused_366 ⟨Nat.le_of_ble_eq_true rfl, Nat.le_of_ble_eq_true rfl⟩) hS (fun q _ h => h) (fun q h => h) (fun r9 u9 t H locs ht hvm hw hB hz1 hk1 hS => ?_)
  obtain ⟨hP, hD, hN⟩ := hB
  rw [ht] at hP hN
  have hN : N + 21 ≤ H.size := hN
  have hP : va_P dG vwCl (XW xo g lb se tl ts (bI false) ++ (GW cJ g gA (nI 3) (nI 0) ns ++ (LW cI cJ lb aR aV aH aD aP rk vb rc hs D Pp ++ (SW cI g lb se qa qb qc qv qd qp ql qs vi pr wr ++ X)))) H := hP
  have hD : va_D A (XW xo g lb se tl ts (bI false) ++ (GW cJ g gA (nI 3) (nI 0) ns ++ (LW cI cJ lb aR aV aH aD aP rk vb rc hs D Pp ++ (SW cI g lb se qa qb qc qv qd qp ql qs vi pr wr ++ X)))) := hD
  rw [show r9 = (-5) from hw]
  refine lv_aload_n hx hb dL_isRefused_369 rfl (lv_at hl 5 rfl) ?_
  have hPc := hP.sub (ws' := (XW xo g lb se tl ts (bI false) ++ (GW cJ g gA (nI 3) (nI 0) ns ++ (LW cI cJ lb aR aV aH aD aP rk vb rc hs D Pp)))) [0, 1, 2, 3, 4, 5, 6, 7, 8] rfl
  refine x_ri (W.runV (As := []) (rest := [.long (-5)]) ⟨hx, hb, hml, hown, hts⟩ (c_isBuilt l dG cI cJ xo tl ts false se g gA 3 0 ns lb aR aV aH aD aP rk vb rc hs D Pp (by decide)) (cwV 0 hts gL_isRefused_X3_isBuilt rfl rfl rfl (by decide +kernel) ⟨Nat.le_of_ble_eq_true rfl, Nat.le_of_ble_eq_true rfl⟩) (RPc.pre hPc hK (va_recv hK.1 hPc (ci := 3) (q0 := 0) rfl rfl)) rfl rfl hl.1 rfl (lv_room (Nat.le_of_ble_eq_true rfl)) dL_isRefused_370 ⟨Nat.le_of_ble_eq_true rfl, Nat.le_of_ble_eq_true rfl⟩) ?_
  refine x_ifeqB (tgt := 382) hx hb dL_isRefused_373 (by decide) (fun h9 => ?_) (fun h9 => absurd h9 (by decide))
  refine lv_ldc2 hx hb hown (hts (.constantLong RL 63 (-5)) (by decide +kernel)) dL_isRefused_382 ?_
  refine W.lcmp hx hb dL_isRefused_385 ?_
  rw [show lg_cmp (-5) (-5) = (nI 0) from by decide +kernel]
  refine lv_if_ne (tgt := 393) hx hb dL_isRefused_386 (by decide) (fun h9 => absurd rfl h9) (fun _ => ?_)
  refine lv_iconst (v := (nI 1)) hx hb dL_isRefused_389 (by decide) ?_
  refine lv_goto (tgt := 394) hx hb dL_isRefused_390 (by decide) ?_
  refine lv_istore (lv' := [(6, .int (nI 1)), (7, .int (nI 1)), (4, .long ((gph 3 pr wr) + ((3) * ((nI 0).toInt64)))), (3, .int (nI 24)), (2, .int (nI 0)), (0, .ref xo), (1, .int (nI 21))]) hx hb dL_isRefused_394 hl (by decide) rfl (fun ls hl => ?_)
  refine lv_iconst (v := (nI 0)) hx hb dL_isRefused_396 (by decide) ?_
  refine lv_istore (lv' := [(8, .int (nI 0)), (6, .int (nI 1)), (7, .int (nI 1)), (4, .long ((gph 3 pr wr) + ((3) * ((nI 0).toInt64)))), (3, .int (nI 24)), (2, .int (nI 0)), (0, .ref xo), (1, .int (nI 21))]) hx hb dL_isRefused_397 hl (by decide) rfl (fun ls hl => ?_)
  refine lv_iload hx hb dL_isRefused_399 (lv_at hl 0 rfl) ?_
  refine lv_iconst (v := (nI 5)) hx hb dL_isRefused_401 (by decide) ?_
  refine lv_icmp_ge (tgt := 465) hx hb dL_isRefused_402 (by decide) (fun h9 => (show False by revert h9; decide +kernel).elim) (fun _ => ?_)
  refine lv_iload hx hb dL_isRefused_405 (lv_at hl 1 rfl) ?_
  refine lv_if_eq (tgt := 465) hx hb dL_isRefused_407 (by decide) (fun h9 => absurd h9 (by decide)) (fun _ => ?_)
  refine lv_aload_n hx hb dL_isRefused_410 rfl (lv_at hl 6 rfl) ?_
  have hPc := hP.sub (ws' := (XW xo g lb se tl ts (bI false) ++ (GW cJ g gA (nI 3) (nI 0) ns ++ (LW cI cJ lb aR aV aH aD aP rk vb rc hs D Pp)))) [0, 1, 2, 3, 4, 5, 6, 7, 8] rfl
  refine x_ri (W.runV (As := []) (rest := []) ⟨hx, hb, hml, hown, hts⟩ (c_isBuilt l dG cI cJ xo tl ts false se g gA 3 0 ns lb aR aV aH aD aP rk vb rc hs D Pp (by decide)) (cwV 0 hts gL_isRefused_X3_isBuilt rfl rfl rfl (by decide +kernel) ⟨Nat.le_of_ble_eq_true rfl, Nat.le_of_ble_eq_true rfl⟩) (RPc.pre hPc hK (va_recv hK.1 hPc (ci := 3) (q0 := 0) rfl rfl)) rfl rfl hl.1 rfl (lv_room (Nat.le_of_ble_eq_true rfl)) dL_isRefused_411 ⟨Nat.le_of_ble_eq_true rfl, Nat.le_of_ble_eq_true rfl⟩) ?_
  refine x_ifneB (tgt := 452) hx hb dL_isRefused_414 (by decide) (fun h9 => absurd h9 (by decide)) (fun h9 => ?_)
  refine lv_aload_n hx hb dL_isRefused_417 rfl (lv_at hl 6 rfl) ?_
  refine lv_iload hx hb dL_isRefused_418 (lv_at hl 0 rfl) ?_
  refine lv_iload hx hb dL_isRefused_420 (lv_at hl 2 rfl) ?_
  refine lv_iload hx hb dL_isRefused_422 (lv_at hl 2 rfl) ?_
  refine va_calli (vx_runSW (hh := [(0, 58, 59, 27), (0, 58, 64, 15)]) (As := [.ref xo, .int (nI 0), .int (nI 1), .int (nI 1)]) (rest := []) ⟨hx, hb, hml, hown, hts⟩ (t_of_0_2 l hlt dG cI cJ A xo tl ts se lb g gA 3 ns (by decide) (nI 1) (nI 1) (by decide +kernel) _ _) (vx_cwSW 4 hts gL_isRefused_L_of rfl rfl rfl (by decide +kernel) ⟨Nat.le_of_ble_eq_true rfl, Nat.le_of_ble_eq_true rfl⟩) (YPc.preS hP hD hK hTK (hTH.kept hS.2.1) hN) rfl rfl hl.1 rfl (lv_room (Nat.le_of_ble_eq_true rfl)) dL_isRefused_424 ⟨Nat.le_of_ble_eq_true rfl, Nat.le_of_ble_eq_true rfl⟩) hS (fun q _ h => h) (fun q h => h) (fun r9 u9 t H locs ht hvm hw hB hz1 hk1 hS => ?_)
  obtain ⟨hP, hD, hN⟩ := hB
  rw [ht] at hP hN
  have hN : N + 22 ≤ H.size := hN
  have hP : va_P dG vwCl (XW xo g lb se tl ts (bI false) ++ (GW cJ g gA (nI 3) (nI 0) ns ++ (LW cI cJ lb aR aV aH aD aP rk vb rc hs D Pp ++ (SW cI g lb se qa qb qc qv qd qp ql qs vi pr wr ++ X)))) H := hP
  have hD : va_D A (XW xo g lb se tl ts (bI false) ++ (GW cJ g gA (nI 3) (nI 0) ns ++ (LW cI cJ lb aR aV aH aD aP rk vb rc hs D Pp ++ (SW cI g lb se qa qb qc qv qd qp ql qs vi pr wr ++ X)))) := hD
  rw [show r9 = (-5) from hw]
  refine lv_bipush (v := (-5)) hx hb dL_isRefused_427 (by decide) ?_
  refine lv_icmp_ne (tgt := 456) hx hb dL_isRefused_429 (by decide) (fun h9 => (show False by revert h9; decide +kernel).elim) (fun _ => ?_)
  refine lv_iload hx hb dL_isRefused_432 (lv_at hl 0 rfl) ?_
  refine lv_iconst (v := (nI 2)) hx hb dL_isRefused_434 (by decide) ?_
  refine lv_icmp_gt (tgt := 452) hx hb dL_isRefused_435 (by decide) (fun h9 => (show False by revert h9; decide +kernel).elim) (fun _ => ?_)
  refine lv_aload_n hx hb dL_isRefused_438 rfl (lv_at hl 6 rfl) ?_
  refine lv_iload hx hb dL_isRefused_439 (lv_at hl 0 rfl) ?_
  refine lv_iload hx hb dL_isRefused_441 (lv_at hl 2 rfl) ?_
  refine lv_iconst (v := (nI 0)) hx hb dL_isRefused_443 (by decide) ?_
  refine va_calli (vx_runSW (hh := [(0, 33, 34, 27), (0, 33, 39, 15), (0, 33, 44, 21)]) (As := [.ref xo, .int (nI 0), .int (nI 1), .int (nI 0)]) (rest := []) ⟨hx, hb, hml, hown, hts⟩ (t_entry_0_2 l hlt dG cI cJ A xo tl ts se lb g gA 3 ns (by decide) (nI 1) (nI 0) (by decide +kernel) _ _) (vx_cwSW 4 hts gL_isRefused_L_entry rfl rfl rfl (by decide +kernel) ⟨Nat.le_of_ble_eq_true rfl, Nat.le_of_ble_eq_true rfl⟩) (YPc.preS hP hD hK hTK (hTH.kept hS.2.1) hN) rfl rfl hl.1 rfl (lv_room (Nat.le_of_ble_eq_true rfl)) dL_isRefused_444 ⟨Nat.le_of_ble_eq_true rfl, Nat.le_of_ble_eq_true rfl⟩) hS (fun q _ h => h) (fun q h => h) (fun r9 u9 t H locs ht hvm hw hB hz1 hk1 hS => ?_)
  obtain ⟨hP, hD, hN⟩ := hB
  rw [ht] at hP hN
  have hN : N + 23 ≤ H.size := hN
  have hP : va_P dG vwCl (XW xo g lb se tl ts (bI false) ++ (GW cJ g gA (nI 3) (nI 0) ns ++ (LW cI cJ lb aR aV aH aD aP rk vb rc hs D Pp ++ (SW cI g lb se qa qb qc qv qd qp ql qs vi pr wr ++ X)))) H := hP
  have hD : va_D A (XW xo g lb se tl ts (bI false) ++ (GW cJ g gA (nI 3) (nI 0) ns ++ (LW cI cJ lb aR aV aH aD aP rk vb rc hs D Pp ++ (SW cI g lb se qa qb qc qv qd qp ql qs vi pr wr ++ X)))) := hD
  rw [show r9 = (-5) from hw]
  refine lv_bipush (v := (-5)) hx hb dL_isRefused_447 (by decide) ?_
  refine lv_icmp_ne (tgt := 456) hx hb dL_isRefused_449 (by decide) (fun h9 => (show False by revert h9; decide +kernel).elim) (fun _ => ?_)
  refine lv_iconst (v := (nI 1)) hx hb dL_isRefused_452 (by decide) ?_
  refine lv_goto (tgt := 457) hx hb dL_isRefused_453 (by decide) ?_
  refine lv_istore (lv' := [(6, .int (nI 1)), (8, .int (nI 0)), (7, .int (nI 1)), (4, .long ((gph 3 pr wr) + ((3) * ((nI 0).toInt64)))), (3, .int (nI 24)), (2, .int (nI 0)), (0, .ref xo), (1, .int (nI 21))]) hx hb dL_isRefused_457 hl (by decide) rfl (fun ls hl => ?_)
  refine lv_iinc (v := (nI 1)) (lv' := [(8, .int (nI 1)), (6, .int (nI 1)), (7, .int (nI 1)), (4, .long ((gph 3 pr wr) + ((3) * ((nI 0).toInt64)))), (3, .int (nI 24)), (2, .int (nI 0)), (0, .ref xo), (1, .int (nI 21))]) hx hb dL_isRefused_459 hl (k := 1) rfl (by decide +kernel) (by decide) rfl (fun ls hl => ?_)
  refine lv_goto (tgt := 399) hx hb dL_isRefused_462 (by decide) ?_
  refine lv_iload hx hb dL_isRefused_399 (lv_at hl 0 rfl) ?_
  refine lv_iconst (v := (nI 5)) hx hb dL_isRefused_401 (by decide) ?_
  refine lv_icmp_ge (tgt := 465) hx hb dL_isRefused_402 (by decide) (fun h9 => (show False by revert h9; decide +kernel).elim) (fun _ => ?_)
  refine lv_iload hx hb dL_isRefused_405 (lv_at hl 1 rfl) ?_
  refine lv_if_eq (tgt := 465) hx hb dL_isRefused_407 (by decide) (fun h9 => absurd h9 (by decide)) (fun _ => ?_)
  refine lv_aload_n hx hb dL_isRefused_410 rfl (lv_at hl 6 rfl) ?_
  have hPc := hP.sub (ws' := (XW xo g lb se tl ts (bI false) ++ (GW cJ g gA (nI 3) (nI 0) ns ++ (LW cI cJ lb aR aV aH aD aP rk vb rc hs D Pp)))) [0, 1, 2, 3, 4, 5, 6, 7, 8] rfl
  refine x_ri (W.runV (As := []) (rest := []) ⟨hx, hb, hml, hown, hts⟩ (c_isBuilt l dG cI cJ xo tl ts false se g gA 3 0 ns lb aR aV aH aD aP rk vb rc hs D Pp (by decide)) (cwV 0 hts gL_isRefused_X3_isBuilt rfl rfl rfl (by decide +kernel) ⟨Nat.le_of_ble_eq_true rfl, Nat.le_of_ble_eq_true rfl⟩) (RPc.pre hPc hK (va_recv hK.1 hPc (ci := 3) (q0 := 0) rfl rfl)) rfl rfl hl.1 rfl (lv_room (Nat.le_of_ble_eq_true rfl)) dL_isRefused_411 ⟨Nat.le_of_ble_eq_true rfl, Nat.le_of_ble_eq_true rfl⟩) ?_
  refine x_ifneB (tgt := 452) hx hb dL_isRefused_414 (by decide) (fun h9 => absurd h9 (by decide)) (fun h9 => ?_)
  refine lv_aload_n hx hb dL_isRefused_417 rfl (lv_at hl 6 rfl) ?_
  refine lv_iload hx hb dL_isRefused_418 (lv_at hl 0 rfl) ?_
  refine lv_iload hx hb dL_isRefused_420 (lv_at hl 2 rfl) ?_
  refine lv_iload hx hb dL_isRefused_422 (lv_at hl 2 rfl) ?_
  refine va_calli (vx_runSW (hh := [(0, 58, 59, 27), (0, 58, 64, 15)]) (As := [.ref xo, .int (nI 1), .int (nI 1), .int (nI 1)]) (rest := []) ⟨hx, hb, hml, hown, hts⟩ (t_of_1_2 l hlt dG cI cJ A xo tl ts se lb g gA 3 ns (by decide) (nI 1) (nI 1) (by decide +kernel) _ _) (vx_cwSW 4 hts gL_isRefused_L_of rfl rfl rfl (by decide +kernel) ⟨Nat.le_of_ble_eq_true rfl, Nat.le_of_ble_eq_true rfl⟩) (YPc.preS hP hD hK hTK (hTH.kept hS.2.1) hN) rfl rfl hl.1 rfl (lv_room (Nat.le_of_ble_eq_true rfl)) dL_isRefused_424 ⟨Nat.le_of_ble_eq_true rfl, Nat.le_of_ble_eq_true rfl⟩) hS (fun q _ h => h) (fun q h => h) (fun r9 u9 t H locs ht hvm hw hB hz1 hk1 hS => ?_)
  obtain ⟨hP, hD, hN⟩ := hB
  rw [ht] at hP hN
  have hN : N + 24 ≤ H.size := hN
  have hP : va_P dG vwCl (XW xo g lb se tl ts (bI false) ++ (GW cJ g gA (nI 3) (nI 0) ns ++ (LW cI cJ lb aR aV aH aD aP rk vb rc hs D Pp ++ (SW cI g lb se qa qb qc qv qd qp ql qs vi pr wr ++ X)))) H := hP
  have hD : va_D A (XW xo g lb se tl ts (bI false) ++ (GW cJ g gA (nI 3) (nI 0) ns ++ (LW cI cJ lb aR aV aH aD aP rk vb rc hs D Pp ++ (SW cI g lb se qa qb qc qv qd qp ql qs vi pr wr ++ X)))) := hD
  rw [show r9 = (-5) from hw]
  refine lv_bipush (v := (-5)) hx hb dL_isRefused_427 (by decide) ?_
  refine lv_icmp_ne (tgt := 456) hx hb dL_isRefused_429 (by decide) (fun h9 => (show False by revert h9; decide +kernel).elim) (fun _ => ?_)
  refine lv_iload hx hb dL_isRefused_432 (lv_at hl 0 rfl) ?_
  refine lv_iconst (v := (nI 2)) hx hb dL_isRefused_434 (by decide) ?_
  refine lv_icmp_gt (tgt := 452) hx hb dL_isRefused_435 (by decide) (fun h9 => (show False by revert h9; decide +kernel).elim) (fun _ => ?_)
  refine lv_aload_n hx hb dL_isRefused_438 rfl (lv_at hl 6 rfl) ?_
  refine lv_iload hx hb dL_isRefused_439 (lv_at hl 0 rfl) ?_
  refine lv_iload hx hb dL_isRefused_441 (lv_at hl 2 rfl) ?_
  refine lv_iconst (v := (nI 0)) hx hb dL_isRefused_443 (by decide) ?_
  refine va_calli (vx_runSW (hh := [(0, 33, 34, 27), (0, 33, 39, 15), (0, 33, 44, 21)]) (As := [.ref xo, .int (nI 1), .int (nI 1), .int (nI 0)]) (rest := []) ⟨hx, hb, hml, hown, hts⟩ (t_entry_1_2 l hlt dG cI cJ A xo tl ts se lb g gA 3 ns (by decide) (nI 1) (nI 0) (by decide +kernel) _ _) (vx_cwSW 4 hts gL_isRefused_L_entry rfl rfl rfl (by decide +kernel) ⟨Nat.le_of_ble_eq_true rfl, Nat.le_of_ble_eq_true rfl⟩) (YPc.preS hP hD hK hTK (hTH.kept hS.2.1) hN) rfl rfl hl.1 rfl (lv_room (Nat.le_of_ble_eq_true rfl)) dL_isRefused_444 ⟨Nat.le_of_ble_eq_true rfl, Nat.le_of_ble_eq_true rfl⟩) hS (fun q _ h => h) (fun q h => h) (fun r9 u9 t H locs ht hvm hw hB hz1 hk1 hS => ?_)
  obtain ⟨hP, hD, hN⟩ := hB
  rw [ht] at hP hN
  have hN : N + 25 ≤ H.size := hN
  have hP : va_P dG vwCl (XW xo g lb se tl ts (bI false) ++ (GW cJ g gA (nI 3) (nI 0) ns ++ (LW cI cJ lb aR aV aH aD aP rk vb rc hs D Pp ++ (SW cI g lb se qa qb qc qv qd qp ql qs vi pr wr ++ X)))) H := hP
  have hD : va_D A (XW xo g lb se tl ts (bI false) ++ (GW cJ g gA (nI 3) (nI 0) ns ++ (LW cI cJ lb aR aV aH aD aP rk vb rc hs D Pp ++ (SW cI g lb se qa qb qc qv qd qp ql qs vi pr wr ++ X)))) := hD
  rw [show r9 = (-5) from hw]
  refine lv_bipush (v := (-5)) hx hb dL_isRefused_447 (by decide) ?_
  refine lv_icmp_ne (tgt := 456) hx hb dL_isRefused_449 (by decide) (fun h9 => (show False by revert h9; decide +kernel).elim) (fun _ => ?_)
  refine lv_iconst (v := (nI 1)) hx hb dL_isRefused_452 (by decide) ?_
  refine lv_goto (tgt := 457) hx hb dL_isRefused_453 (by decide) ?_
  refine lv_istore (lv' := [(6, .int (nI 1)), (8, .int (nI 1)), (7, .int (nI 1)), (4, .long ((gph 3 pr wr) + ((3) * ((nI 0).toInt64)))), (3, .int (nI 24)), (2, .int (nI 0)), (0, .ref xo), (1, .int (nI 21))]) hx hb dL_isRefused_457 hl (by decide) rfl (fun ls hl => ?_)
  refine lv_iinc (v := (nI 2)) (lv' := [(8, .int (nI 2)), (6, .int (nI 1)), (7, .int (nI 1)), (4, .long ((gph 3 pr wr) + ((3) * ((nI 0).toInt64)))), (3, .int (nI 24)), (2, .int (nI 0)), (0, .ref xo), (1, .int (nI 21))]) hx hb dL_isRefused_459 hl (k := 1) rfl (by decide +kernel) (by decide) rfl (fun ls hl => ?_)
  refine lv_goto (tgt := 399) hx hb dL_isRefused_462 (by decide) ?_
  refine lv_iload hx hb dL_isRefused_399 (lv_at hl 0 rfl) ?_
  refine lv_iconst (v := (nI 5)) hx hb dL_isRefused_401 (by decide) ?_
  refine lv_icmp_ge (tgt := 465) hx hb dL_isRefused_402 (by decide) (fun h9 => (show False by revert h9; decide +kernel).elim) (fun _ => ?_)
  refine lv_iload hx hb dL_isRefused_405 (lv_at hl 1 rfl) ?_
  refine lv_if_eq (tgt := 465) hx hb dL_isRefused_407 (by decide) (fun h9 => absurd h9 (by decide)) (fun _ => ?_)
  refine lv_aload_n hx hb dL_isRefused_410 rfl (lv_at hl 6 rfl) ?_
  have hPc := hP.sub (ws' := (XW xo g lb se tl ts (bI false) ++ (GW cJ g gA (nI 3) (nI 0) ns ++ (LW cI cJ lb aR aV aH aD aP rk vb rc hs D Pp)))) [0, 1, 2, 3, 4, 5, 6, 7, 8] rfl
  refine x_ri (W.runV (As := []) (rest := []) ⟨hx, hb, hml, hown, hts⟩ (c_isBuilt l dG cI cJ xo tl ts false se g gA 3 0 ns lb aR aV aH aD aP rk vb rc hs D Pp (by decide)) (cwV 0 hts gL_isRefused_X3_isBuilt rfl rfl rfl (by decide +kernel) ⟨Nat.le_of_ble_eq_true rfl, Nat.le_of_ble_eq_true rfl⟩) (RPc.pre hPc hK (va_recv hK.1 hPc (ci := 3) (q0 := 0) rfl rfl)) rfl rfl hl.1 rfl (lv_room (Nat.le_of_ble_eq_true rfl)) dL_isRefused_411 ⟨Nat.le_of_ble_eq_true rfl, Nat.le_of_ble_eq_true rfl⟩) ?_
  refine x_ifneB (tgt := 452) hx hb dL_isRefused_414 (by decide) (fun h9 => absurd h9 (by decide)) (fun h9 => ?_)
  refine lv_aload_n hx hb dL_isRefused_417 rfl (lv_at hl 6 rfl) ?_
  refine lv_iload hx hb dL_isRefused_418 (lv_at hl 0 rfl) ?_
  refine lv_iload hx hb dL_isRefused_420 (lv_at hl 2 rfl) ?_
  refine lv_iload hx hb dL_isRefused_422 (lv_at hl 2 rfl) ?_
  refine va_calli (vx_runSW (hh := [(0, 58, 59, 27), (0, 58, 64, 15)]) (As := [.ref xo, .int (nI 2), .int (nI 1), .int (nI 1)]) (rest := []) ⟨hx, hb, hml, hown, hts⟩ (t_of_2_2 l hlt dG cI cJ A xo tl ts se lb g gA 3 ns (by decide) (nI 1) (nI 1) (by decide +kernel) _ _) (vx_cwSW 4 hts gL_isRefused_L_of rfl rfl rfl (by decide +kernel) ⟨Nat.le_of_ble_eq_true rfl, Nat.le_of_ble_eq_true rfl⟩) (YPc.preS hP hD hK hTK (hTH.kept hS.2.1) hN) rfl rfl hl.1 rfl (lv_room (Nat.le_of_ble_eq_true rfl)) dL_isRefused_424 ⟨Nat.le_of_ble_eq_true rfl, Nat.le_of_ble_eq_true rfl⟩) hS (fun q _ h => h) (fun q h => h) (fun r9 u9 t H locs ht hvm hw hB hz1 hk1 hS => ?_)
  obtain ⟨hP, hD, hN⟩ := hB
  rw [ht] at hP hN
  have hN : N + 26 ≤ H.size := hN
  have hP : va_P dG vwCl (XW xo g lb se tl ts (bI false) ++ (GW cJ g gA (nI 3) (nI 0) ns ++ (LW cI cJ lb aR aV aH aD aP rk vb rc hs D Pp ++ (SW cI g lb se qa qb qc qv qd qp ql qs vi pr wr ++ X)))) H := hP
  have hD : va_D A (XW xo g lb se tl ts (bI false) ++ (GW cJ g gA (nI 3) (nI 0) ns ++ (LW cI cJ lb aR aV aH aD aP rk vb rc hs D Pp ++ (SW cI g lb se qa qb qc qv qd qp ql qs vi pr wr ++ X)))) := hD
  rw [show r9 = (-5) from hw]
  refine lv_bipush (v := (-5)) hx hb dL_isRefused_427 (by decide) ?_
  refine lv_icmp_ne (tgt := 456) hx hb dL_isRefused_429 (by decide) (fun h9 => (show False by revert h9; decide +kernel).elim) (fun _ => ?_)
  refine lv_iload hx hb dL_isRefused_432 (lv_at hl 0 rfl) ?_
  refine lv_iconst (v := (nI 2)) hx hb dL_isRefused_434 (by decide) ?_
  refine lv_icmp_gt (tgt := 452) hx hb dL_isRefused_435 (by decide) (fun h9 => (show False by revert h9; decide +kernel).elim) (fun _ => ?_)
  refine lv_aload_n hx hb dL_isRefused_438 rfl (lv_at hl 6 rfl) ?_
  refine lv_iload hx hb dL_isRefused_439 (lv_at hl 0 rfl) ?_
  refine lv_iload hx hb dL_isRefused_441 (lv_at hl 2 rfl) ?_
  refine lv_iconst (v := (nI 0)) hx hb dL_isRefused_443 (by decide) ?_
  refine va_calli (vx_runSW (hh := [(0, 33, 34, 27), (0, 33, 39, 15), (0, 33, 44, 21)]) (As := [.ref xo, .int (nI 2), .int (nI 1), .int (nI 0)]) (rest := []) ⟨hx, hb, hml, hown, hts⟩ (t_entry_2_2 l hlt dG cI cJ A xo tl ts se lb g gA 3 ns (by decide) (nI 1) (nI 0) (by decide +kernel) _ _) (vx_cwSW 4 hts gL_isRefused_L_entry rfl rfl rfl (by decide +kernel) ⟨Nat.le_of_ble_eq_true rfl, Nat.le_of_ble_eq_true rfl⟩) (YPc.preS hP hD hK hTK (hTH.kept hS.2.1) hN) rfl rfl hl.1 rfl (lv_room (Nat.le_of_ble_eq_true rfl)) dL_isRefused_444 ⟨Nat.le_of_ble_eq_true rfl, Nat.le_of_ble_eq_true rfl⟩) hS (fun q _ h => h) (fun q h => h) (fun r9 u9 t H locs ht hvm hw hB hz1 hk1 hS => ?_)
  obtain ⟨hP, hD, hN⟩ := hB
  rw [ht] at hP hN
  have hN : N + 27 ≤ H.size := hN
  have hP : va_P dG vwCl (XW xo g lb se tl ts (bI false) ++ (GW cJ g gA (nI 3) (nI 0) ns ++ (LW cI cJ lb aR aV aH aD aP rk vb rc hs D Pp ++ (SW cI g lb se qa qb qc qv qd qp ql qs vi pr wr ++ X)))) H := hP
  have hD : va_D A (XW xo g lb se tl ts (bI false) ++ (GW cJ g gA (nI 3) (nI 0) ns ++ (LW cI cJ lb aR aV aH aD aP rk vb rc hs D Pp ++ (SW cI g lb se qa qb qc qv qd qp ql qs vi pr wr ++ X)))) := hD
  rw [show r9 = (-5) from hw]
  refine lv_bipush (v := (-5)) hx hb dL_isRefused_447 (by decide) ?_
  refine lv_icmp_ne (tgt := 456) hx hb dL_isRefused_449 (by decide) (fun h9 => (show False by revert h9; decide +kernel).elim) (fun _ => ?_)
  refine lv_iconst (v := (nI 1)) hx hb dL_isRefused_452 (by decide) ?_
  refine lv_goto (tgt := 457) hx hb dL_isRefused_453 (by decide) ?_
  refine lv_istore (lv' := [(6, .int (nI 1)), (8, .int (nI 2)), (7, .int (nI 1)), (4, .long ((gph 3 pr wr) + ((3) * ((nI 0).toInt64)))), (3, .int (nI 24)), (2, .int (nI 0)), (0, .ref xo), (1, .int (nI 21))]) hx hb dL_isRefused_457 hl (by decide) rfl (fun ls hl => ?_)
  refine lv_iinc (v := (nI 3)) (lv' := [(8, .int (nI 3)), (6, .int (nI 1)), (7, .int (nI 1)), (4, .long ((gph 3 pr wr) + ((3) * ((nI 0).toInt64)))), (3, .int (nI 24)), (2, .int (nI 0)), (0, .ref xo), (1, .int (nI 21))]) hx hb dL_isRefused_459 hl (k := 1) rfl (by decide +kernel) (by decide) rfl (fun ls hl => ?_)
  refine lv_goto (tgt := 399) hx hb dL_isRefused_462 (by decide) ?_
  refine lv_iload hx hb dL_isRefused_399 (lv_at hl 0 rfl) ?_
  refine lv_iconst (v := (nI 5)) hx hb dL_isRefused_401 (by decide) ?_
  refine lv_icmp_ge (tgt := 465) hx hb dL_isRefused_402 (by decide) (fun h9 => (show False by revert h9; decide +kernel).elim) (fun _ => ?_)
  refine lv_iload hx hb dL_isRefused_405 (lv_at hl 1 rfl) ?_
  refine lv_if_eq (tgt := 465) hx hb dL_isRefused_407 (by decide) (fun h9 => absurd h9 (by decide)) (fun _ => ?_)
  refine lv_aload_n hx hb dL_isRefused_410 rfl (lv_at hl 6 rfl) ?_
  have hPc := hP.sub (ws' := (XW xo g lb se tl ts (bI false) ++ (GW cJ g gA (nI 3) (nI 0) ns ++ (LW cI cJ lb aR aV aH aD aP rk vb rc hs D Pp)))) [0, 1, 2, 3, 4, 5, 6, 7, 8] rfl
  refine x_ri (W.runV (As := []) (rest := []) ⟨hx, hb, hml, hown, hts⟩ (c_isBuilt l dG cI cJ xo tl ts false se g gA 3 0 ns lb aR aV aH aD aP rk vb rc hs D Pp (by decide)) (cwV 0 hts gL_isRefused_X3_isBuilt rfl rfl rfl (by decide +kernel) ⟨Nat.le_of_ble_eq_true rfl, Nat.le_of_ble_eq_true rfl⟩) (RPc.pre hPc hK (va_recv hK.1 hPc (ci := 3) (q0 := 0) rfl rfl)) rfl rfl hl.1 rfl (lv_room (Nat.le_of_ble_eq_true rfl)) dL_isRefused_411 ⟨Nat.le_of_ble_eq_true rfl, Nat.le_of_ble_eq_true rfl⟩) ?_
  refine x_ifneB (tgt := 452) hx hb dL_isRefused_414 (by decide) (fun h9 => absurd h9 (by decide)) (fun h9 => ?_)
  refine lv_aload_n hx hb dL_isRefused_417 rfl (lv_at hl 6 rfl) ?_
  refine lv_iload hx hb dL_isRefused_418 (lv_at hl 0 rfl) ?_
  refine lv_iload hx hb dL_isRefused_420 (lv_at hl 2 rfl) ?_
  refine lv_iload hx hb dL_isRefused_422 (lv_at hl 2 rfl) ?_
  refine va_calli (vx_runSW (hh := [(0, 58, 59, 27), (0, 58, 64, 15)]) (As := [.ref xo, .int (nI 3), .int (nI 1), .int (nI 1)]) (rest := []) ⟨hx, hb, hml, hown, hts⟩ (t_of_3_2 l hlt dG cI cJ A xo tl ts se lb g gA 3 ns (by decide) (nI 1) (nI 1) (by decide +kernel) _ _) (vx_cwSW 4 hts gL_isRefused_L_of rfl rfl rfl (by decide +kernel) ⟨Nat.le_of_ble_eq_true rfl, Nat.le_of_ble_eq_true rfl⟩) (YPc.preS hP hD hK hTK (hTH.kept hS.2.1) hN) rfl rfl hl.1 rfl (lv_room (Nat.le_of_ble_eq_true rfl)) dL_isRefused_424 ⟨Nat.le_of_ble_eq_true rfl, Nat.le_of_ble_eq_true rfl⟩) hS (fun q _ h => h) (fun q h => h) (fun r9 u9 t H locs ht hvm hw hB hz1 hk1 hS => ?_)
  obtain ⟨hP, hD, hN⟩ := hB
  rw [ht] at hP hN
  have hN : N + 28 ≤ H.size := hN
  have hP : va_P dG vwCl (XW xo g lb se tl ts (bI false) ++ (GW cJ g gA (nI 3) (nI 0) ns ++ (LW cI cJ lb aR aV aH aD aP rk vb rc hs D Pp ++ (SW cI g lb se qa qb qc qv qd qp ql qs vi pr wr ++ X)))) H := hP
  have hD : va_D A (XW xo g lb se tl ts (bI false) ++ (GW cJ g gA (nI 3) (nI 0) ns ++ (LW cI cJ lb aR aV aH aD aP rk vb rc hs D Pp ++ (SW cI g lb se qa qb qc qv qd qp ql qs vi pr wr ++ X)))) := hD
  rw [show r9 = (-5) from hw]
  refine lv_bipush (v := (-5)) hx hb dL_isRefused_427 (by decide) ?_
  refine lv_icmp_ne (tgt := 456) hx hb dL_isRefused_429 (by decide) (fun h9 => (show False by revert h9; decide +kernel).elim) (fun _ => ?_)
  refine lv_iload hx hb dL_isRefused_432 (lv_at hl 0 rfl) ?_
  refine lv_iconst (v := (nI 2)) hx hb dL_isRefused_434 (by decide) ?_
  refine lv_icmp_gt (tgt := 452) hx hb dL_isRefused_435 (by decide) (fun _ => ?_) (fun h9 => (show False by revert h9; decide +kernel).elim)
  refine lv_iconst (v := (nI 1)) hx hb dL_isRefused_452 (by decide) ?_
  refine lv_goto (tgt := 457) hx hb dL_isRefused_453 (by decide) ?_
  refine lv_istore (lv' := [(6, .int (nI 1)), (8, .int (nI 3)), (7, .int (nI 1)), (4, .long ((gph 3 pr wr) + ((3) * ((nI 0).toInt64)))), (3, .int (nI 24)), (2, .int (nI 0)), (0, .ref xo), (1, .int (nI 21))]) hx hb dL_isRefused_457 hl (by decide) rfl (fun ls hl => ?_)
  refine lv_iinc (v := (nI 4)) (lv' := [(8, .int (nI 4)), (6, .int (nI 1)), (7, .int (nI 1)), (4, .long ((gph 3 pr wr) + ((3) * ((nI 0).toInt64)))), (3, .int (nI 24)), (2, .int (nI 0)), (0, .ref xo), (1, .int (nI 21))]) hx hb dL_isRefused_459 hl (k := 1) rfl (by decide +kernel) (by decide) rfl (fun ls hl => ?_)
  refine lv_goto (tgt := 399) hx hb dL_isRefused_462 (by decide) ?_
  refine lv_iload hx hb dL_isRefused_399 (lv_at hl 0 rfl) ?_
  refine lv_iconst (v := (nI 5)) hx hb dL_isRefused_401 (by decide) ?_
  refine lv_icmp_ge (tgt := 465) hx hb dL_isRefused_402 (by decide) (fun h9 => (show False by revert h9; decide +kernel).elim) (fun _ => ?_)
  refine lv_iload hx hb dL_isRefused_405 (lv_at hl 1 rfl) ?_
  refine lv_if_eq (tgt := 465) hx hb dL_isRefused_407 (by decide) (fun h9 => absurd h9 (by decide)) (fun _ => ?_)
  refine lv_aload_n hx hb dL_isRefused_410 rfl (lv_at hl 6 rfl) ?_
  have hPc := hP.sub (ws' := (XW xo g lb se tl ts (bI false) ++ (GW cJ g gA (nI 3) (nI 0) ns ++ (LW cI cJ lb aR aV aH aD aP rk vb rc hs D Pp)))) [0, 1, 2, 3, 4, 5, 6, 7, 8] rfl
  refine x_ri (W.runV (As := []) (rest := []) ⟨hx, hb, hml, hown, hts⟩ (c_isBuilt l dG cI cJ xo tl ts false se g gA 3 0 ns lb aR aV aH aD aP rk vb rc hs D Pp (by decide)) (cwV 0 hts gL_isRefused_X3_isBuilt rfl rfl rfl (by decide +kernel) ⟨Nat.le_of_ble_eq_true rfl, Nat.le_of_ble_eq_true rfl⟩) (RPc.pre hPc hK (va_recv hK.1 hPc (ci := 3) (q0 := 0) rfl rfl)) rfl rfl hl.1 rfl (lv_room (Nat.le_of_ble_eq_true rfl)) dL_isRefused_411 ⟨Nat.le_of_ble_eq_true rfl, Nat.le_of_ble_eq_true rfl⟩) ?_
  refine x_ifneB (tgt := 452) hx hb dL_isRefused_414 (by decide) (fun h9 => absurd h9 (by decide)) (fun h9 => ?_)
  refine lv_aload_n hx hb dL_isRefused_417 rfl (lv_at hl 6 rfl) ?_
  refine lv_iload hx hb dL_isRefused_418 (lv_at hl 0 rfl) ?_
  refine lv_iload hx hb dL_isRefused_420 (lv_at hl 2 rfl) ?_
  refine lv_iload hx hb dL_isRefused_422 (lv_at hl 2 rfl) ?_
  refine va_calli (vx_runSW (hh := [(0, 58, 59, 27), (0, 58, 64, 15)]) (As := [.ref xo, .int (nI 4), .int (nI 1), .int (nI 1)]) (rest := []) ⟨hx, hb, hml, hown, hts⟩ (t_of_4_2 l hlt dG cI cJ A xo tl ts se lb g gA 3 ns (by decide) (nI 1) (nI 1) (by decide +kernel) _ _) (vx_cwSW 4 hts gL_isRefused_L_of rfl rfl rfl (by decide +kernel) ⟨Nat.le_of_ble_eq_true rfl, Nat.le_of_ble_eq_true rfl⟩) (YPc.preS hP hD hK hTK (hTH.kept hS.2.1) hN) rfl rfl hl.1 rfl (lv_room (Nat.le_of_ble_eq_true rfl)) dL_isRefused_424 ⟨Nat.le_of_ble_eq_true rfl, Nat.le_of_ble_eq_true rfl⟩) hS (fun q _ h => h) (fun q h => h) (fun r9 u9 t H locs ht hvm hw hB hz1 hk1 hS => ?_)
  obtain ⟨hP, hD, hN⟩ := hB
  rw [ht] at hP hN
  have hN : N + 29 ≤ H.size := hN
  have hP : va_P dG vwCl (XW xo g lb se tl ts (bI false) ++ (GW cJ g gA (nI 3) (nI 0) ns ++ (LW cI cJ lb aR aV aH aD aP rk vb rc hs D Pp ++ (SW cI g lb se qa qb qc qv qd qp ql qs vi pr wr ++ X)))) H := hP
  have hD : va_D A (XW xo g lb se tl ts (bI false) ++ (GW cJ g gA (nI 3) (nI 0) ns ++ (LW cI cJ lb aR aV aH aD aP rk vb rc hs D Pp ++ (SW cI g lb se qa qb qc qv qd qp ql qs vi pr wr ++ X)))) := hD
  rw [show r9 = (-5) from hw]
  refine lv_bipush (v := (-5)) hx hb dL_isRefused_427 (by decide) ?_
  refine lv_icmp_ne (tgt := 456) hx hb dL_isRefused_429 (by decide) (fun h9 => (show False by revert h9; decide +kernel).elim) (fun _ => ?_)
  refine lv_iload hx hb dL_isRefused_432 (lv_at hl 0 rfl) ?_
  refine lv_iconst (v := (nI 2)) hx hb dL_isRefused_434 (by decide) ?_
  refine lv_icmp_gt (tgt := 452) hx hb dL_isRefused_435 (by decide) (fun _ => ?_) (fun h9 => (show False by revert h9; decide +kernel).elim)
  refine lv_iconst (v := (nI 1)) hx hb dL_isRefused_452 (by decide) ?_
  refine lv_goto (tgt := 457) hx hb dL_isRefused_453 (by decide) ?_
  refine lv_istore (lv' := [(6, .int (nI 1)), (8, .int (nI 4)), (7, .int (nI 1)), (4, .long ((gph 3 pr wr) + ((3) * ((nI 0).toInt64)))), (3, .int (nI 24)), (2, .int (nI 0)), (0, .ref xo), (1, .int (nI 21))]) hx hb dL_isRefused_457 hl (by decide) rfl (fun ls hl => ?_)
  refine lv_iinc (v := (nI 5)) (lv' := [(8, .int (nI 5)), (6, .int (nI 1)), (7, .int (nI 1)), (4, .long ((gph 3 pr wr) + ((3) * ((nI 0).toInt64)))), (3, .int (nI 24)), (2, .int (nI 0)), (0, .ref xo), (1, .int (nI 21))]) hx hb dL_isRefused_459 hl (k := 1) rfl (by decide +kernel) (by decide) rfl (fun ls hl => ?_)
  refine lv_goto (tgt := 399) hx hb dL_isRefused_462 (by decide) ?_
  refine lv_iload hx hb dL_isRefused_399 (lv_at hl 0 rfl) ?_
  refine lv_iconst (v := (nI 5)) hx hb dL_isRefused_401 (by decide) ?_
  refine lv_icmp_ge (tgt := 465) hx hb dL_isRefused_402 (by decide) (fun _ => ?_) (fun h9 => (show False by revert h9; decide +kernel).elim)
  refine lv_iload hx hb dL_isRefused_465 (lv_at hl 1 rfl) ?_
  refine lv_if_eq (tgt := 493) hx hb dL_isRefused_467 (by decide) (fun h9 => absurd h9 (by decide)) (fun _ => ?_)
  refine lv_aload_n hx hb dL_isRefused_470 rfl (lv_at hl 6 rfl) ?_
  have hPc := hP.sub (ws' := (XW xo g lb se tl ts (bI false) ++ (GW cJ g gA (nI 3) (nI 0) ns ++ (LW cI cJ lb aR aV aH aD aP rk vb rc hs D Pp ++ (SW cI g lb se qa qb qc qv qd qp ql qs vi pr wr))))) [0, 1, 2, 3, 4, 5, 6, 7, 8, 9, 10, 11, 12] rfl
  refine x_rl (W.runS (As := [.ref xo]) (rest := []) ⟨hx, hb, hml, hown, hts⟩ (r_graph l dG cI cJ xo tl ts se lb g gA 3 ns aR aV aH aD aP rk vb rc hs D Pp qa qb qc qv qd qp ql qs vi pr wr (by decide) hns) (va_cwS 1 hts gL_isRefused_L_graph rfl rfl rfl (by decide +kernel) ⟨Nat.le_of_ble_eq_true rfl, Nat.le_of_ble_eq_true rfl⟩) (RPc.preS hPc hK) rfl rfl hl.1 rfl (lv_room (Nat.le_of_ble_eq_true rfl)) dL_isRefused_471 ⟨Nat.le_of_ble_eq_true rfl, Nat.le_of_ble_eq_true rfl⟩) ?_
  refine lv_ldc2 hx hb hown (hts (.constantLong RL 91 (3)) (by decide +kernel)) dL_isRefused_474 ?_
  refine lv_aload_n hx hb dL_isRefused_477 rfl (lv_at hl 6 rfl) ?_
  have hPc := hP.sub (ws' := (XW xo g lb se tl ts (bI false) ++ (GW cJ g gA (nI 3) (nI 0) ns ++ (LW cI cJ lb aR aV aH aD aP rk vb rc hs D Pp ++ (SW cI g lb se qa qb qc qv qd qp ql qs vi pr wr))))) [0, 1, 2, 3, 4, 5, 6, 7, 8, 9, 10, 11, 12] rfl
  refine x_rl (W.runS (As := [.ref xo]) (rest := [.long (3), .long (gph 3 pr wr)]) ⟨hx, hb, hml, hown, hts⟩ (r_labels l dG cI cJ xo tl ts se lb g gA 3 ns aR aV aH aD aP rk vb rc hs D Pp qa qb qc qv qd qp ql qs vi pr wr (by decide) hns) (va_cwS 1 hts gL_isRefused_L_labels rfl rfl rfl (by decide +kernel) ⟨Nat.le_of_ble_eq_true rfl, Nat.le_of_ble_eq_true rfl⟩) (RPc.preS hPc hK) rfl rfl hl.1 rfl (lv_room (Nat.le_of_ble_eq_true rfl)) dL_isRefused_478 ⟨Nat.le_of_ble_eq_true rfl, Nat.le_of_ble_eq_true rfl⟩) ?_
  refine lv_lmul hx hb dL_isRefused_481 ?_
  refine lv_ladd hx hb dL_isRefused_482 ?_
  refine lv_lload hx hb dL_isRefused_483 (lv_at hl 3 rfl) ?_
  refine W.lcmp hx hb dL_isRefused_485 ?_
  rw [lg_self]
  refine lv_if_ne (tgt := 493) hx hb dL_isRefused_486 (by decide) (fun h9 => absurd rfl h9) (fun _ => ?_)
  refine lv_iconst (v := (nI 1)) hx hb dL_isRefused_489 (by decide) ?_
  refine lv_goto (tgt := 494) hx hb dL_isRefused_490 (by decide) ?_
  exact W.zret (v := (nI 1)) (ty := .boolean) hx hb hr (by decide) (fun t ht hW => ⟨⟨_, (), rfl, (show (nI 1) = (bI true) from rfl), by rw [ht]; exact hP, hD, by rw [ht]; exact hN⟩, hS.F ht⟩) hS.2.2 dL_isRefused_494
