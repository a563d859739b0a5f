/-! the law's helpers, refused -/
set_option maxHeartbeats 4000000 in
set_option maxRecDepth 100000 in
theorem t_addVertices_1 (l : Launch) (hlt : l.stackTraces = false) (dG : va_G) (cI cJ : ClassId) (A : Nat → Prop) (xo tl ts se lb g gA n : Nat) (ns : Nat → Int64) (hn : n ≤ 48) (x : Int32) (hx9 : x < nI 1 ∨ nI 48 < x) (N : Nat) (X : va_W) : Met l yL_addVertices wsL_addVertices ({ frames := 7, cells := 1, slots := 6, locals := 112 } : Room) (YPc dG cI cJ [.ref xo, .int x] (XW xo g lb se tl ts (bI false) ++ (GW cJ g gA (nI n) (nI 0) ns ++ X)) A N) (va_Qi (S := Unit) (fun r _ => r = (-4)) (fun _ => YB dG A (XW xo g lb se tl ts (bI false) ++ (GW cJ g gA (nI n) (nI 0) ns ++ X)) (N + 1)) A) 1 6 A := by
  refine va_MetW (cc := cL_addVertices) (maxL := 3) (ret := (some .int)) (hh := [(0, 5, 6, 21), (0, 5, 10, 15)]) (by decide) rfl ?_
  intro p e s m args below meth c s₁ B9 hml hv
  obtain ⟨rfl, hP, hK, hD, hTK, hTH, hN⟩ := hv
  have hx := B9.exec
  have hb := B9.bytes
  have hr := B9.returns
  have hts := atoms_spec (ws := wsL_addVertices) B9.pre
  have hown : s.vm.findClass RL = some m.cls := findClass_of_methodNamed B9.named
  have hlocks := B9.notSynchronized
  have hS : va_S A s.heap s.heap [] := va_S.rf
  have hl := lv_entry ([.ref xo, .int x]) (n := 3) (Nat.le_of_ble_eq_true rfl)
  rw [lg_entry_eq]
  generalize (lg_sl ([.ref xo, .int x]) ++ List.replicate (3 - (lg_sl ([.ref xo, .int x])).length) Slot.unset).toArray = ls at hl ⊢
  have hl : lv_has ls 3 [(0, .ref xo), (1, .int x)] := hl
  have htab := vx_table (x := yL_addVertices) B9 (hts (.codeWith yL_addVertices cL_addVertices 3 (some .int) [(0, 5, 6, 21), (0, 5, 10, 15)]) (by decide +kernel))
  refine lv_aload_n hx hb dL_addVertices_0 rfl (lv_at hl 0 rfl) ?_
  refine lv_iload_n hx hb dL_addVertices_1 rfl (lv_at hl 1 rfl) ?_
  refine vx_calli (vx_runV (As := [.int x]) (rest := []) ⟨hx, hb, hml, hown, hts⟩ (x_addVertices1 l hlt dG cI cJ A xo tl ts false se lb g gA n 0 ns hn x hx9 _) (cwV 1 hts gL_addVertices_X3_addVertices rfl rfl rfl (by decide +kernel) ⟨Nat.le_of_ble_eq_true rfl, Nat.le_of_ble_eq_true rfl⟩) (XPc.pre hP hD hK hTK hTH (va_recv hK.1 hP (ci := 3) (q0 := 0) rfl rfl)) rfl rfl hl.1 rfl (lv_room (Nat.le_of_ble_eq_true rfl)) dL_addVertices_2 ⟨Nat.le_of_ble_eq_true rfl, Nat.le_of_ble_eq_true rfl⟩) hS (fun q _ h => h) (fun q h => h) (fun q _ h => h.elim) (fun E ce q9 u9 t H locs ht hvm _ hB hz1 hk1 hS hce hcv hcl => ?_) (fun _r9 u9 t H1 locs1 ht hvm hf _ _ _ _ => hf.elim)
  obtain ⟨hE, hP⟩ := hB
  have hE : E = "java/lang/IllegalArgumentException" := hE
  subst hE
  rw [ht] at hP
  have hN : N + 1 ≤ H.size := Nat.lt_of_le_of_lt hN hz1
  refine vx_catch (own := RL) (name := "java/lang/IllegalArgumentException") (pc := 2) hown [] ⟨0, 5, 6, 21⟩ [⟨0, 5, 10, 15⟩] (htab.trans rfl) (fun z h => nomatch h) (by decide) (by decide) (hts (.classLink RL 21 "java/lang/IllegalArgumentException") (by decide +kernel)) (va_Nw.use rfl (hTK.2.1 "java/lang/IllegalArgumentException" (by decide))) hce hcv hcl ?_
  refine lv_astore_n (lv' := [(2, .ref q9), (0, .ref xo), (1, .int x)]) hx hb dL_addVertices_6 rfl hl (by decide) rfl (fun ls hl => ?_)
  refine lv_bipush (v := (-4)) hx hb dL_addVertices_7 (by decide) ?_
  exact W.iret (v := (-4)) hx hb hr (fun t ht hW => ⟨⟨_, (), rfl, rfl, by rw [ht]; exact hP, hD, by rw [ht]; exact hN⟩, hS.F ht⟩) hS.2.2 dL_addVertices_9

set_option maxHeartbeats 4000000 in
set_option maxRecDepth 100000 in
theorem t_addVertices_2 (l : Launch) (hlt : l.stackTraces = false) (dG : va_G) (cI cJ : ClassId) (A : Nat → Prop) (xo tl ts se lb g gA n : Nat) (ns : Nat → Int64) (hn : n ≤ 48) (c0 : Nat) (h1 : 1 ≤ c0) (h2 : c0 ≤ 48) (h3 : 48 < n + c0) (N : Nat) (X : va_W) : Met l yL_addVertices wsL_addVertices ({ frames := 8, cells := 1, slots := 6, locals := 133 } : Room) (YPc dG cI cJ [.ref xo, .int (nI c0)] (XW xo g lb se tl ts (bI false) ++ (GW cJ g gA (nI n) (nI 0) ns ++ X)) A N) (va_Qi (S := Unit) (fun r _ => r = (-5)) (fun _ => YB dG A (XW xo g lb se tl ts (bI false) ++ (GW cJ g gA (nI n) (nI 0) ns ++ X)) (N + 1)) A) 1 6 A := by
  refine va_MetW (cc := cL_addVertices) (maxL := 3) (ret := (some .int)) (hh := [(0, 5, 6, 21), (0, 5, 10, 15)]) (by decide) rfl ?_
  intro p e s m args below meth c s₁ B9 hml hv
  obtain ⟨rfl, hP, hK, hD, hTK, hTH, hN⟩ := hv
  have hx := B9.exec
  have hb := B9.bytes
  have hr := B9.returns
  have hts := atoms_spec (ws := wsL_addVertices) B9.pre
  have hown : s.vm.findClass RL = some m.cls := findClass_of_methodNamed B9.named
  have hlocks := B9.notSynchronized
  have hS : va_S A s.heap s.heap [] := va_S.rf
  have hl := lv_entry ([.ref xo, .int (nI c0)]) (n := 3) (Nat.le_of_ble_eq_true rfl)
  rw [lg_entry_eq]
  generalize (lg_sl ([.ref xo, .int (nI c0)]) ++ List.replicate (3 - (lg_sl ([.ref xo, .int (nI c0)])).length) Slot.unset).toArray = ls at hl ⊢
  have hl : lv_has ls 3 [(0, .ref xo), (1, .int (nI c0))] := hl
  have htab := vx_table (x := yL_addVertices) B9 (hts (.codeWith yL_addVertices cL_addVertices 3 (some .int) [(0, 5, 6, 21), (0, 5, 10, 15)]) (by decide +kernel))
  refine lv_aload_n hx hb dL_addVertices_0 rfl (lv_at hl 0 rfl) ?_
  refine lv_iload_n hx hb dL_addVertices_1 rfl (lv_at hl 1 rfl) ?_
  refine vx_calli (vx_runV (As := [.int (nI c0)]) (rest := []) ⟨hx, hb, hml, hown, hts⟩ (x_addVertices2 l hlt dG cI cJ A xo tl ts false se lb g gA n 0 ns hn c0 h1 h2 h3 _) (cwV 1 hts gL_addVertices_X3_addVertices rfl rfl rfl (by decide +kernel) ⟨Nat.le_of_ble_eq_true rfl, Nat.le_of_ble_eq_true rfl⟩) (XPc.pre hP hD hK hTK hTH (va_recv hK.1 hP (ci := 3) (q0 := 0) rfl rfl)) rfl rfl hl.1 rfl (lv_room (Nat.le_of_ble_eq_true rfl)) dL_addVertices_2 ⟨Nat.le_of_ble_eq_true rfl, Nat.le_of_ble_eq_true rfl⟩) hS (fun q _ h => h) (fun q h => h) (fun q _ h => h.elim) (fun E ce q9 u9 t H locs ht hvm _ hB hz1 hk1 hS hce hcv hcl => ?_) (fun _r9 u9 t H1 locs1 ht hvm hf _ _ _ _ => hf.elim)
  obtain ⟨hE, hP⟩ := hB
  have hE : E = "java/lang/IllegalStateException" := hE
  subst hE
  rw [ht] at hP
  have hN : N + 1 ≤ H.size := Nat.lt_of_le_of_lt hN hz1
  refine vx_catch (own := RL) (name := "java/lang/IllegalStateException") (pc := 2) hown [⟨0, 5, 6, 21⟩] ⟨0, 5, 10, 15⟩ [] (htab.trans rfl) (List.forall_mem_cons.mpr ⟨Or.inr ⟨by decide, "java/lang/IllegalArgumentException", hts (.classLink RL 21 "java/lang/IllegalArgumentException") (by decide +kernel), hTK.2.2.1 "java/lang/IllegalStateException" (by decide) "java/lang/IllegalArgumentException" (by decide) (by decide)⟩, fun z h => nomatch h⟩) (by decide) (by decide) (hts (.classLink RL 15 "java/lang/IllegalStateException") (by decide +kernel)) (va_Nw.use rfl (hTK.2.1 "java/lang/IllegalStateException" (by decide))) hce hcv hcl ?_
  refine lv_astore_n (lv' := [(2, .ref q9), (0, .ref xo), (1, .int (nI c0))]) hx hb dL_addVertices_10 rfl hl (by decide) rfl (fun ls hl => ?_)
  refine lv_bipush (v := (-5)) hx hb dL_addVertices_11 (by decide) ?_
  exact W.iret (v := (-5)) hx hb hr (fun t ht hW => ⟨⟨_, (), rfl, rfl, by rw [ht]; exact hP, hD, by rw [ht]; exact hN⟩, hS.F ht⟩) hS.2.2 dL_addVertices_13

set_option maxHeartbeats 4000000 in
set_option maxRecDepth 100000 in
theorem t_addEdge_1 (l : Launch) (hlt : l.stackTraces = false) (dG : va_G) (cI cJ : ClassId) (A : Nat → Prop) (xo tl ts se lb g gA n : Nat) (ns : Nat → Int64) (hn : n ≤ 48) (x y : Int32) (hxy : (inV x n && inV y n) = false) (N : Nat) (X : va_W) : Met l yL_addEdge wsL_addEdge ({ frames := 8, cells := 1, slots := 6, locals := 134 } : Room) (YPc dG cI cJ [.ref xo, .int x, .int y] (XW xo g lb se tl ts (bI false) ++ (GW cJ g gA (nI n) (nI 0) ns ++ X)) A N) (va_Qi (S := Unit) (fun r _ => r = (-3)) (fun _ => YB dG A (XW xo g lb se tl ts (bI false) ++ (GW cJ g gA (nI n) (nI 0) ns ++ X)) (N + 1)) A) 1 6 A := by
  refine va_MetW (cc := cL_addEdge) (maxL := 4) (ret := (some .int)) (hh := [(0, 6, 7, 27), (0, 6, 11, 15)]) (by decide) rfl ?_
  intro p e s m args below meth c s₁ B9 hml hv
  obtain ⟨rfl, hP, hK, hD, hTK, hTH, hN⟩ := hv
  have hx := B9.exec
  have hb := B9.bytes
  have hr := B9.returns
  have hts := atoms_spec (ws := wsL_addEdge) B9.pre
  have hown : s.vm.findClass RL = some m.cls := findClass_of_methodNamed B9.named
  have hlocks := B9.notSynchronized
  have hS : va_S A s.heap s.heap [] := va_S.rf
  have hl := lv_entry ([.ref xo, .int x, .int y]) (n := 4) (Nat.le_of_ble_eq_true rfl)
  rw [lg_entry_eq]
  generalize (lg_sl ([.ref xo, .int x, .int y]) ++ List.replicate (4 - (lg_sl ([.ref xo, .int x, .int y])).length) Slot.unset).toArray = ls at hl ⊢
  have hl : lv_has ls 4 [(0, .ref xo), (1, .int x), (2, .int y)] := hl
  have htab := vx_table (x := yL_addEdge) B9 (hts (.codeWith yL_addEdge cL_addEdge 4 (some .int) [(0, 6, 7, 27), (0, 6, 11, 15)]) (by decide +kernel))
  refine lv_aload_n hx hb dL_addEdge_0 rfl (lv_at hl 0 rfl) ?_
  refine lv_iload_n hx hb dL_addEdge_1 rfl (lv_at hl 1 rfl) ?_
  refine lv_iload_n hx hb dL_addEdge_2 rfl (lv_at hl 2 rfl) ?_
  refine vx_calli (vx_runV (As := [.int x, .int y]) (rest := []) ⟨hx, hb, hml, hown, hts⟩ (x_addEdge1 l hlt dG cI cJ A xo tl ts false se lb g gA n 0 ns hn x y hxy _) (cwV 2 hts gL_addEdge_X3_addEdge rfl rfl rfl (by decide +kernel) ⟨Nat.le_of_ble_eq_true rfl, Nat.le_of_ble_eq_true rfl⟩) (XPc.pre hP hD hK hTK hTH (va_recv hK.1 hP (ci := 3) (q0 := 0) rfl rfl)) rfl rfl hl.1 rfl (lv_room (Nat.le_of_ble_eq_true rfl)) dL_addEdge_3 ⟨Nat.le_of_ble_eq_true rfl, Nat.le_of_ble_eq_true rfl⟩) hS (fun q _ h => h) (fun q h => h) (fun q _ h => h.elim) (fun E ce q9 u9 t H locs ht hvm _ hB hz1 hk1 hS hce hcv hcl => ?_) (fun _r9 u9 t H1 locs1 ht hvm hf _ _ _ _ => hf.elim)
  obtain ⟨hE, hP⟩ := hB
  have hE : E = "java/lang/IndexOutOfBoundsException" := hE
  subst hE
  rw [ht] at hP
  have hN : N + 1 ≤ H.size := Nat.lt_of_le_of_lt hN hz1
  refine vx_catch (own := RL) (name := "java/lang/IndexOutOfBoundsException") (pc := 3) hown [] ⟨0, 6, 7, 27⟩ [⟨0, 6, 11, 15⟩] (htab.trans rfl) (fun z h => nomatch h) (by decide) (by decide) (hts (.classLink RL 27 "java/lang/IndexOutOfBoundsException") (by decide +kernel)) (va_Nw.use rfl (hTK.2.1 "java/lang/IndexOutOfBoundsException" (by decide))) hce hcv hcl ?_
  refine lv_astore_n (lv' := [(3, .ref q9), (0, .ref xo), (1, .int x), (2, .int y)]) hx hb dL_addEdge_7 rfl hl (by decide) rfl (fun ls hl => ?_)
  refine lv_bipush (v := (-3)) hx hb dL_addEdge_8 (by decide) ?_
  exact W.iret (v := (-3)) hx hb hr (fun t ht hW => ⟨⟨_, (), rfl, rfl, by rw [ht]; exact hP, hD, by rw [ht]; exact hN⟩, hS.F ht⟩) hS.2.2 dL_addEdge_10

set_option maxHeartbeats 4000000 in
set_option maxRecDepth 100000 in
theorem t_addEdge_2 (l : Launch) (hlt : l.stackTraces = false) (dG : va_G) (cI cJ : ClassId) (A : Nat → Prop) (xo tl ts se lb g gA n : Nat) (ns : Nat → Int64) (hn : n ≤ 48) (a b : Nat) (ha : a < n) (hb9 : b < n) (h9 : a = b ∨ gb (ns a) b = true) (N : Nat) (X : va_W) : Met l yL_addEdge wsL_addEdge ({ frames := 7, cells := 1, slots := 6, locals := 112 } : Room) (YPc dG cI cJ [.ref xo, .int (nI a), .int (nI b)] (XW xo g lb se tl ts (bI false) ++ (GW cJ g gA (nI n) (nI 0) ns ++ X)) A N) (va_Qi (S := Unit) (fun r _ => r = (-5)) (fun _ => YB dG A (XW xo g lb se tl ts (bI false) ++ (GW cJ g gA (nI n) (nI 0) ns ++ X)) (N + 1)) A) 1 6 A := by
  refine va_MetW (cc := cL_addEdge) (maxL := 4) (ret := (some .int)) (hh := [(0, 6, 7, 27), (0, 6, 11, 15)]) (by decide) rfl ?_
  intro p e s m args below meth c s₁ B9 hml hv
  obtain ⟨rfl, hP, hK, hD, hTK, hTH, hN⟩ := hv
  have hx := B9.exec
  have hb := B9.bytes
  have hr := B9.returns
  have hts := atoms_spec (ws := wsL_addEdge) B9.pre
  have hown : s.vm.findClass RL = some m.cls := findClass_of_methodNamed B9.named
  have hlocks := B9.notSynchronized
  have hS : va_S A s.heap s.heap [] := va_S.rf
  have hl := lv_entry ([.ref xo, .int (nI a), .int (nI b)]) (n := 4) (Nat.le_of_ble_eq_true rfl)
  rw [lg_entry_eq]
  generalize (lg_sl ([.ref xo, .int (nI a), .int (nI b)]) ++ List.replicate (4 - (lg_sl ([.ref xo, .int (nI a), .int (nI b)])).length) Slot.unset).toArray = ls at hl ⊢
  have hl : lv_has ls 4 [(0, .ref xo), (1, .int (nI a)), (2, .int (nI b))] := hl
  have htab := vx_table (x := yL_addEdge) B9 (hts (.codeWith yL_addEdge cL_addEdge 4 (some .int) [(0, 6, 7, 27), (0, 6, 11, 15)]) (by decide +kernel))
  refine lv_aload_n hx hb dL_addEdge_0 rfl (lv_at hl 0 rfl) ?_
  refine lv_iload_n hx hb dL_addEdge_1 rfl (lv_at hl 1 rfl) ?_
  refine lv_iload_n hx hb dL_addEdge_2 rfl (lv_at hl 2 rfl) ?_
  refine vx_calli (vx_runV (As := [.int (nI a), .int (nI b)]) (rest := []) ⟨hx, hb, hml, hown, hts⟩ (x_addEdge2 l hlt dG cI cJ A xo tl ts false se lb g gA n 0 ns hn a b ha hb9 h9 _) (cwV 2 hts gL_addEdge_X3_addEdge rfl rfl rfl (by decide +kernel) ⟨Nat.le_of_ble_eq_true rfl, Nat.le_of_ble_eq_true rfl⟩) (XPc.pre hP hD hK hTK hTH (va_recv hK.1 hP (ci := 3) (q0 := 0) rfl rfl)) rfl rfl hl.1 rfl (lv_room (Nat.le_of_ble_eq_true rfl)) dL_addEdge_3 ⟨Nat.le_of_ble_eq_true rfl, Nat.le_of_ble_eq_true rfl⟩) hS (fun q _ h => h) (fun q h => h) (fun q _ h => h.elim) (fun E ce q9 u9 t H locs ht hvm _ hB hz1 hk1 hS hce hcv hcl => ?_) (fun _r9 u9 t H1 locs1 ht hvm hf _ _ _ _ => hf.elim)
  obtain ⟨hE, hP⟩ := hB
  have hE : E = "java/lang/IllegalStateException" := hE
  subst hE
  rw [ht] at hP
  have hN : N + 1 ≤ H.size := Nat.lt_of_le_of_lt hN hz1
  refine vx_catch (own := RL) (name := "java/lang/IllegalStateException") (pc := 3) hown [⟨0, 6, 7, 27⟩] ⟨0, 6, 11, 15⟩ [] (htab.trans rfl) (List.forall_mem_cons.mpr ⟨Or.inr ⟨by decide, "java/lang/IndexOutOfBoundsException", hts (.classLink RL 27 "java/lang/IndexOutOfBoundsException") (by decide +kernel), hTK.2.2.1 "java/lang/IllegalStateException" (by decide) "java/lang/IndexOutOfBoundsException" (by decide) (by decide)⟩, fun z h => nomatch h⟩) (by decide) (by decide) (hts (.classLink RL 15 "java/lang/IllegalStateException") (by decide +kernel)) (va_Nw.use rfl (hTK.2.1 "java/lang/IllegalStateException" (by decide))) hce hcv hcl ?_
  refine lv_astore_n (lv' := [(3, .ref q9), (0, .ref xo), (1, .int (nI a)), (2, .int (nI b))]) hx hb dL_addEdge_11 rfl hl (by decide) rfl (fun ls hl => ?_)
  refine lv_bipush (v := (-5)) hx hb dL_addEdge_12 (by decide) ?_
  exact W.iret (v := (-5)) hx hb hr (fun t ht hW => ⟨⟨_, (), rfl, rfl, by rw [ht]; exact hP, hD, by rw [ht]; exact hN⟩, hS.F ht⟩) hS.2.2 dL_addEdge_14

set_option maxHeartbeats 4000000 in
set_option maxRecDepth 100000 in
theorem t_neighbours_1 (l : Launch) (hlt : l.stackTraces = false) (dG : va_G) (cI cJ : ClassId) (A : Nat → Prop) (xo tl ts se lb g gA n : Nat) (ns : Nat → Int64) (hn : n ≤ 48) (x : Int32) (hx9 : inV x n = false) (N : Nat) (X : va_W) : Met l yL_neighbours wsL_neighbours ({ frames := 8, cells := 1, slots := 6, locals := 132 } : Room) (YPc dG cI cJ [.ref xo, .int x] (XW xo g lb se tl ts (bI false) ++ (GW cJ g gA (nI n) (nI 0) ns ++ X)) A N) (va_Ql (S := Unit) (fun r _ => r = (-3)) (fun _ => YB dG A (XW xo g lb se tl ts (bI false) ++ (GW cJ g gA (nI n) (nI 0) ns ++ X)) (N + 1)) A) 1 6 A := by
  refine va_MetW (cc := cL_neighbours) (maxL := 3) (ret := (some .long)) (hh := [(0, 5, 6, 27)]) (by decide) rfl ?_
  intro p e s m args below meth c s₁ B9 hml hv
  obtain ⟨rfl, hP, hK, hD, hTK, hTH, hN⟩ := hv
  have hx := B9.exec
  have hb := B9.bytes
  have hr := B9.returns
  have hts := atoms_spec (ws := wsL_neighbours) B9.pre
  have hown : s.vm.findClass RL = some m.cls := findClass_of_methodNamed B9.named
  have hlocks := B9.notSynchronized
  have hS : va_S A s.heap s.heap [] := va_S.rf
  have hl := lv_entry ([.ref xo, .int x]) (n := 3) (Nat.le_of_ble_eq_true rfl)
  rw [lg_entry_eq]
  generalize (lg_sl ([.ref xo, .int x]) ++ List.replicate (3 - (lg_sl ([.ref xo, .int x])).length) Slot.unset).toArray = ls at hl ⊢
  have hl : lv_has ls 3 [(0, .ref xo), (1, .int x)] := hl
  have htab := vx_table (x := yL_neighbours) B9 (hts (.codeWith yL_neighbours cL_neighbours 3 (some .long) [(0, 5, 6, 27)]) (by decide +kernel))
  refine lv_aload_n hx hb dL_neighbours_0 rfl (lv_at hl 0 rfl) ?_
  refine lv_iload_n hx hb dL_neighbours_1 rfl (lv_at hl 1 rfl) ?_
  refine vx_calll (vx_runV (As := [.int x]) (rest := []) ⟨hx, hb, hml, hown, hts⟩ (x_neighbours l hlt dG cI cJ A xo tl ts false se lb g gA n 0 ns hn x hx9 _) (cwV 1 hts gL_neighbours_X3_neighbours rfl rfl rfl (by decide +kernel) ⟨Nat.le_of_ble_eq_true rfl, Nat.le_of_ble_eq_true rfl⟩) (XPc.pre hP hD hK hTK hTH (va_recv hK.1 hP (ci := 3) (q0 := 0) rfl rfl)) rfl rfl hl.1 rfl (lv_room (Nat.le_of_ble_eq_true rfl)) dL_neighbours_2 ⟨Nat.le_of_ble_eq_true rfl, Nat.le_of_ble_eq_true rfl⟩) hS (fun q _ h => h) (fun q h => h) (fun q _ h => h.elim) (fun E ce q9 u9 t H locs ht hvm _ hB hz1 hk1 hS hce hcv hcl => ?_) (fun _r9 u9 t H1 locs1 ht hvm hf _ _ _ _ => hf.elim)
  obtain ⟨hE, hP⟩ := hB
  have hE : E = "java/lang/IndexOutOfBoundsException" := hE
  subst hE
  rw [ht] at hP
  have hN : N + 1 ≤ H.size := Nat.lt_of_le_of_lt hN hz1
  refine vx_catch (own := RL) (name := "java/lang/IndexOutOfBoundsException") (pc := 2) hown [] ⟨0, 5, 6, 27⟩ [] (htab.trans rfl) (fun z h => nomatch h) (by decide) (by decide) (hts (.classLink RL 27 "java/lang/IndexOutOfBoundsException") (by decide +kernel)) (va_Nw.use rfl (hTK.2.1 "java/lang/IndexOutOfBoundsException" (by decide))) hce hcv hcl ?_
  refine lv_astore_n (lv' := [(2, .ref q9), (0, .ref xo), (1, .int x)]) hx hb dL_neighbours_6 rfl hl (by decide) rfl (fun ls hl => ?_)
  refine lv_ldc2 hx hb hown (hts (.constantLong RL 61 (-3)) (by decide +kernel)) dL_neighbours_7 ?_
  exact W.lret (v := (-3)) hx hb hr (fun t ht hW => ⟨⟨_, (), rfl, rfl, by rw [ht]; exact hP, hD, by rw [ht]; exact hN⟩, hS.F ht⟩) hS.2.2 dL_neighbours_10

set_option maxHeartbeats 4000000 in
set_option maxRecDepth 100000 in
theorem t_pathVertex_1 (l : Launch) (hlt : l.stackTraces = false) (dG : va_G) (cI cJ : ClassId) (A : Nat → Prop) (xo tl ts se lb g gA n : Nat) (ns : Nat → Int64) (hn : n ≤ 48) (x y z : Int32) (hw : wr x y n false = 1) (N : Nat) (X : va_W) : Met l yL_pathVertex wsL_pathVertex ({ frames := 9, cells := 1, slots := 6, locals := 157 } : Room) (YPc dG cI cJ [.ref xo, .int x, .int y, .int z] (XW xo g lb se tl ts (bI false) ++ (GW cJ g gA (nI n) (nI 0) ns ++ X)) A N) (va_Qi (S := Unit) (fun r _ => r = (-3)) (fun _ => YB dG A (XW xo g lb se tl ts (bI false) ++ (GW cJ g gA (nI n) (nI 0) ns ++ X)) (N + 1)) A) 1 6 A := by
  refine va_MetW (cc := cL_pathVertex) (maxL := 5) (ret := (some .int)) (hh := [(0, 7, 8, 27), (0, 7, 13, 15), (0, 7, 18, 21)]) (by decide) rfl ?_
  intro p e s m args below meth c s₁ B9 hml hv
  obtain ⟨rfl, hP, hK, hD, hTK, hTH, hN⟩ := hv
  have hx := B9.exec
  have hb := B9.bytes
  have hr := B9.returns
  have hts := atoms_spec (ws := wsL_pathVertex) B9.pre
  have hown : s.vm.findClass RL = some m.cls := findClass_of_methodNamed B9.named
  have hlocks := B9.notSynchronized
  have hS : va_S A s.heap s.heap [] := va_S.rf
  have hl := lv_entry ([.ref xo, .int x, .int y, .int z]) (n := 5) (Nat.le_of_ble_eq_true rfl)
  rw [lg_entry_eq]
  generalize (lg_sl ([.ref xo, .int x, .int y, .int z]) ++ List.replicate (5 - (lg_sl ([.ref xo, .int x, .int y, .int z])).length) Slot.unset).toArray = ls at hl ⊢
  have hl : lv_has ls 5 [(0, .ref xo), (1, .int x), (2, .int y), (3, .int z)] := hl
  have htab := vx_table (x := yL_pathVertex) B9 (hts (.codeWith yL_pathVertex cL_pathVertex 5 (some .int) [(0, 7, 8, 27), (0, 7, 13, 15), (0, 7, 18, 21)]) (by decide +kernel))
  refine lv_aload_n hx hb dL_pathVertex_0 rfl (lv_at hl 0 rfl) ?_
  refine lv_iload_n hx hb dL_pathVertex_1 rfl (lv_at hl 1 rfl) ?_
  refine lv_iload_n hx hb dL_pathVertex_2 rfl (lv_at hl 2 rfl) ?_
  refine lv_iload_n hx hb dL_pathVertex_3 rfl (lv_at hl 3 rfl) ?_
  refine vx_calli (vx_runV (As := [.int x, .int y, .int z]) (rest := []) ⟨hx, hb, hml, hown, hts⟩ (x_pathVertex l hlt dG cI cJ A xo tl ts false se lb g gA n 0 ns hn x y z 1 hw (by decide) _) (cwV 3 hts gL_pathVertex_X3_pathVertex rfl rfl rfl (by decide +kernel) ⟨Nat.le_of_ble_eq_true rfl, Nat.le_of_ble_eq_true rfl⟩) (XPc.pre hP hD hK hTK hTH (va_recv hK.1 hP (ci := 3) (q0 := 0) rfl rfl)) rfl rfl hl.1 rfl (lv_room (Nat.le_of_ble_eq_true rfl)) dL_pathVertex_4 ⟨Nat.le_of_ble_eq_true rfl, Nat.le_of_ble_eq_true rfl⟩) hS (fun q _ h => h) (fun q h => h) (fun q _ h => h.elim) (fun E ce q9 u9 t H locs ht hvm _ hB hz1 hk1 hS hce hcv hcl => ?_) (fun _r9 u9 t H1 locs1 ht hvm hf _ _ _ _ => hf.elim)
  obtain ⟨hE, hP⟩ := hB
  have hE : E = "java/lang/IndexOutOfBoundsException" := hE
  subst hE
  rw [ht] at hP
  have hN : N + 1 ≤ H.size := Nat.lt_of_le_of_lt hN hz1
  refine vx_catch (own := RL) (name := "java/lang/IndexOutOfBoundsException") (pc := 4) hown [] ⟨0, 7, 8, 27⟩ [⟨0, 7, 13, 15⟩, ⟨0, 7, 18, 21⟩] (htab.trans rfl) (fun z h => nomatch h) (by decide) (by decide) (hts (.classLink RL 27 "java/lang/IndexOutOfBoundsException") (by decide +kernel)) (va_Nw.use rfl (hTK.2.1 "java/lang/IndexOutOfBoundsException" (by decide))) hce hcv hcl ?_
  refine lv_astore (lv' := [(4, .ref q9), (0, .ref xo), (1, .int x), (2, .int y), (3, .int z)]) hx hb dL_pathVertex_8 hl (by decide) rfl (fun ls hl => ?_)
  refine lv_bipush (v := (-3)) hx hb dL_pathVertex_10 (by decide) ?_
  exact W.iret (v := (-3)) hx hb hr (fun t ht hW => ⟨⟨_, (), rfl, rfl, by rw [ht]; exact hP, hD, by rw [ht]; exact hN⟩, hS.F ht⟩) hS.2.2 dL_pathVertex_12

set_option maxHeartbeats 4000000 in
set_option maxRecDepth 100000 in
theorem t_within_1 (l : Launch) (hlt : l.stackTraces = false) (dG : va_G) (cI cJ : ClassId) (A : Nat → Prop) (xo tl ts se lb g gA n : Nat) (ns : Nat → Int64) (hn : n ≤ 48) (x z : Int32) (hw : wr x x n false = 1) (N : Nat) (X : va_W) : Met l yL_within wsL_within ({ frames := 10, cells := 1, slots := 6, locals := 181 } : Room) (YPc dG cI cJ [.ref xo, .int x, .int z] (XW xo g lb se tl ts (bI false) ++ (GW cJ g gA (nI n) (nI 0) ns ++ X)) A N) (va_Ql (S := Unit) (fun r _ => r = (-3)) (fun _ => YB dG A (XW xo g lb se tl ts (bI false) ++ (GW cJ g gA (nI n) (nI 0) ns ++ X)) (N + 1)) A) 1 6 A := by
  refine va_MetW (cc := cL_within) (maxL := 4) (ret := (some .long)) (hh := [(0, 6, 7, 27), (0, 6, 12, 15), (0, 6, 17, 21)]) (by decide) rfl ?_
  intro p e s m args below meth c s₁ B9 hml hv
  obtain ⟨rfl, hP, hK, hD, hTK, hTH, hN⟩ := hv
  have hx := B9.exec
  have hb := B9.bytes
  have hr := B9.returns
  have hts := atoms_spec (ws := wsL_within) B9.pre
  have hown : s.vm.findClass RL = some m.cls := findClass_of_methodNamed B9.named
  have hlocks := B9.notSynchronized
  have hS : va_S A s.heap s.heap [] := va_S.rf
  have hl := lv_entry ([.ref xo, .int x, .int z]) (n := 4) (Nat.le_of_ble_eq_true rfl)
  rw [lg_entry_eq]
  generalize (lg_sl ([.ref xo, .int x, .int z]) ++ List.replicate (4 - (lg_sl ([.ref xo, .int x, .int z])).length) Slot.unset).toArray = ls at hl ⊢
  have hl : lv_has ls 4 [(0, .ref xo), (1, .int x), (2, .int z)] := hl
  have htab := vx_table (x := yL_within) B9 (hts (.codeWith yL_within cL_within 4 (some .long) [(0, 6, 7, 27), (0, 6, 12, 15), (0, 6, 17, 21)]) (by decide +kernel))
  refine lv_aload_n hx hb dL_within_0 rfl (lv_at hl 0 rfl) ?_
  refine lv_iload_n hx hb dL_within_1 rfl (lv_at hl 1 rfl) ?_
  refine lv_iload_n hx hb dL_within_2 rfl (lv_at hl 2 rfl) ?_
  refine vx_calll (vx_runV (As := [.int x, .int z]) (rest := []) ⟨hx, hb, hml, hown, hts⟩ (x_within l hlt dG cI cJ A xo tl ts false se lb g gA n 0 ns hn x z 1 hw (by decide) _) (cwV 2 hts gL_within_X3_within rfl rfl rfl (by decide +kernel) ⟨Nat.le_of_ble_eq_true rfl, Nat.le_of_ble_eq_true rfl⟩) (XPc.pre hP hD hK hTK hTH (va_recv hK.1 hP (ci := 3) (q0 := 0) rfl rfl)) rfl rfl hl.1 rfl (lv_room (Nat.le_of_ble_eq_true rfl)) dL_within_3 ⟨Nat.le_of_ble_eq_true rfl, Nat.le_of_ble_eq_true rfl⟩) hS (fun q _ h => h) (fun q h => h) (fun q _ h => h.elim) (fun E ce q9 u9 t H locs ht hvm _ hB hz1 hk1 hS hce hcv hcl => ?_) (fun _r9 u9 t H1 locs1 ht hvm hf _ _ _ _ => hf.elim)
  obtain ⟨hE, hP⟩ := hB
  have hE : E = "java/lang/IndexOutOfBoundsException" := hE
  subst hE
  rw [ht] at hP
  have hN : N + 1 ≤ H.size := Nat.lt_of_le_of_lt hN hz1
  refine vx_catch (own := RL) (name := "java/lang/IndexOutOfBoundsException") (pc := 3) hown [] ⟨0, 6, 7, 27⟩ [⟨0, 6, 12, 15⟩, ⟨0, 6, 17, 21⟩] (htab.trans rfl) (fun z h => nomatch h) (by decide) (by decide) (hts (.classLink RL 27 "java/lang/IndexOutOfBoundsException") (by decide +kernel)) (va_Nw.use rfl (hTK.2.1 "java/lang/IndexOutOfBoundsException" (by decide))) hce hcv hcl ?_
  refine lv_astore_n (lv' := [(3, .ref q9), (0, .ref xo), (1, .int x), (2, .int z)]) hx hb dL_within_7 rfl hl (by decide) rfl (fun ls hl => ?_)
  refine lv_ldc2 hx hb hown (hts (.constantLong RL 61 (-3)) (by decide +kernel)) dL_within_8 ?_
  exact W.lret (v := (-3)) hx hb hr (fun t ht hW => ⟨⟨_, (), rfl, rfl, by rw [ht]; exact hP, hD, by rw [ht]; exact hN⟩, hS.F ht⟩) hS.2.2 dL_within_11

set_option maxHeartbeats 4000000 in
set_option maxRecDepth 100000 in
theorem t_of_0_1 (l : Launch) (hlt : l.stackTraces = false) (dG : va_G) (cI cJ : ClassId) (A : Nat → Prop) (xo tl ts se lb g gA n : Nat) (ns : Nat → Int64) (hn : n ≤ 48) (x y : Int32) (hw : wr x x n false = 1) (N : Nat) (X : va_W) : Met l yL_of wsL_of ({ frames := 10, cells := 1, slots := 6, locals := 176 } : Room) (YPc dG cI cJ [.ref xo, .int (nI 0), .int x, .int y] (XW xo g lb se tl ts (bI false) ++ (GW cJ g gA (nI n) (nI 0) ns ++ X)) A N) (va_Qi (S := Unit) (fun r _ => r = (-3)) (fun _ => YB dG A (XW xo g lb se tl ts (bI false) ++ (GW cJ g gA (nI n) (nI 0) ns ++ X)) (N + 1)) A) 1 6 A := by
  refine va_MetW (cc := cL_of) (maxL := 5) (ret := (some .int)) (hh := [(0, 58, 59, 27), (0, 58, 64, 15)]) (by decide) rfl ?_
  intro p e s m args below meth c s₁ B9 hml hv
  obtain ⟨rfl, hP, hK, hD, hTK, hTH, hN⟩ := hv
  have hx := B9.exec
  have hb := B9.bytes
  have hr := B9.returns
  have hts := atoms_spec (ws := wsL_of) B9.pre
  have hown : s.vm.findClass RL = some m.cls := findClass_of_methodNamed B9.named
  have hlocks := B9.notSynchronized
  have hS : va_S A s.heap s.heap [] := va_S.rf
  have hl := lv_entry ([.ref xo, .int (nI 0), .int x, .int y]) (n := 5) (Nat.le_of_ble_eq_true rfl)
  rw [lg_entry_eq]
  generalize (lg_sl ([.ref xo, .int (nI 0), .int x, .int y]) ++ List.replicate (5 - (lg_sl ([.ref xo, .int (nI 0), .int x, .int y])).length) Slot.unset).toArray = ls at hl ⊢
  have hl : lv_has ls 5 [(0, .ref xo), (1, .int (nI 0)), (2, .int x), (3, .int y)] := hl
  have htab := vx_table (x := yL_of) B9 (hts (.codeWith yL_of cL_of 5 (some .int) [(0, 58, 59, 27), (0, 58, 64, 15)]) (by decide +kernel))
  refine lv_iload_n hx hb dL_of_0 rfl (lv_at hl 1 rfl) ?_
  refine lv_if_ne (tgt := 12) hx hb dL_of_1 (by decide) (fun h9 => absurd rfl h9) (fun _ => ?_)
  refine lv_aload_n hx hb dL_of_4 rfl (lv_at hl 0 rfl) ?_
  refine lv_iload_n hx hb dL_of_5 rfl (lv_at hl 2 rfl) ?_
  refine vx_calli (vx_runV (As := [.int x]) (rest := []) ⟨hx, hb, hml, hown, hts⟩ (x_rank l hlt dG cI cJ A xo tl ts false se lb g gA n 0 ns hn x 1 hw (by decide) _) (cwV 1 hts gL_of_X3_rank rfl rfl rfl (by decide +kernel) ⟨Nat.le_of_ble_eq_true rfl, Nat.le_of_ble_eq_true rfl⟩) (XPc.pre hP hD hK hTK hTH (va_recv hK.1 hP (ci := 3) (q0 := 0) rfl rfl)) rfl rfl hl.1 rfl (lv_room (Nat.le_of_ble_eq_true rfl)) dL_of_6 ⟨Nat.le_of_ble_eq_true rfl, Nat.le_of_ble_eq_true rfl⟩) hS (fun q _ h => h) (fun q h => h) (fun q _ h => h.elim) (fun E ce q9 u9 t H locs ht hvm _ hB hz1 hk1 hS hce hcv hcl => ?_) (fun _r9 u9 t H1 locs1 ht hvm hf _ _ _ _ => hf.elim)
  obtain ⟨hE, hP⟩ := hB
  have hE : E = "java/lang/IndexOutOfBoundsException" := hE
  subst hE
  rw [ht] at hP
  have hN : N + 1 ≤ H.size := Nat.lt_of_le_of_lt hN hz1
  refine vx_catch (own := RL) (name := "java/lang/IndexOutOfBoundsException") (pc := 6) hown [] ⟨0, 58, 59, 27⟩ [⟨0, 58, 64, 15⟩] (htab.trans rfl) (fun z h => nomatch h) (by decide) (by decide) (hts (.classLink RL 27 "java/lang/IndexOutOfBoundsException") (by decide +kernel)) (va_Nw.use rfl (hTK.2.1 "java/lang/IndexOutOfBoundsException" (by decide))) hce hcv hcl ?_
  refine lv_astore (lv' := [(4, .ref q9), (0, .ref xo), (1, .int (nI 0)), (2, .int x), (3, .int y)]) hx hb dL_of_59 hl (by decide) rfl (fun ls hl => ?_)
  refine lv_bipush (v := (-3)) hx hb dL_of_61 (by decide) ?_
  exact W.iret (v := (-3)) hx hb hr (fun t ht hW => ⟨⟨_, (), rfl, rfl, by rw [ht]; exact hP, hD, by rw [ht]; exact hN⟩, hS.F ht⟩) hS.2.2 dL_of_63

set_option maxHeartbeats 4000000 in
set_option maxRecDepth 100000 in
theorem t_of_1_1 (l : Launch) (hlt : l.stackTraces = false) (dG : va_G) (cI cJ : ClassId) (A : Nat → Prop) (xo tl ts se lb g gA n : Nat) (ns : Nat → Int64) (hn : n ≤ 48) (x y : Int32) (hw : wr x x n false = 1) (N : Nat) (X : va_W) : Met l yL_of wsL_of ({ frames := 10, cells := 1, slots := 6, locals := 176 } : Room) (YPc dG cI cJ [.ref xo, .int (nI 1), .int x, .int y] (XW xo g lb se tl ts (bI false) ++ (GW cJ g gA (nI n) (nI 0) ns ++ X)) A N) (va_Qi (S := Unit) (fun r _ => r = (-3)) (fun _ => YB dG A (XW xo g lb se tl ts (bI false) ++ (GW cJ g gA (nI n) (nI 0) ns ++ X)) (N + 1)) A) 1 6 A := by
  refine va_MetW (cc := cL_of) (maxL := 5) (ret := (some .int)) (hh := [(0, 58, 59, 27), (0, 58, 64, 15)]) (by decide) rfl ?_
  intro p e s m args below meth c s₁ B9 hml hv
  obtain ⟨rfl, hP, hK, hD, hTK, hTH, hN⟩ := hv
  have hx := B9.exec
  have hb := B9.bytes
  have hr := B9.returns
  have hts := atoms_spec (ws := wsL_of) B9.pre
  have hown : s.vm.findClass RL = some m.cls := findClass_of_methodNamed B9.named
  have hlocks := B9.notSynchronized
  have hS : va_S A s.heap s.heap [] := va_S.rf
  have hl := lv_entry ([.ref xo, .int (nI 1), .int x, .int y]) (n := 5) (Nat.le_of_ble_eq_true rfl)
  rw [lg_entry_eq]
  generalize (lg_sl ([.ref xo, .int (nI 1), .int x, .int y]) ++ List.replicate (5 - (lg_sl ([.ref xo, .int (nI 1), .int x, .int y])).length) Slot.unset).toArray = ls at hl ⊢
  have hl : lv_has ls 5 [(0, .ref xo), (1, .int (nI 1)), (2, .int x), (3, .int y)] := hl
  have htab := vx_table (x := yL_of) B9 (hts (.codeWith yL_of cL_of 5 (some .int) [(0, 58, 59, 27), (0, 58, 64, 15)]) (by decide +kernel))
  refine lv_iload_n hx hb dL_of_0 rfl (lv_at hl 1 rfl) ?_
  refine lv_if_ne (tgt := 12) hx hb dL_of_1 (by decide) (fun _ => ?_) (fun h9 => absurd h9 (by decide))
  refine lv_iload_n hx hb dL_of_12 rfl (lv_at hl 1 rfl) ?_
  refine lv_iconst (v := (nI 1)) hx hb dL_of_13 (by decide) ?_
  refine lv_icmp_ne (tgt := 25) hx hb dL_of_14 (by decide) (fun h9 => (show False by revert h9; decide +kernel).elim) (fun _ => ?_)
  refine lv_aload_n hx hb dL_of_17 rfl (lv_at hl 0 rfl) ?_
  refine lv_iload_n hx hb dL_of_18 rfl (lv_at hl 2 rfl) ?_
  refine vx_calli (vx_runV (As := [.int x]) (rest := []) ⟨hx, hb, hml, hown, hts⟩ (x_labelSize l hlt dG cI cJ A xo tl ts false se lb g gA n 0 ns hn x 1 hw (by decide) _) (cwV 1 hts gL_of_X3_labelSize rfl rfl rfl (by decide +kernel) ⟨Nat.le_of_ble_eq_true rfl, Nat.le_of_ble_eq_true rfl⟩) (XPc.pre hP hD hK hTK hTH (va_recv hK.1 hP (ci := 3) (q0 := 0) rfl rfl)) rfl rfl hl.1 rfl (lv_room (Nat.le_of_ble_eq_true rfl)) dL_of_19 ⟨Nat.le_of_ble_eq_true rfl, Nat.le_of_ble_eq_true rfl⟩) hS (fun q _ h => h) (fun q h => h) (fun q _ h => h.elim) (fun E ce q9 u9 t H locs ht hvm _ hB hz1 hk1 hS hce hcv hcl => ?_) (fun _r9 u9 t H1 locs1 ht hvm hf _ _ _ _ => hf.elim)
  obtain ⟨hE, hP⟩ := hB
  have hE : E = "java/lang/IndexOutOfBoundsException" := hE
  subst hE
  rw [ht] at hP
  have hN : N + 1 ≤ H.size := Nat.lt_of_le_of_lt hN hz1
  refine vx_catch (own := RL) (name := "java/lang/IndexOutOfBoundsException") (pc := 19) hown [] ⟨0, 58, 59, 27⟩ [⟨0, 58, 64, 15⟩] (htab.trans rfl) (fun z h => nomatch h) (by decide) (by decide) (hts (.classLink RL 27 "java/lang/IndexOutOfBoundsException") (by decide +kernel)) (va_Nw.use rfl (hTK.2.1 "java/lang/IndexOutOfBoundsException" (by decide))) hce hcv hcl ?_
  refine lv_astore (lv' := [(4, .ref q9), (0, .ref xo), (1, .int (nI 1)), (2, .int x), (3, .int y)]) hx hb dL_of_59 hl (by decide) rfl (fun ls hl => ?_)
  refine lv_bipush (v := (-3)) hx hb dL_of_61 (by decide) ?_
  exact W.iret (v := (-3)) hx hb hr (fun t ht hW => ⟨⟨_, (), rfl, rfl, by rw [ht]; exact hP, hD, by rw [ht]; exact hN⟩, hS.F ht⟩) hS.2.2 dL_of_63

set_option maxHeartbeats 4000000 in
set_option maxRecDepth 100000 in
theorem t_of_2_1 (l : Launch) (hlt : l.stackTraces = false) (dG : va_G) (cI cJ : ClassId) (A : Nat → Prop) (xo tl ts se lb g gA n : Nat) (ns : Nat → Int64) (hn : n ≤ 48) (x y : Int32) (hw : wr x y n false = 1) (N : Nat) (X : va_W) : Met l yL_of wsL_of ({ frames := 9, cells := 1, slots := 6, locals := 156 } : Room) (YPc dG cI cJ [.ref xo, .int (nI 2), .int x, .int y] (XW xo g lb se tl ts (bI false) ++ (GW cJ g gA (nI n) (nI 0) ns ++ X)) A N) (va_Qi (S := Unit) (fun r _ => r = (-3)) (fun _ => YB dG A (XW xo g lb se tl ts (bI false) ++ (GW cJ g gA (nI n) (nI 0) ns ++ X)) (N + 1)) A) 1 6 A := by
  refine va_MetW (cc := cL_of) (maxL := 5) (ret := (some .int)) (hh := [(0, 58, 59, 27), (0, 58, 64, 15)]) (by decide) rfl ?_
  intro p e s m args below meth c s₁ B9 hml hv
  obtain ⟨rfl, hP, hK, hD, hTK, hTH, hN⟩ := hv
  have hx := B9.exec
  have hb := B9.bytes
  have hr := B9.returns
  have hts := atoms_spec (ws := wsL_of) B9.pre
  have hown : s.vm.findClass RL = some m.cls := findClass_of_methodNamed B9.named
  have hlocks := B9.notSynchronized
  have hS : va_S A s.heap s.heap [] := va_S.rf
  have hl := lv_entry ([.ref xo, .int (nI 2), .int x, .int y]) (n := 5) (Nat.le_of_ble_eq_true rfl)
  rw [lg_entry_eq]
  generalize (lg_sl ([.ref xo, .int (nI 2), .int x, .int y]) ++ List.replicate (5 - (lg_sl ([.ref xo, .int (nI 2), .int x, .int y])).length) Slot.unset).toArray = ls at hl ⊢
  have hl : lv_has ls 5 [(0, .ref xo), (1, .int (nI 2)), (2, .int x), (3, .int y)] := hl
  have htab := vx_table (x := yL_of) B9 (hts (.codeWith yL_of cL_of 5 (some .int) [(0, 58, 59, 27), (0, 58, 64, 15)]) (by decide +kernel))
  refine lv_iload_n hx hb dL_of_0 rfl (lv_at hl 1 rfl) ?_
  refine lv_if_ne (tgt := 12) hx hb dL_of_1 (by decide) (fun _ => ?_) (fun h9 => (show False by revert h9; decide +kernel).elim)
  refine lv_iload_n hx hb dL_of_12 rfl (lv_at hl 1 rfl) ?_
  refine lv_iconst (v := (nI 1)) hx hb dL_of_13 (by decide) ?_
  refine lv_icmp_ne (tgt := 25) hx hb dL_of_14 (by decide) (fun _ => ?_) (fun h9 => (show False by revert h9; decide +kernel).elim)
  refine lv_iload_n hx hb dL_of_25 rfl (lv_at hl 1 rfl) ?_
  refine lv_iconst (v := (nI 2)) hx hb dL_of_26 (by decide) ?_
  refine lv_icmp_ne (tgt := 39) hx hb dL_of_27 (by decide) (fun h9 => (show False by revert h9; decide +kernel).elim) (fun _ => ?_)
  refine lv_aload_n hx hb dL_of_30 rfl (lv_at hl 0 rfl) ?_
  refine lv_iload_n hx hb dL_of_31 rfl (lv_at hl 2 rfl) ?_
  refine lv_iload_n hx hb dL_of_32 rfl (lv_at hl 3 rfl) ?_
  refine vx_calli (vx_runV (As := [.int x, .int y]) (rest := []) ⟨hx, hb, hml, hown, hts⟩ (x_distance l hlt dG cI cJ A xo tl ts false se lb g gA n 0 ns hn x y 1 hw (by decide) _) (cwV 2 hts gL_of_X3_distance rfl rfl rfl (by decide +kernel) ⟨Nat.le_of_ble_eq_true rfl, Nat.le_of_ble_eq_true rfl⟩) (XPc.pre hP hD hK hTK hTH (va_recv hK.1 hP (ci := 3) (q0 := 0) rfl rfl)) rfl rfl hl.1 rfl (lv_room (Nat.le_of_ble_eq_true rfl)) dL_of_33 ⟨Nat.le_of_ble_eq_true rfl, Nat.le_of_ble_eq_true rfl⟩) hS (fun q _ h => h) (fun q h => h) (fun q _ h => h.elim) (fun E ce q9 u9 t H locs ht hvm _ hB hz1 hk1 hS hce hcv hcl => ?_) (fun _r9 u9 t H1 locs1 ht hvm hf _ _ _ _ => hf.elim)
  obtain ⟨hE, hP⟩ := hB
  have hE : E = "java/lang/IndexOutOfBoundsException" := hE
  subst hE
  rw [ht] at hP
  have hN : N + 1 ≤ H.size := Nat.lt_of_le_of_lt hN hz1
  refine vx_catch (own := RL) (name := "java/lang/IndexOutOfBoundsException") (pc := 33) hown [] ⟨0, 58, 59, 27⟩ [⟨0, 58, 64, 15⟩] (htab.trans rfl) (fun z h => nomatch h) (by decide) (by decide) (hts (.classLink RL 27 "java/lang/IndexOutOfBoundsException") (by decide +kernel)) (va_Nw.use rfl (hTK.2.1 "java/lang/IndexOutOfBoundsException" (by decide))) hce hcv hcl ?_
  refine lv_astore (lv' := [(4, .ref q9), (0, .ref xo), (1, .int (nI 2)), (2, .int x), (3, .int y)]) hx hb dL_of_59 hl (by decide) rfl (fun ls hl => ?_)
  refine lv_bipush (v := (-3)) hx hb dL_of_61 (by decide) ?_
  exact W.iret (v := (-3)) hx hb hr (fun t ht hW => ⟨⟨_, (), rfl, rfl, by rw [ht]; exact hP, hD, by rw [ht]; exact hN⟩, hS.F ht⟩) hS.2.2 dL_of_63

set_option maxHeartbeats 4000000 in
set_option maxRecDepth 100000 in
theorem t_of_3_1 (l : Launch) (hlt : l.stackTraces = false) (dG : va_G) (cI cJ : ClassId) (A : Nat → Prop) (xo tl ts se lb g gA n : Nat) (ns : Nat → Int64) (hn : n ≤ 48) (x y : Int32) (hw : wr x y n false = 1) (N : Nat) (X : va_W) : Met l yL_of wsL_of ({ frames := 9, cells := 1, slots := 6, locals := 156 } : Room) (YPc dG cI cJ [.ref xo, .int (nI 3), .int x, .int y] (XW xo g lb se tl ts (bI false) ++ (GW cJ g gA (nI n) (nI 0) ns ++ X)) A N) (va_Qi (S := Unit) (fun r _ => r = (-3)) (fun _ => YB dG A (XW xo g lb se tl ts (bI false) ++ (GW cJ g gA (nI n) (nI 0) ns ++ X)) (N + 1)) A) 1 6 A := by
  refine va_MetW (cc := cL_of) (maxL := 5) (ret := (some .int)) (hh := [(0, 58, 59, 27), (0, 58, 64, 15)]) (by decide) rfl ?_
  intro p e s m args below meth c s₁ B9 hml hv
  obtain ⟨rfl, hP, hK, hD, hTK, hTH, hN⟩ := hv
  have hx := B9.exec
  have hb := B9.bytes
  have hr := B9.returns
  have hts := atoms_spec (ws := wsL_of) B9.pre
  have hown : s.vm.findClass RL = some m.cls := findClass_of_methodNamed B9.named
  have hlocks := B9.notSynchronized
  have hS : va_S A s.heap s.heap [] := va_S.rf
  have hl := lv_entry ([.ref xo, .int (nI 3), .int x, .int y]) (n := 5) (Nat.le_of_ble_eq_true rfl)
  rw [lg_entry_eq]
  generalize (lg_sl ([.ref xo, .int (nI 3), .int x, .int y]) ++ List.replicate (5 - (lg_sl ([.ref xo, .int (nI 3), .int x, .int y])).length) Slot.unset).toArray = ls at hl ⊢
  have hl : lv_has ls 5 [(0, .ref xo), (1, .int (nI 3)), (2, .int x), (3, .int y)] := hl
  have htab := vx_table (x := yL_of) B9 (hts (.codeWith yL_of cL_of 5 (some .int) [(0, 58, 59, 27), (0, 58, 64, 15)]) (by decide +kernel))
  refine lv_iload_n hx hb dL_of_0 rfl (lv_at hl 1 rfl) ?_
  refine lv_if_ne (tgt := 12) hx hb dL_of_1 (by decide) (fun _ => ?_) (fun h9 => (show False by revert h9; decide +kernel).elim)
  refine lv_iload_n hx hb dL_of_12 rfl (lv_at hl 1 rfl) ?_
  refine lv_iconst (v := (nI 1)) hx hb dL_of_13 (by decide) ?_
  refine lv_icmp_ne (tgt := 25) hx hb dL_of_14 (by decide) (fun _ => ?_) (fun h9 => (show False by revert h9; decide +kernel).elim)
  refine lv_iload_n hx hb dL_of_25 rfl (lv_at hl 1 rfl) ?_
  refine lv_iconst (v := (nI 2)) hx hb dL_of_26 (by decide) ?_
  refine lv_icmp_ne (tgt := 39) hx hb dL_of_27 (by decide) (fun _ => ?_) (fun h9 => (show False by revert h9; decide +kernel).elim)
  refine lv_iload_n hx hb dL_of_39 rfl (lv_at hl 1 rfl) ?_
  refine lv_iconst (v := (nI 3)) hx hb dL_of_40 (by decide) ?_
  refine lv_icmp_ne (tgt := 53) hx hb dL_of_41 (by decide) (fun h9 => (show False by revert h9; decide +kernel).elim) (fun _ => ?_)
  refine lv_aload_n hx hb dL_of_44 rfl (lv_at hl 0 rfl) ?_
  refine lv_iload_n hx hb dL_of_45 rfl (lv_at hl 2 rfl) ?_
  refine lv_iload_n hx hb dL_of_46 rfl (lv_at hl 3 rfl) ?_
  refine vx_calli (vx_runV (As := [.int x, .int y]) (rest := []) ⟨hx, hb, hml, hown, hts⟩ (x_hub l hlt dG cI cJ A xo tl ts false se lb g gA n 0 ns hn x y 1 hw (by decide) _) (cwV 2 hts gL_of_X3_hub rfl rfl rfl (by decide +kernel) ⟨Nat.le_of_ble_eq_true rfl, Nat.le_of_ble_eq_true rfl⟩) (XPc.pre hP hD hK hTK hTH (va_recv hK.1 hP (ci := 3) (q0 := 0) rfl rfl)) rfl rfl hl.1 rfl (lv_room (Nat.le_of_ble_eq_true rfl)) dL_of_47 ⟨Nat.le_of_ble_eq_true rfl, Nat.le_of_ble_eq_true rfl⟩) hS (fun q _ h => h) (fun q h => h) (fun q _ h => h.elim) (fun E ce q9 u9 t H locs ht hvm _ hB hz1 hk1 hS hce hcv hcl => ?_) (fun _r9 u9 t H1 locs1 ht hvm hf _ _ _ _ => hf.elim)
  obtain ⟨hE, hP⟩ := hB
  have hE : E = "java/lang/IndexOutOfBoundsException" := hE
  subst hE
  rw [ht] at hP
  have hN : N + 1 ≤ H.size := Nat.lt_of_le_of_lt hN hz1
  refine vx_catch (own := RL) (name := "java/lang/IndexOutOfBoundsException") (pc := 47) hown [] ⟨0, 58, 59, 27⟩ [⟨0, 58, 64, 15⟩] (htab.trans rfl) (fun z h => nomatch h) (by decide) (by decide) (hts (.classLink RL 27 "java/lang/IndexOutOfBoundsException") (by decide +kernel)) (va_Nw.use rfl (hTK.2.1 "java/lang/IndexOutOfBoundsException" (by decide))) hce hcv hcl ?_
  refine lv_astore (lv' := [(4, .ref q9), (0, .ref xo), (1, .int (nI 3)), (2, .int x), (3, .int y)]) hx hb dL_of_59 hl (by decide) rfl (fun ls hl => ?_)
  refine lv_bipush (v := (-3)) hx hb dL_of_61 (by decide) ?_
  exact W.iret (v := (-3)) hx hb hr (fun t ht hW => ⟨⟨_, (), rfl, rfl, by rw [ht]; exact hP, hD, by rw [ht]; exact hN⟩, hS.F ht⟩) hS.2.2 dL_of_63

set_option maxHeartbeats 4000000 in
set_option maxRecDepth 100000 in
theorem t_of_4_1 (l : Launch) (hlt : l.stackTraces = false) (dG : va_G) (cI cJ : ClassId) (A : Nat → Prop) (xo tl ts se lb g gA n : Nat) (ns : Nat → Int64) (hn : n ≤ 48) (x y : Int32) (hw : wr x x n false = 1) (N : Nat) (X : va_W) : Met l yL_of wsL_of ({ frames := 10, cells := 1, slots := 6, locals := 178 } : Room) (YPc dG cI cJ [.ref xo, .int (nI 4), .int x, .int y] (XW xo g lb se tl ts (bI false) ++ (GW cJ g gA (nI n) (nI 0) ns ++ X)) A N) (va_Qi (S := Unit) (fun r _ => r = (-3)) (fun _ => YB dG A (XW xo g lb se tl ts (bI false) ++ (GW cJ g gA (nI n) (nI 0) ns ++ X)) (N + 1)) A) 1 6 A := by
  refine va_MetW (cc := cL_of) (maxL := 5) (ret := (some .int)) (hh := [(0, 58, 59, 27), (0, 58, 64, 15)]) (by decide) rfl ?_
  intro p e s m args below meth c s₁ B9 hml hv
  obtain ⟨rfl, hP, hK, hD, hTK, hTH, hN⟩ := hv
  have hx := B9.exec
  have hb := B9.bytes
  have hr := B9.returns
  have hts := atoms_spec (ws := wsL_of) B9.pre
  have hown : s.vm.findClass RL = some m.cls := findClass_of_methodNamed B9.named
  have hlocks := B9.notSynchronized
  have hS : va_S A s.heap s.heap [] := va_S.rf
  have hl := lv_entry ([.ref xo, .int (nI 4), .int x, .int y]) (n := 5) (Nat.le_of_ble_eq_true rfl)
  rw [lg_entry_eq]
  generalize (lg_sl ([.ref xo, .int (nI 4), .int x, .int y]) ++ List.replicate (5 - (lg_sl ([.ref xo, .int (nI 4), .int x, .int y])).length) Slot.unset).toArray = ls at hl ⊢
  have hl : lv_has ls 5 [(0, .ref xo), (1, .int (nI 4)), (2, .int x), (3, .int y)] := hl
  have htab := vx_table (x := yL_of) B9 (hts (.codeWith yL_of cL_of 5 (some .int) [(0, 58, 59, 27), (0, 58, 64, 15)]) (by decide +kernel))
  refine lv_iload_n hx hb dL_of_0 rfl (lv_at hl 1 rfl) ?_
  refine lv_if_ne (tgt := 12) hx hb dL_of_1 (by decide) (fun _ => ?_) (fun h9 => (show False by revert h9; decide +kernel).elim)
  refine lv_iload_n hx hb dL_of_12 rfl (lv_at hl 1 rfl) ?_
  refine lv_iconst (v := (nI 1)) hx hb dL_of_13 (by decide) ?_
  refine lv_icmp_ne (tgt := 25) hx hb dL_of_14 (by decide) (fun _ => ?_) (fun h9 => (show False by revert h9; decide +kernel).elim)
  refine lv_iload_n hx hb dL_of_25 rfl (lv_at hl 1 rfl) ?_
  refine lv_iconst (v := (nI 2)) hx hb dL_of_26 (by decide) ?_
  refine lv_icmp_ne (tgt := 39) hx hb dL_of_27 (by decide) (fun _ => ?_) (fun h9 => (show False by revert h9; decide +kernel).elim)
  refine lv_iload_n hx hb dL_of_39 rfl (lv_at hl 1 rfl) ?_
  refine lv_iconst (v := (nI 3)) hx hb dL_of_40 (by decide) ?_
  refine lv_icmp_ne (tgt := 53) hx hb dL_of_41 (by decide) (fun _ => ?_) (fun h9 => (show False by revert h9; decide +kernel).elim)
  refine lv_aload_n hx hb dL_of_53 rfl (lv_at hl 0 rfl) ?_
  refine lv_iload_n hx hb dL_of_54 rfl (lv_at hl 2 rfl) ?_
  refine vx_calli (vx_runV (As := [.int x]) (rest := []) ⟨hx, hb, hml, hown, hts⟩ (x_eccentricity l hlt dG cI cJ A xo tl ts false se lb g gA n 0 ns hn x 1 hw (by decide) _) (cwV 1 hts gL_of_X3_eccentricity rfl rfl rfl (by decide +kernel) ⟨Nat.le_of_ble_eq_true rfl, Nat.le_of_ble_eq_true rfl⟩) (XPc.pre hP hD hK hTK hTH (va_recv hK.1 hP (ci := 3) (q0 := 0) rfl rfl)) rfl rfl hl.1 rfl (lv_room (Nat.le_of_ble_eq_true rfl)) dL_of_55 ⟨Nat.le_of_ble_eq_true rfl, Nat.le_of_ble_eq_true rfl⟩) hS (fun q _ h => h) (fun q h => h) (fun q _ h => h.elim) (fun E ce q9 u9 t H locs ht hvm _ hB hz1 hk1 hS hce hcv hcl => ?_) (fun _r9 u9 t H1 locs1 ht hvm hf _ _ _ _ => hf.elim)
  obtain ⟨hE, hP⟩ := hB
  have hE : E = "java/lang/IndexOutOfBoundsException" := hE
  subst hE
  rw [ht] at hP
  have hN : N + 1 ≤ H.size := Nat.lt_of_le_of_lt hN hz1
  refine vx_catch (own := RL) (name := "java/lang/IndexOutOfBoundsException") (pc := 55) hown [] ⟨0, 58, 59, 27⟩ [⟨0, 58, 64, 15⟩] (htab.trans rfl) (fun z h => nomatch h) (by decide) (by decide) (hts (.classLink RL 27 "java/lang/IndexOutOfBoundsException") (by decide +kernel)) (va_Nw.use rfl (hTK.2.1 "java/lang/IndexOutOfBoundsException" (by decide))) hce hcv hcl ?_
  refine lv_astore (lv' := [(4, .ref q9), (0, .ref xo), (1, .int (nI 4)), (2, .int x), (3, .int y)]) hx hb dL_of_59 hl (by decide) rfl (fun ls hl => ?_)
  refine lv_bipush (v := (-3)) hx hb dL_of_61 (by decide) ?_
  exact W.iret (v := (-3)) hx hb hr (fun t ht hW => ⟨⟨_, (), rfl, rfl, by rw [ht]; exact hP, hD, by rw [ht]; exact hN⟩, hS.F ht⟩) hS.2.2 dL_of_63

set_option maxHeartbeats 4000000 in
set_option maxRecDepth 100000 in
theorem t_entry_0_1 (l : Launch) (hlt : l.stackTraces = false) (dG : va_G) (cI cJ : ClassId) (A : Nat → Prop) (xo tl ts se lb g gA n : Nat) (ns : Nat → Int64) (hn : n ≤ 48) (x z : Int32) (hw : wr x x n false = 1) (N : Nat) (X : va_W) : Met l yL_entry wsL_entry ({ frames := 10, cells := 1, slots := 6, locals := 177 } : Room) (YPc dG cI cJ [.ref xo, .int (nI 0), .int x, .int z] (XW xo g lb se tl ts (bI false) ++ (GW cJ g gA (nI n) (nI 0) ns ++ X)) A N) (va_Qi (S := Unit) (fun r _ => r = (-3)) (fun _ => YB dG A (XW xo g lb se tl ts (bI false) ++ (GW cJ g gA (nI n) (nI 0) ns ++ X)) (N + 1)) A) 1 6 A := by
  refine va_MetW (cc := cL_entry) (maxL := 5) (ret := (some .int)) (hh := [(0, 33, 34, 27), (0, 33, 39, 15), (0, 33, 44, 21)]) (by decide) rfl ?_
  intro p e s m args below meth c s₁ B9 hml hv
  obtain ⟨rfl, hP, hK, hD, hTK, hTH, hN⟩ := hv
  have hx := B9.exec
  have hb := B9.bytes
  have hr := B9.returns
  have hts := atoms_spec (ws := wsL_entry) B9.pre
  have hown : s.vm.findClass RL = some m.cls := findClass_of_methodNamed B9.named
  have hlocks := B9.notSynchronized
  have hS : va_S A s.heap s.heap [] := va_S.rf
  have hl := lv_entry ([.ref xo, .int (nI 0), .int x, .int z]) (n := 5) (Nat.le_of_ble_eq_true rfl)
  rw [lg_entry_eq]
  generalize (lg_sl ([.ref xo, .int (nI 0), .int x, .int z]) ++ List.replicate (5 - (lg_sl ([.ref xo, .int (nI 0), .int x, .int z])).length) Slot.unset).toArray = ls at hl ⊢
  have hl : lv_has ls 5 [(0, .ref xo), (1, .int (nI 0)), (2, .int x), (3, .int z)] := hl
  have htab := vx_table (x := yL_entry) B9 (hts (.codeWith yL_entry cL_entry 5 (some .int) [(0, 33, 34, 27), (0, 33, 39, 15), (0, 33, 44, 21)]) (by decide +kernel))
  refine lv_iload_n hx hb dL_entry_0 rfl (lv_at hl 1 rfl) ?_
  refine lv_if_ne (tgt := 13) hx hb dL_entry_1 (by decide) (fun h9 => absurd rfl h9) (fun _ => ?_)
  refine lv_aload_n hx hb dL_entry_4 rfl (lv_at hl 0 rfl) ?_
  refine lv_iload_n hx hb dL_entry_5 rfl (lv_at hl 2 rfl) ?_
  refine lv_iload_n hx hb dL_entry_6 rfl (lv_at hl 3 rfl) ?_
  refine vx_calli (vx_runV (As := [.int x, .int z]) (rest := []) ⟨hx, hb, hml, hown, hts⟩ (x_entryHub l hlt dG cI cJ A xo tl ts false se lb g gA n 0 ns hn x z 1 hw (by decide) _) (cwV 2 hts gL_entry_X3_entryHub rfl rfl rfl (by decide +kernel) ⟨Nat.le_of_ble_eq_true rfl, Nat.le_of_ble_eq_true rfl⟩) (XPc.pre hP hD hK hTK hTH (va_recv hK.1 hP (ci := 3) (q0 := 0) rfl rfl)) rfl rfl hl.1 rfl (lv_room (Nat.le_of_ble_eq_true rfl)) dL_entry_7 ⟨Nat.le_of_ble_eq_true rfl, Nat.le_of_ble_eq_true rfl⟩) hS (fun q _ h => h) (fun q h => h) (fun q _ h => h.elim) (fun E ce q9 u9 t H locs ht hvm _ hB hz1 hk1 hS hce hcv hcl => ?_) (fun _r9 u9 t H1 locs1 ht hvm hf _ _ _ _ => hf.elim)
  obtain ⟨hE, hP⟩ := hB
  have hE : E = "java/lang/IndexOutOfBoundsException" := hE
  subst hE
  rw [ht] at hP
  have hN : N + 1 ≤ H.size := Nat.lt_of_le_of_lt hN hz1
  refine vx_catch (own := RL) (name := "java/lang/IndexOutOfBoundsException") (pc := 7) hown [] ⟨0, 33, 34, 27⟩ [⟨0, 33, 39, 15⟩, ⟨0, 33, 44, 21⟩] (htab.trans rfl) (fun z h => nomatch h) (by decide) (by decide) (hts (.classLink RL 27 "java/lang/IndexOutOfBoundsException") (by decide +kernel)) (va_Nw.use rfl (hTK.2.1 "java/lang/IndexOutOfBoundsException" (by decide))) hce hcv hcl ?_
  refine lv_astore (lv' := [(4, .ref q9), (0, .ref xo), (1, .int (nI 0)), (2, .int x), (3, .int z)]) hx hb dL_entry_34 hl (by decide) rfl (fun ls hl => ?_)
  refine lv_bipush (v := (-3)) hx hb dL_entry_36 (by decide) ?_
  exact W.iret (v := (-3)) hx hb hr (fun t ht hW => ⟨⟨_, (), rfl, rfl, by rw [ht]; exact hP, hD, by rw [ht]; exact hN⟩, hS.F ht⟩) hS.2.2 dL_entry_38

set_option maxHeartbeats 4000000 in
set_option maxRecDepth 100000 in
theorem t_entry_1_1 (l : Launch) (hlt : l.stackTraces = false) (dG : va_G) (cI cJ : ClassId) (A : Nat → Prop) (xo tl ts se lb g gA n : Nat) (ns : Nat → Int64) (hn : n ≤ 48) (x z : Int32) (hw : wr x x n false = 1) (N : Nat) (X : va_W) : Met l yL_entry wsL_entry ({ frames := 10, cells := 1, slots := 6, locals := 177 } : Room) (YPc dG cI cJ [.ref xo, .int (nI 1), .int x, .int z] (XW xo g lb se tl ts (bI false) ++ (GW cJ g gA (nI n) (nI 0) ns ++ X)) A N) (va_Qi (S := Unit) (fun r _ => r = (-3)) (fun _ => YB dG A (XW xo g lb se tl ts (bI false) ++ (GW cJ g gA (nI n) (nI 0) ns ++ X)) (N + 1)) A) 1 6 A := by
  refine va_MetW (cc := cL_entry) (maxL := 5) (ret := (some .int)) (hh := [(0, 33, 34, 27), (0, 33, 39, 15), (0, 33, 44, 21)]) (by decide) rfl ?_
  intro p e s m args below meth c s₁ B9 hml hv
  obtain ⟨rfl, hP, hK, hD, hTK, hTH, hN⟩ := hv
  have hx := B9.exec
  have hb := B9.bytes
  have hr := B9.returns
  have hts := atoms_spec (ws := wsL_entry) B9.pre
  have hown : s.vm.findClass RL = some m.cls := findClass_of_methodNamed B9.named
  have hlocks := B9.notSynchronized
  have hS : va_S A s.heap s.heap [] := va_S.rf
  have hl := lv_entry ([.ref xo, .int (nI 1), .int x, .int z]) (n := 5) (Nat.le_of_ble_eq_true rfl)
  rw [lg_entry_eq]
  generalize (lg_sl ([.ref xo, .int (nI 1), .int x, .int z]) ++ List.replicate (5 - (lg_sl ([.ref xo, .int (nI 1), .int x, .int z])).length) Slot.unset).toArray = ls at hl ⊢
  have hl : lv_has ls 5 [(0, .ref xo), (1, .int (nI 1)), (2, .int x), (3, .int z)] := hl
  have htab := vx_table (x := yL_entry) B9 (hts (.codeWith yL_entry cL_entry 5 (some .int) [(0, 33, 34, 27), (0, 33, 39, 15), (0, 33, 44, 21)]) (by decide +kernel))
  refine lv_iload_n hx hb dL_entry_0 rfl (lv_at hl 1 rfl) ?_
  refine lv_if_ne (tgt := 13) hx hb dL_entry_1 (by decide) (fun _ => ?_) (fun h9 => absurd h9 (by decide))
  refine lv_iload_n hx hb dL_entry_13 rfl (lv_at hl 1 rfl) ?_
  refine lv_iconst (v := (nI 1)) hx hb dL_entry_14 (by decide) ?_
  refine lv_icmp_ne (tgt := 27) hx hb dL_entry_15 (by decide) (fun h9 => (show False by revert h9; decide +kernel).elim) (fun _ => ?_)
  refine lv_aload_n hx hb dL_entry_18 rfl (lv_at hl 0 rfl) ?_
  refine lv_iload_n hx hb dL_entry_19 rfl (lv_at hl 2 rfl) ?_
  refine lv_iload_n hx hb dL_entry_20 rfl (lv_at hl 3 rfl) ?_
  refine vx_calli (vx_runV (As := [.int x, .int z]) (rest := []) ⟨hx, hb, hml, hown, hts⟩ (x_entryDistance l hlt dG cI cJ A xo tl ts false se lb g gA n 0 ns hn x z 1 hw (by decide) _) (cwV 2 hts gL_entry_X3_entryDistance rfl rfl rfl (by decide +kernel) ⟨Nat.le_of_ble_eq_true rfl, Nat.le_of_ble_eq_true rfl⟩) (XPc.pre hP hD hK hTK hTH (va_recv hK.1 hP (ci := 3) (q0 := 0) rfl rfl)) rfl rfl hl.1 rfl (lv_room (Nat.le_of_ble_eq_true rfl)) dL_entry_21 ⟨Nat.le_of_ble_eq_true rfl, Nat.le_of_ble_eq_true rfl⟩) hS (fun q _ h => h) (fun q h => h) (fun q _ h => h.elim) (fun E ce q9 u9 t H locs ht hvm _ hB hz1 hk1 hS hce hcv hcl => ?_) (fun _r9 u9 t H1 locs1 ht hvm hf _ _ _ _ => hf.elim)
  obtain ⟨hE, hP⟩ := hB
  have hE : E = "java/lang/IndexOutOfBoundsException" := hE
  subst hE
  rw [ht] at hP
  have hN : N + 1 ≤ H.size := Nat.lt_of_le_of_lt hN hz1
  refine vx_catch (own := RL) (name := "java/lang/IndexOutOfBoundsException") (pc := 21) hown [] ⟨0, 33, 34, 27⟩ [⟨0, 33, 39, 15⟩, ⟨0, 33, 44, 21⟩] (htab.trans rfl) (fun z h => nomatch h) (by decide) (by decide) (hts (.classLink RL 27 "java/lang/IndexOutOfBoundsException") (by decide +kernel)) (va_Nw.use rfl (hTK.2.1 "java/lang/IndexOutOfBoundsException" (by decide))) hce hcv hcl ?_
  refine lv_astore (lv' := [(4, .ref q9), (0, .ref xo), (1, .int (nI 1)), (2, .int x), (3, .int z)]) hx hb dL_entry_34 hl (by decide) rfl (fun ls hl => ?_)
  refine lv_bipush (v := (-3)) hx hb dL_entry_36 (by decide) ?_
  exact W.iret (v := (-3)) hx hb hr (fun t ht hW => ⟨⟨_, (), rfl, rfl, by rw [ht]; exact hP, hD, by rw [ht]; exact hN⟩, hS.F ht⟩) hS.2.2 dL_entry_38

set_option maxHeartbeats 4000000 in
set_option maxRecDepth 100000 in
theorem t_entry_2_1 (l : Launch) (hlt : l.stackTraces = false) (dG : va_G) (cI cJ : ClassId) (A : Nat → Prop) (xo tl ts se lb g gA n : Nat) (ns : Nat → Int64) (hn : n ≤ 48) (x z : Int32) (hw : wr x x n false = 1) (N : Nat) (X : va_W) : Met l yL_entry wsL_entry ({ frames := 10, cells := 1, slots := 6, locals := 177 } : Room) (YPc dG cI cJ [.ref xo, .int (nI 2), .int x, .int z] (XW xo g lb se tl ts (bI false) ++ (GW cJ g gA (nI n) (nI 0) ns ++ X)) A N) (va_Qi (S := Unit) (fun r _ => r = (-3)) (fun _ => YB dG A (XW xo g lb se tl ts (bI false) ++ (GW cJ g gA (nI n) (nI 0) ns ++ X)) (N + 1)) A) 1 6 A := by
  refine va_MetW (cc := cL_entry) (maxL := 5) (ret := (some .int)) (hh := [(0, 33, 34, 27), (0, 33, 39, 15), (0, 33, 44, 21)]) (by decide) rfl ?_
  intro p e s m args below meth c s₁ B9 hml hv
  obtain ⟨rfl, hP, hK, hD, hTK, hTH, hN⟩ := hv
  have hx := B9.exec
  have hb := B9.bytes
  have hr := B9.returns
  have hts := atoms_spec (ws := wsL_entry) B9.pre
  have hown : s.vm.findClass RL = some m.cls := findClass_of_methodNamed B9.named
  have hlocks := B9.notSynchronized
  have hS : va_S A s.heap s.heap [] := va_S.rf
  have hl := lv_entry ([.ref xo, .int (nI 2), .int x, .int z]) (n := 5) (Nat.le_of_ble_eq_true rfl)
  rw [lg_entry_eq]
  generalize (lg_sl ([.ref xo, .int (nI 2), .int x, .int z]) ++ List.replicate (5 - (lg_sl ([.ref xo, .int (nI 2), .int x, .int z])).length) Slot.unset).toArray = ls at hl ⊢
  have hl : lv_has ls 5 [(0, .ref xo), (1, .int (nI 2)), (2, .int x), (3, .int z)] := hl
  have htab := vx_table (x := yL_entry) B9 (hts (.codeWith yL_entry cL_entry 5 (some .int) [(0, 33, 34, 27), (0, 33, 39, 15), (0, 33, 44, 21)]) (by decide +kernel))
  refine lv_iload_n hx hb dL_entry_0 rfl (lv_at hl 1 rfl) ?_
  refine lv_if_ne (tgt := 13) hx hb dL_entry_1 (by decide) (fun _ => ?_) (fun h9 => (show False by revert h9; decide +kernel).elim)
  refine lv_iload_n hx hb dL_entry_13 rfl (lv_at hl 1 rfl) ?_
  refine lv_iconst (v := (nI 1)) hx hb dL_entry_14 (by decide) ?_
  refine lv_icmp_ne (tgt := 27) hx hb dL_entry_15 (by decide) (fun _ => ?_) (fun h9 => (show False by revert h9; decide +kernel).elim)
  refine lv_aload_n hx hb dL_entry_27 rfl (lv_at hl 0 rfl) ?_
  refine lv_iload_n hx hb dL_entry_28 rfl (lv_at hl 2 rfl) ?_
  refine lv_iload_n hx hb dL_entry_29 rfl (lv_at hl 3 rfl) ?_
  refine vx_calli (vx_runV (As := [.int x, .int z]) (rest := []) ⟨hx, hb, hml, hown, hts⟩ (x_entryParent l hlt dG cI cJ A xo tl ts false se lb g gA n 0 ns hn x z 1 hw (by decide) _) (cwV 2 hts gL_entry_X3_entryParent rfl rfl rfl (by decide +kernel) ⟨Nat.le_of_ble_eq_true rfl, Nat.le_of_ble_eq_true rfl⟩) (XPc.pre hP hD hK hTK hTH (va_recv hK.1 hP (ci := 3) (q0 := 0) rfl rfl)) rfl rfl hl.1 rfl (lv_room (Nat.le_of_ble_eq_true rfl)) dL_entry_30 ⟨Nat.le_of_ble_eq_true rfl, Nat.le_of_ble_eq_true rfl⟩) hS (fun q _ h => h) (fun q h => h) (fun q _ h => h.elim) (fun E ce q9 u9 t H locs ht hvm _ hB hz1 hk1 hS hce hcv hcl => ?_) (fun _r9 u9 t H1 locs1 ht hvm hf _ _ _ _ => hf.elim)
  obtain ⟨hE, hP⟩ := hB
  have hE : E = "java/lang/IndexOutOfBoundsException" := hE
  subst hE
  rw [ht] at hP
  have hN : N + 1 ≤ H.size := Nat.lt_of_le_of_lt hN hz1
  refine vx_catch (own := RL) (name := "java/lang/IndexOutOfBoundsException") (pc := 30) hown [] ⟨0, 33, 34, 27⟩ [⟨0, 33, 39, 15⟩, ⟨0, 33, 44, 21⟩] (htab.trans rfl) (fun z h => nomatch h) (by decide) (by decide) (hts (.classLink RL 27 "java/lang/IndexOutOfBoundsException") (by decide +kernel)) (va_Nw.use rfl (hTK.2.1 "java/lang/IndexOutOfBoundsException" (by decide))) hce hcv hcl ?_
  refine lv_astore (lv' := [(4, .ref q9), (0, .ref xo), (1, .int (nI 2)), (2, .int x), (3, .int z)]) hx hb dL_entry_34 hl (by decide) rfl (fun ls hl => ?_)
  refine lv_bipush (v := (-3)) hx hb dL_entry_36 (by decide) ?_
  exact W.iret (v := (-3)) hx hb hr (fun t ht hW => ⟨⟨_, (), rfl, rfl, by rw [ht]; exact hP, hD, by rw [ht]; exact hN⟩, hS.F ht⟩) hS.2.2 dL_entry_38

set_option maxHeartbeats 4000000 in
set_option maxRecDepth 100000 in
theorem t_pathVertex_2 (l : Launch) (hlt : l.stackTraces = false) (dG : va_G) (cI cJ : ClassId) (A : Nat → Prop) (xo tl ts se lb g gA n : Nat) (ns : Nat → Int64) (hn : n ≤ 48) (x y z : Int32) (hw : wr x y n false = 2) (N : Nat) (X : va_W) : Met l yL_pathVertex wsL_pathVertex ({ frames := 9, cells := 1, slots := 6, locals := 157 } : Room) (YPc dG cI cJ [.ref xo, .int x, .int y, .int z] (XW xo g lb se tl ts (bI false) ++ (GW cJ g gA (nI n) (nI 0) ns ++ X)) A N) (va_Qi (S := Unit) (fun r _ => r = (-5)) (fun _ => YB dG A (XW xo g lb se tl ts (bI false) ++ (GW cJ g gA (nI n) (nI 0) ns ++ X)) (N + 1)) A) 1 6 A := by
  refine va_MetW (cc := cL_pathVertex) (maxL := 5) (ret := (some .int)) (hh := [(0, 7, 8, 27), (0, 7, 13, 15), (0, 7, 18, 21)]) (by decide) rfl ?_
  intro p e s m args below meth c s₁ B9 hml hv
  obtain ⟨rfl, hP, hK, hD, hTK, hTH, hN⟩ := hv
  have hx := B9.exec
  have hb := B9.bytes
  have hr := B9.returns
  have hts := atoms_spec (ws := wsL_pathVertex) B9.pre
  have hown : s.vm.findClass RL = some m.cls := findClass_of_methodNamed B9.named
  have hlocks := B9.notSynchronized
  have hS : va_S A s.heap s.heap [] := va_S.rf
  have hl := lv_entry ([.ref xo, .int x, .int y, .int z]) (n := 5) (Nat.le_of_ble_eq_true rfl)
  rw [lg_entry_eq]
  generalize (lg_sl ([.ref xo, .int x, .int y, .int z]) ++ List.replicate (5 - (lg_sl ([.ref xo, .int x, .int y, .int z])).length) Slot.unset).toArray = ls at hl ⊢
  have hl : lv_has ls 5 [(0, .ref xo), (1, .int x), (2, .int y), (3, .int z)] := hl
  have htab := vx_table (x := yL_pathVertex) B9 (hts (.codeWith yL_pathVertex cL_pathVertex 5 (some .int) [(0, 7, 8, 27), (0, 7, 13, 15), (0, 7, 18, 21)]) (by decide +kernel))
  refine lv_aload_n hx hb dL_pathVertex_0 rfl (lv_at hl 0 rfl) ?_
  refine lv_iload_n hx hb dL_pathVertex_1 rfl (lv_at hl 1 rfl) ?_
  refine lv_iload_n hx hb dL_pathVertex_2 rfl (lv_at hl 2 rfl) ?_
  refine lv_iload_n hx hb dL_pathVertex_3 rfl (lv_at hl 3 rfl) ?_
  refine vx_calli (vx_runV (As := [.int x, .int y, .int z]) (rest := []) ⟨hx, hb, hml, hown, hts⟩ (x_pathVertex l hlt dG cI cJ A xo tl ts false se lb g gA n 0 ns hn x y z 2 hw (by decide) _) (cwV 3 hts gL_pathVertex_X3_pathVertex rfl rfl rfl (by decide +kernel) ⟨Nat.le_of_ble_eq_true rfl, Nat.le_of_ble_eq_true rfl⟩) (XPc.pre hP hD hK hTK hTH (va_recv hK.1 hP (ci := 3) (q0 := 0) rfl rfl)) rfl rfl hl.1 rfl (lv_room (Nat.le_of_ble_eq_true rfl)) dL_pathVertex_4 ⟨Nat.le_of_ble_eq_true rfl, Nat.le_of_ble_eq_true rfl⟩) hS (fun q _ h => h) (fun q h => h) (fun q _ h => h.elim) (fun E ce q9 u9 t H locs ht hvm _ hB hz1 hk1 hS hce hcv hcl => ?_) (fun _r9 u9 t H1 locs1 ht hvm hf _ _ _ _ => hf.elim)
  obtain ⟨hE, hP⟩ := hB
  have hE : E = "java/lang/IllegalStateException" := hE
  subst hE
  rw [ht] at hP
  have hN : N + 1 ≤ H.size := Nat.lt_of_le_of_lt hN hz1
  refine vx_catch (own := RL) (name := "java/lang/IllegalStateException") (pc := 4) hown [⟨0, 7, 8, 27⟩] ⟨0, 7, 13, 15⟩ [⟨0, 7, 18, 21⟩] (htab.trans rfl) (List.forall_mem_cons.mpr ⟨Or.inr ⟨by decide, "java/lang/IndexOutOfBoundsException", hts (.classLink RL 27 "java/lang/IndexOutOfBoundsException") (by decide +kernel), hTK.2.2.1 "java/lang/IllegalStateException" (by decide) "java/lang/IndexOutOfBoundsException" (by decide) (by decide)⟩, fun z h => nomatch h⟩) (by decide) (by decide) (hts (.classLink RL 15 "java/lang/IllegalStateException") (by decide +kernel)) (va_Nw.use rfl (hTK.2.1 "java/lang/IllegalStateException" (by decide))) hce hcv hcl ?_
  refine lv_astore (lv' := [(4, .ref q9), (0, .ref xo), (1, .int x), (2, .int y), (3, .int z)]) hx hb dL_pathVertex_13 hl (by decide) rfl (fun ls hl => ?_)
  refine lv_bipush (v := (-5)) hx hb dL_pathVertex_15 (by decide) ?_
  exact W.iret (v := (-5)) hx hb hr (fun t ht hW => ⟨⟨_, (), rfl, rfl, by rw [ht]; exact hP, hD, by rw [ht]; exact hN⟩, hS.F ht⟩) hS.2.2 dL_pathVertex_17

set_option maxHeartbeats 4000000 in
set_option maxRecDepth 100000 in
theorem t_within_2 (l : Launch) (hlt : l.stackTraces = false) (dG : va_G) (cI cJ : ClassId) (A : Nat → Prop) (xo tl ts se lb g gA n : Nat) (ns : Nat → Int64) (hn : n ≤ 48) (x z : Int32) (hw : wr x x n false = 2) (N : Nat) (X : va_W) : Met l yL_within wsL_within ({ frames := 10, cells := 1, slots := 6, locals := 181 } : Room) (YPc dG cI cJ [.ref xo, .int x, .int z] (XW xo g lb se tl ts (bI false) ++ (GW cJ g gA (nI n) (nI 0) ns ++ X)) A N) (va_Ql (S := Unit) (fun r _ => r = (-5)) (fun _ => YB dG A (XW xo g lb se tl ts (bI false) ++ (GW cJ g gA (nI n) (nI 0) ns ++ X)) (N + 1)) A) 1 6 A := by
  refine va_MetW (cc := cL_within) (maxL := 4) (ret := (some .long)) (hh := [(0, 6, 7, 27), (0, 6, 12, 15), (0, 6, 17, 21)]) (by decide) rfl ?_
  intro p e s m args below meth c s₁ B9 hml hv
  obtain ⟨rfl, hP, hK, hD, hTK, hTH, hN⟩ := hv
  have hx := B9.exec
  have hb := B9.bytes
  have hr := B9.returns
  have hts := atoms_spec (ws := wsL_within) B9.pre
  have hown : s.vm.findClass RL = some m.cls := findClass_of_methodNamed B9.named
  have hlocks := B9.notSynchronized
  have hS : va_S A s.heap s.heap [] := va_S.rf
  have hl := lv_entry ([.ref xo, .int x, .int z]) (n := 4) (Nat.le_of_ble_eq_true rfl)
  rw [lg_entry_eq]
  generalize (lg_sl ([.ref xo, .int x, .int z]) ++ List.replicate (4 - (lg_sl ([.ref xo, .int x, .int z])).length) Slot.unset).toArray = ls at hl ⊢
  have hl : lv_has ls 4 [(0, .ref xo), (1, .int x), (2, .int z)] := hl
  have htab := vx_table (x := yL_within) B9 (hts (.codeWith yL_within cL_within 4 (some .long) [(0, 6, 7, 27), (0, 6, 12, 15), (0, 6, 17, 21)]) (by decide +kernel))
  refine lv_aload_n hx hb dL_within_0 rfl (lv_at hl 0 rfl) ?_
  refine lv_iload_n hx hb dL_within_1 rfl (lv_at hl 1 rfl) ?_
  refine lv_iload_n hx hb dL_within_2 rfl (lv_at hl 2 rfl) ?_
  refine vx_calll (vx_runV (As := [.int x, .int z]) (rest := []) ⟨hx, hb, hml, hown, hts⟩ (x_within l hlt dG cI cJ A xo tl ts false se lb g gA n 0 ns hn x z 2 hw (by decide) _) (cwV 2 hts gL_within_X3_within rfl rfl rfl (by decide +kernel) ⟨Nat.le_of_ble_eq_true rfl, Nat.le_of_ble_eq_true rfl⟩) (XPc.pre hP hD hK hTK hTH (va_recv hK.1 hP (ci := 3) (q0 := 0) rfl rfl)) rfl rfl hl.1 rfl (lv_room (Nat.le_of_ble_eq_true rfl)) dL_within_3 ⟨Nat.le_of_ble_eq_true rfl, Nat.le_of_ble_eq_true rfl⟩) hS (fun q _ h => h) (fun q h => h) (fun q _ h => h.elim) (fun E ce q9 u9 t H locs ht hvm _ hB hz1 hk1 hS hce hcv hcl => ?_) (fun _r9 u9 t H1 locs1 ht hvm hf _ _ _ _ => hf.elim)
  obtain ⟨hE, hP⟩ := hB
  have hE : E = "java/lang/IllegalStateException" := hE
  subst hE
  rw [ht] at hP
  have hN : N + 1 ≤ H.size := Nat.lt_of_le_of_lt hN hz1
  refine vx_catch (own := RL) (name := "java/lang/IllegalStateException") (pc := 3) hown [⟨0, 6, 7, 27⟩] ⟨0, 6, 12, 15⟩ [⟨0, 6, 17, 21⟩] (htab.trans rfl) (List.forall_mem_cons.mpr ⟨Or.inr ⟨by decide, "java/lang/IndexOutOfBoundsException", hts (.classLink RL 27 "java/lang/IndexOutOfBoundsException") (by decide +kernel), hTK.2.2.1 "java/lang/IllegalStateException" (by decide) "java/lang/IndexOutOfBoundsException" (by decide) (by decide)⟩, fun z h => nomatch h⟩) (by decide) (by decide) (hts (.classLink RL 15 "java/lang/IllegalStateException") (by decide +kernel)) (va_Nw.use rfl (hTK.2.1 "java/lang/IllegalStateException" (by decide))) hce hcv hcl ?_
  refine lv_astore_n (lv' := [(3, .ref q9), (0, .ref xo), (1, .int x), (2, .int z)]) hx hb dL_within_12 rfl hl (by decide) rfl (fun ls hl => ?_)
  refine lv_ldc2 hx hb hown (hts (.constantLong RL 63 (-5)) (by decide +kernel)) dL_within_13 ?_
  exact W.lret (v := (-5)) hx hb hr (fun t ht hW => ⟨⟨_, (), rfl, rfl, by rw [ht]; exact hP, hD, by rw [ht]; exact hN⟩, hS.F ht⟩) hS.2.2 dL_within_16

set_option maxHeartbeats 4000000 in
set_option maxRecDepth 100000 in
theorem t_of_0_2 (l : Launch) (hlt : l.stackTraces = false) (dG : va_G) (cI cJ : ClassId) (A : Nat → Prop) (xo tl ts se lb g gA n : Nat) (ns : Nat → Int64) (hn : n ≤ 48) (x y : Int32) (hw : wr x x n false = 2) (N : Nat) (X : va_W) : Met l yL_of wsL_of ({ frames := 10, cells := 1, slots := 6, locals := 176 } : Room) (YPc dG cI cJ [.ref xo, .int (nI 0), .int x, .int y] (XW xo g lb se tl ts (bI false) ++ (GW cJ g gA (nI n) (nI 0) ns ++ X)) A N) (va_Qi (S := Unit) (fun r _ => r = (-5)) (fun _ => YB dG A (XW xo g lb se tl ts (bI false) ++ (GW cJ g gA (nI n) (nI 0) ns ++ X)) (N + 1)) A) 1 6 A := by
  refine va_MetW (cc := cL_of) (maxL := 5) (ret := (some .int)) (hh := [(0, 58, 59, 27), (0, 58, 64, 15)]) (by decide) rfl ?_
  intro p e s m args below meth c s₁ B9 hml hv
  obtain ⟨rfl, hP, hK, hD, hTK, hTH, hN⟩ := hv
  have hx := B9.exec
  have hb := B9.bytes
  have hr := B9.returns
  have hts := atoms_spec (ws := wsL_of) B9.pre
  have hown : s.vm.findClass RL = some m.cls := findClass_of_methodNamed B9.named
  have hlocks := B9.notSynchronized
  have hS : va_S A s.heap s.heap [] := va_S.rf
  have hl := lv_entry ([.ref xo, .int (nI 0), .int x, .int y]) (n := 5) (Nat.le_of_ble_eq_true rfl)
  rw [lg_entry_eq]
  generalize (lg_sl ([.ref xo, .int (nI 0), .int x, .int y]) ++ List.replicate (5 - (lg_sl ([.ref xo, .int (nI 0), .int x, .int y])).length) Slot.unset).toArray = ls at hl ⊢
  have hl : lv_has ls 5 [(0, .ref xo), (1, .int (nI 0)), (2, .int x), (3, .int y)] := hl
  have htab := vx_table (x := yL_of) B9 (hts (.codeWith yL_of cL_of 5 (some .int) [(0, 58, 59, 27), (0, 58, 64, 15)]) (by decide +kernel))
  refine lv_iload_n hx hb dL_of_0 rfl (lv_at hl 1 rfl) ?_
  refine lv_if_ne (tgt := 12) hx hb dL_of_1 (by decide) (fun h9 => absurd rfl h9) (fun _ => ?_)
  refine lv_aload_n hx hb dL_of_4 rfl (lv_at hl 0 rfl) ?_
  refine lv_iload_n hx hb dL_of_5 rfl (lv_at hl 2 rfl) ?_
  refine vx_calli (vx_runV (As := [.int x]) (rest := []) ⟨hx, hb, hml, hown, hts⟩ (x_rank l hlt dG cI cJ A xo tl ts false se lb g gA n 0 ns hn x 2 hw (by decide) _) (cwV 1 hts gL_of_X3_rank rfl rfl rfl (by decide +kernel) ⟨Nat.le_of_ble_eq_true rfl, Nat.le_of_ble_eq_true rfl⟩) (XPc.pre hP hD hK hTK hTH (va_recv hK.1 hP (ci := 3) (q0 := 0) rfl rfl)) rfl rfl hl.1 rfl (lv_room (Nat.le_of_ble_eq_true rfl)) dL_of_6 ⟨Nat.le_of_ble_eq_true rfl, Nat.le_of_ble_eq_true rfl⟩) hS (fun q _ h => h) (fun q h => h) (fun q _ h => h.elim) (fun E ce q9 u9 t H locs ht hvm _ hB hz1 hk1 hS hce hcv hcl => ?_) (fun _r9 u9 t H1 locs1 ht hvm hf _ _ _ _ => hf.elim)
  obtain ⟨hE, hP⟩ := hB
  have hE : E = "java/lang/IllegalStateException" := hE
  subst hE
  rw [ht] at hP
  have hN : N + 1 ≤ H.size := Nat.lt_of_le_of_lt hN hz1
  refine vx_catch (own := RL) (name := "java/lang/IllegalStateException") (pc := 6) hown [⟨0, 58, 59, 27⟩] ⟨0, 58, 64, 15⟩ [] (htab.trans rfl) (List.forall_mem_cons.mpr ⟨Or.inr ⟨by decide, "java/lang/IndexOutOfBoundsException", hts (.classLink RL 27 "java/lang/IndexOutOfBoundsException") (by decide +kernel), hTK.2.2.1 "java/lang/IllegalStateException" (by decide) "java/lang/IndexOutOfBoundsException" (by decide) (by decide)⟩, fun z h => nomatch h⟩) (by decide) (by decide) (hts (.classLink RL 15 "java/lang/IllegalStateException") (by decide +kernel)) (va_Nw.use rfl (hTK.2.1 "java/lang/IllegalStateException" (by decide))) hce hcv hcl ?_
  refine lv_astore (lv' := [(4, .ref q9), (0, .ref xo), (1, .int (nI 0)), (2, .int x), (3, .int y)]) hx hb dL_of_64 hl (by decide) rfl (fun ls hl => ?_)
  refine lv_bipush (v := (-5)) hx hb dL_of_66 (by decide) ?_
  exact W.iret (v := (-5)) hx hb hr (fun t ht hW => ⟨⟨_, (), rfl, rfl, by rw [ht]; exact hP, hD, by rw [ht]; exact hN⟩, hS.F ht⟩) hS.2.2 dL_of_68

set_option maxHeartbeats 4000000 in
set_option maxRecDepth 100000 in
theorem t_of_1_2 (l : Launch) (hlt : l.stackTraces = false) (dG : va_G) (cI cJ : ClassId) (A : Nat → Prop) (xo tl ts se lb g gA n : Nat) (ns : Nat → Int64) (hn : n ≤ 48) (x y : Int32) (hw : wr x x n false = 2) (N : Nat) (X : va_W) : Met l yL_of wsL_of ({ frames := 10, cells := 1, slots := 6, locals := 176 } : Room) (YPc dG cI cJ [.ref xo, .int (nI 1), .int x, .int y] (XW xo g lb se tl ts (bI false) ++ (GW cJ g gA (nI n) (nI 0) ns ++ X)) A N) (va_Qi (S := Unit) (fun r _ => r = (-5)) (fun _ => YB dG A (XW xo g lb se tl ts (bI false) ++ (GW cJ g gA (nI n) (nI 0) ns ++ X)) (N + 1)) A) 1 6 A := by
  refine va_MetW (cc := cL_of) (maxL := 5) (ret := (some .int)) (hh := [(0, 58, 59, 27), (0, 58, 64, 15)]) (by decide) rfl ?_
  intro p e s m args below meth c s₁ B9 hml hv
  obtain ⟨rfl, hP, hK, hD, hTK, hTH, hN⟩ := hv
  have hx := B9.exec
  have hb := B9.bytes
  have hr := B9.returns
  have hts := atoms_spec (ws := wsL_of) B9.pre
  have hown : s.vm.findClass RL = some m.cls := findClass_of_methodNamed B9.named
  have hlocks := B9.notSynchronized
  have hS : va_S A s.heap s.heap [] := va_S.rf
  have hl := lv_entry ([.ref xo, .int (nI 1), .int x, .int y]) (n := 5) (Nat.le_of_ble_eq_true rfl)
  rw [lg_entry_eq]
  generalize (lg_sl ([.ref xo, .int (nI 1), .int x, .int y]) ++ List.replicate (5 - (lg_sl ([.ref xo, .int (nI 1), .int x, .int y])).length) Slot.unset).toArray = ls at hl ⊢
  have hl : lv_has ls 5 [(0, .ref xo), (1, .int (nI 1)), (2, .int x), (3, .int y)] := hl
  have htab := vx_table (x := yL_of) B9 (hts (.codeWith yL_of cL_of 5 (some .int) [(0, 58, 59, 27), (0, 58, 64, 15)]) (by decide +kernel))
  refine lv_iload_n hx hb dL_of_0 rfl (lv_at hl 1 rfl) ?_
  refine lv_if_ne (tgt := 12) hx hb dL_of_1 (by decide) (fun _ => ?_) (fun h9 => absurd h9 (by decide))
  refine lv_iload_n hx hb dL_of_12 rfl (lv_at hl 1 rfl) ?_
  refine lv_iconst (v := (nI 1)) hx hb dL_of_13 (by decide) ?_
  refine lv_icmp_ne (tgt := 25) hx hb dL_of_14 (by decide) (fun h9 => (show False by revert h9; decide +kernel).elim) (fun _ => ?_)
  refine lv_aload_n hx hb dL_of_17 rfl (lv_at hl 0 rfl) ?_
  refine lv_iload_n hx hb dL_of_18 rfl (lv_at hl 2 rfl) ?_
  refine vx_calli (vx_runV (As := [.int x]) (rest := []) ⟨hx, hb, hml, hown, hts⟩ (x_labelSize l hlt dG cI cJ A xo tl ts false se lb g gA n 0 ns hn x 2 hw (by decide) _) (cwV 1 hts gL_of_X3_labelSize rfl rfl rfl (by decide +kernel) ⟨Nat.le_of_ble_eq_true rfl, Nat.le_of_ble_eq_true rfl⟩) (XPc.pre hP hD hK hTK hTH (va_recv hK.1 hP (ci := 3) (q0 := 0) rfl rfl)) rfl rfl hl.1 rfl (lv_room (Nat.le_of_ble_eq_true rfl)) dL_of_19 ⟨Nat.le_of_ble_eq_true rfl, Nat.le_of_ble_eq_true rfl⟩) hS (fun q _ h => h) (fun q h => h) (fun q _ h => h.elim) (fun E ce q9 u9 t H locs ht hvm _ hB hz1 hk1 hS hce hcv hcl => ?_) (fun _r9 u9 t H1 locs1 ht hvm hf _ _ _ _ => hf.elim)
  obtain ⟨hE, hP⟩ := hB
  have hE : E = "java/lang/IllegalStateException" := hE
  subst hE
  rw [ht] at hP
  have hN : N + 1 ≤ H.size := Nat.lt_of_le_of_lt hN hz1
  refine vx_catch (own := RL) (name := "java/lang/IllegalStateException") (pc := 19) hown [⟨0, 58, 59, 27⟩] ⟨0, 58, 64, 15⟩ [] (htab.trans rfl) (List.forall_mem_cons.mpr ⟨Or.inr ⟨by decide, "java/lang/IndexOutOfBoundsException", hts (.classLink RL 27 "java/lang/IndexOutOfBoundsException") (by decide +kernel), hTK.2.2.1 "java/lang/IllegalStateException" (by decide) "java/lang/IndexOutOfBoundsException" (by decide) (by decide)⟩, fun z h => nomatch h⟩) (by decide) (by decide) (hts (.classLink RL 15 "java/lang/IllegalStateException") (by decide +kernel)) (va_Nw.use rfl (hTK.2.1 "java/lang/IllegalStateException" (by decide))) hce hcv hcl ?_
  refine lv_astore (lv' := [(4, .ref q9), (0, .ref xo), (1, .int (nI 1)), (2, .int x), (3, .int y)]) hx hb dL_of_64 hl (by decide) rfl (fun ls hl => ?_)
  refine lv_bipush (v := (-5)) hx hb dL_of_66 (by decide) ?_
  exact W.iret (v := (-5)) hx hb hr (fun t ht hW => ⟨⟨_, (), rfl, rfl, by rw [ht]; exact hP, hD, by rw [ht]; exact hN⟩, hS.F ht⟩) hS.2.2 dL_of_68

set_option maxHeartbeats 4000000 in
set_option maxRecDepth 100000 in
theorem t_of_2_2 (l : Launch) (hlt : l.stackTraces = false) (dG : va_G) (cI cJ : ClassId) (A : Nat → Prop) (xo tl ts se lb g gA n : Nat) (ns : Nat → Int64) (hn : n ≤ 48) (x y : Int32) (hw : wr x y n false = 2) (N : Nat) (X : va_W) : Met l yL_of wsL_of ({ frames := 9, cells := 1, slots := 6, locals := 156 } : Room) (YPc dG cI cJ [.ref xo, .int (nI 2), .int x, .int y] (XW xo g lb se tl ts (bI false) ++ (GW cJ g gA (nI n) (nI 0) ns ++ X)) A N) (va_Qi (S := Unit) (fun r _ => r = (-5)) (fun _ => YB dG A (XW xo g lb se tl ts (bI false) ++ (GW cJ g gA (nI n) (nI 0) ns ++ X)) (N + 1)) A) 1 6 A := by
  refine va_MetW (cc := cL_of) (maxL := 5) (ret := (some .int)) (hh := [(0, 58, 59, 27), (0, 58, 64, 15)]) (by decide) rfl ?_
  intro p e s m args below meth c s₁ B9 hml hv
  obtain ⟨rfl, hP, hK, hD, hTK, hTH, hN⟩ := hv
  have hx := B9.exec
  have hb := B9.bytes
  have hr := B9.returns
  have hts := atoms_spec (ws := wsL_of) B9.pre
  have hown : s.vm.findClass RL = some m.cls := findClass_of_methodNamed B9.named
  have hlocks := B9.notSynchronized
  have hS : va_S A s.heap s.heap [] := va_S.rf
  have hl := lv_entry ([.ref xo, .int (nI 2), .int x, .int y]) (n := 5) (Nat.le_of_ble_eq_true rfl)
  rw [lg_entry_eq]
  generalize (lg_sl ([.ref xo, .int (nI 2), .int x, .int y]) ++ List.replicate (5 - (lg_sl ([.ref xo, .int (nI 2), .int x, .int y])).length) Slot.unset).toArray = ls at hl ⊢
  have hl : lv_has ls 5 [(0, .ref xo), (1, .int (nI 2)), (2, .int x), (3, .int y)] := hl
  have htab := vx_table (x := yL_of) B9 (hts (.codeWith yL_of cL_of 5 (some .int) [(0, 58, 59, 27), (0, 58, 64, 15)]) (by decide +kernel))
  refine lv_iload_n hx hb dL_of_0 rfl (lv_at hl 1 rfl) ?_
  refine lv_if_ne (tgt := 12) hx hb dL_of_1 (by decide) (fun _ => ?_) (fun h9 => (show False by revert h9; decide +kernel).elim)
  refine lv_iload_n hx hb dL_of_12 rfl (lv_at hl 1 rfl) ?_
  refine lv_iconst (v := (nI 1)) hx hb dL_of_13 (by decide) ?_
  refine lv_icmp_ne (tgt := 25) hx hb dL_of_14 (by decide) (fun _ => ?_) (fun h9 => (show False by revert h9; decide +kernel).elim)
  refine lv_iload_n hx hb dL_of_25 rfl (lv_at hl 1 rfl) ?_
  refine lv_iconst (v := (nI 2)) hx hb dL_of_26 (by decide) ?_
  refine lv_icmp_ne (tgt := 39) hx hb dL_of_27 (by decide) (fun h9 => (show False by revert h9; decide +kernel).elim) (fun _ => ?_)
  refine lv_aload_n hx hb dL_of_30 rfl (lv_at hl 0 rfl) ?_
  refine lv_iload_n hx hb dL_of_31 rfl (lv_at hl 2 rfl) ?_
  refine lv_iload_n hx hb dL_of_32 rfl (lv_at hl 3 rfl) ?_
  refine vx_calli (vx_runV (As := [.int x, .int y]) (rest := []) ⟨hx, hb, hml, hown, hts⟩ (x_distance l hlt dG cI cJ A xo tl ts false se lb g gA n 0 ns hn x y 2 hw (by decide) _) (cwV 2 hts gL_of_X3_distance rfl rfl rfl (by decide +kernel) ⟨Nat.le_of_ble_eq_true rfl, Nat.le_of_ble_eq_true rfl⟩) (XPc.pre hP hD hK hTK hTH (va_recv hK.1 hP (ci := 3) (q0 := 0) rfl rfl)) rfl rfl hl.1 rfl (lv_room (Nat.le_of_ble_eq_true rfl)) dL_of_33 ⟨Nat.le_of_ble_eq_true rfl, Nat.le_of_ble_eq_true rfl⟩) hS (fun q _ h => h) (fun q h => h) (fun q _ h => h.elim) (fun E ce q9 u9 t H locs ht hvm _ hB hz1 hk1 hS hce hcv hcl => ?_) (fun _r9 u9 t H1 locs1 ht hvm hf _ _ _ _ => hf.elim)
  obtain ⟨hE, hP⟩ := hB
  have hE : E = "java/lang/IllegalStateException" := hE
  subst hE
  rw [ht] at hP
  have hN : N + 1 ≤ H.size := Nat.lt_of_le_of_lt hN hz1
  refine vx_catch (own := RL) (name := "java/lang/IllegalStateException") (pc := 33) hown [⟨0, 58, 59, 27⟩] ⟨0, 58, 64, 15⟩ [] (htab.trans rfl) (List.forall_mem_cons.mpr ⟨Or.inr ⟨by decide, "java/lang/IndexOutOfBoundsException", hts (.classLink RL 27 "java/lang/IndexOutOfBoundsException") (by decide +kernel), hTK.2.2.1 "java/lang/IllegalStateException" (by decide) "java/lang/IndexOutOfBoundsException" (by decide) (by decide)⟩, fun z h => nomatch h⟩) (by decide) (by decide) (hts (.classLink RL 15 "java/lang/IllegalStateException") (by decide +kernel)) (va_Nw.use rfl (hTK.2.1 "java/lang/IllegalStateException" (by decide))) hce hcv hcl ?_
  refine lv_astore (lv' := [(4, .ref q9), (0, .ref xo), (1, .int (nI 2)), (2, .int x), (3, .int y)]) hx hb dL_of_64 hl (by decide) rfl (fun ls hl => ?_)
  refine lv_bipush (v := (-5)) hx hb dL_of_66 (by decide) ?_
  exact W.iret (v := (-5)) hx hb hr (fun t ht hW => ⟨⟨_, (), rfl, rfl, by rw [ht]; exact hP, hD, by rw [ht]; exact hN⟩, hS.F ht⟩) hS.2.2 dL_of_68

set_option maxHeartbeats 4000000 in
set_option maxRecDepth 100000 in
theorem t_of_3_2 (l : Launch) (hlt : l.stackTraces = false) (dG : va_G) (cI cJ : ClassId) (A : Nat → Prop) (xo tl ts se lb g gA n : Nat) (ns : Nat → Int64) (hn : n ≤ 48) (x y : Int32) (hw : wr x y n false = 2) (N : Nat) (X : va_W) : Met l yL_of wsL_of ({ frames := 9, cells := 1, slots := 6, locals := 156 } : Room) (YPc dG cI cJ [.ref xo, .int (nI 3), .int x, .int y] (XW xo g lb se tl ts (bI false) ++ (GW cJ g gA (nI n) (nI 0) ns ++ X)) A N) (va_Qi (S := Unit) (fun r _ => r = (-5)) (fun _ => YB dG A (XW xo g lb se tl ts (bI false) ++ (GW cJ g gA (nI n) (nI 0) ns ++ X)) (N + 1)) A) 1 6 A := by
  refine va_MetW (cc := cL_of) (maxL := 5) (ret := (some .int)) (hh := [(0, 58, 59, 27), (0, 58, 64, 15)]) (by decide) rfl ?_
  intro p e s m args below meth c s₁ B9 hml hv
  obtain ⟨rfl, hP, hK, hD, hTK, hTH, hN⟩ := hv
  have hx := B9.exec
  have hb := B9.bytes
  have hr := B9.returns
  have hts := atoms_spec (ws := wsL_of) B9.pre
  have hown : s.vm.findClass RL = some m.cls := findClass_of_methodNamed B9.named
  have hlocks := B9.notSynchronized
  have hS : va_S A s.heap s.heap [] := va_S.rf
  have hl := lv_entry ([.ref xo, .int (nI 3), .int x, .int y]) (n := 5) (Nat.le_of_ble_eq_true rfl)
  rw [lg_entry_eq]
  generalize (lg_sl ([.ref xo, .int (nI 3), .int x, .int y]) ++ List.replicate (5 - (lg_sl ([.ref xo, .int (nI 3), .int x, .int y])).length) Slot.unset).toArray = ls at hl ⊢
  have hl : lv_has ls 5 [(0, .ref xo), (1, .int (nI 3)), (2, .int x), (3, .int y)] := hl
  have htab := vx_table (x := yL_of) B9 (hts (.codeWith yL_of cL_of 5 (some .int) [(0, 58, 59, 27), (0, 58, 64, 15)]) (by decide +kernel))
  refine lv_iload_n hx hb dL_of_0 rfl (lv_at hl 1 rfl) ?_
  refine lv_if_ne (tgt := 12) hx hb dL_of_1 (by decide) (fun _ => ?_) (fun h9 => (show False by revert h9; decide +kernel).elim)
  refine lv_iload_n hx hb dL_of_12 rfl (lv_at hl 1 rfl) ?_
  refine lv_iconst (v := (nI 1)) hx hb dL_of_13 (by decide) ?_
  refine lv_icmp_ne (tgt := 25) hx hb dL_of_14 (by decide) (fun _ => ?_) (fun h9 => (show False by revert h9; decide +kernel).elim)
  refine lv_iload_n hx hb dL_of_25 rfl (lv_at hl 1 rfl) ?_
  refine lv_iconst (v := (nI 2)) hx hb dL_of_26 (by decide) ?_
  refine lv_icmp_ne (tgt := 39) hx hb dL_of_27 (by decide) (fun _ => ?_) (fun h9 => (show False by revert h9; decide +kernel).elim)
  refine lv_iload_n hx hb dL_of_39 rfl (lv_at hl 1 rfl) ?_
  refine lv_iconst (v := (nI 3)) hx hb dL_of_40 (by decide) ?_
  refine lv_icmp_ne (tgt := 53) hx hb dL_of_41 (by decide) (fun h9 => (show False by revert h9; decide +kernel).elim) (fun _ => ?_)
  refine lv_aload_n hx hb dL_of_44 rfl (lv_at hl 0 rfl) ?_
  refine lv_iload_n hx hb dL_of_45 rfl (lv_at hl 2 rfl) ?_
  refine lv_iload_n hx hb dL_of_46 rfl (lv_at hl 3 rfl) ?_
  refine vx_calli (vx_runV (As := [.int x, .int y]) (rest := []) ⟨hx, hb, hml, hown, hts⟩ (x_hub l hlt dG cI cJ A xo tl ts false se lb g gA n 0 ns hn x y 2 hw (by decide) _) (cwV 2 hts gL_of_X3_hub rfl rfl rfl (by decide +kernel) ⟨Nat.le_of_ble_eq_true rfl, Nat.le_of_ble_eq_true rfl⟩) (XPc.pre hP hD hK hTK hTH (va_recv hK.1 hP (ci := 3) (q0 := 0) rfl rfl)) rfl rfl hl.1 rfl (lv_room (Nat.le_of_ble_eq_true rfl)) dL_of_47 ⟨Nat.le_of_ble_eq_true rfl, Nat.le_of_ble_eq_true rfl⟩) hS (fun q _ h => h) (fun q h => h) (fun q _ h => h.elim) (fun E ce q9 u9 t H locs ht hvm _ hB hz1 hk1 hS hce hcv hcl => ?_) (fun _r9 u9 t H1 locs1 ht hvm hf _ _ _ _ => hf.elim)
  obtain ⟨hE, hP⟩ := hB
  have hE : E = "java/lang/IllegalStateException" := hE
  subst hE
  rw [ht] at hP
  have hN : N + 1 ≤ H.size := Nat.lt_of_le_of_lt hN hz1
  refine vx_catch (own := RL) (name := "java/lang/IllegalStateException") (pc := 47) hown [⟨0, 58, 59, 27⟩] ⟨0, 58, 64, 15⟩ [] (htab.trans rfl) (List.forall_mem_cons.mpr ⟨Or.inr ⟨by decide, "java/lang/IndexOutOfBoundsException", hts (.classLink RL 27 "java/lang/IndexOutOfBoundsException") (by decide +kernel), hTK.2.2.1 "java/lang/IllegalStateException" (by decide) "java/lang/IndexOutOfBoundsException" (by decide) (by decide)⟩, fun z h => nomatch h⟩) (by decide) (by decide) (hts (.classLink RL 15 "java/lang/IllegalStateException") (by decide +kernel)) (va_Nw.use rfl (hTK.2.1 "java/lang/IllegalStateException" (by decide))) hce hcv hcl ?_
  refine lv_astore (lv' := [(4, .ref q9), (0, .ref xo), (1, .int (nI 3)), (2, .int x), (3, .int y)]) hx hb dL_of_64 hl (by decide) rfl (fun ls hl => ?_)
  refine lv_bipush (v := (-5)) hx hb dL_of_66 (by decide) ?_
  exact W.iret (v := (-5)) hx hb hr (fun t ht hW => ⟨⟨_, (), rfl, rfl, by rw [ht]; exact hP, hD, by rw [ht]; exact hN⟩, hS.F ht⟩) hS.2.2 dL_of_68

set_option maxHeartbeats 4000000 in
set_option maxRecDepth 100000 in
theorem t_of_4_2 (l : Launch) (hlt : l.stackTraces = false) (dG : va_G) (cI cJ : ClassId) (A : Nat → Prop) (xo tl ts se lb g gA n : Nat) (ns : Nat → Int64) (hn : n ≤ 48) (x y : Int32) (hw : wr x x n false = 2) (N : Nat) (X : va_W) : Met l yL_of wsL_of ({ frames := 10, cells := 1, slots := 6, locals := 178 } : Room) (YPc dG cI cJ [.ref xo, .int (nI 4), .int x, .int y] (XW xo g lb se tl ts (bI false) ++ (GW cJ g gA (nI n) (nI 0) ns ++ X)) A N) (va_Qi (S := Unit) (fun r _ => r = (-5)) (fun _ => YB dG A (XW xo g lb se tl ts (bI false) ++ (GW cJ g gA (nI n) (nI 0) ns ++ X)) (N + 1)) A) 1 6 A := by
  refine va_MetW (cc := cL_of) (maxL := 5) (ret := (some .int)) (hh := [(0, 58, 59, 27), (0, 58, 64, 15)]) (by decide) rfl ?_
  intro p e s m args below meth c s₁ B9 hml hv
  obtain ⟨rfl, hP, hK, hD, hTK, hTH, hN⟩ := hv
  have hx := B9.exec
  have hb := B9.bytes
  have hr := B9.returns
  have hts := atoms_spec (ws := wsL_of) B9.pre
  have hown : s.vm.findClass RL = some m.cls := findClass_of_methodNamed B9.named
  have hlocks := B9.notSynchronized
  have hS : va_S A s.heap s.heap [] := va_S.rf
  have hl := lv_entry ([.ref xo, .int (nI 4), .int x, .int y]) (n := 5) (Nat.le_of_ble_eq_true rfl)
  rw [lg_entry_eq]
  generalize (lg_sl ([.ref xo, .int (nI 4), .int x, .int y]) ++ List.replicate (5 - (lg_sl ([.ref xo, .int (nI 4), .int x, .int y])).length) Slot.unset).toArray = ls at hl ⊢
  have hl : lv_has ls 5 [(0, .ref xo), (1, .int (nI 4)), (2, .int x), (3, .int y)] := hl
  have htab := vx_table (x := yL_of) B9 (hts (.codeWith yL_of cL_of 5 (some .int) [(0, 58, 59, 27), (0, 58, 64, 15)]) (by decide +kernel))
  refine lv_iload_n hx hb dL_of_0 rfl (lv_at hl 1 rfl) ?_
  refine lv_if_ne (tgt := 12) hx hb dL_of_1 (by decide) (fun _ => ?_) (fun h9 => (show False by revert h9; decide +kernel).elim)
  refine lv_iload_n hx hb dL_of_12 rfl (lv_at hl 1 rfl) ?_
  refine lv_iconst (v := (nI 1)) hx hb dL_of_13 (by decide) ?_
  refine lv_icmp_ne (tgt := 25) hx hb dL_of_14 (by decide) (fun _ => ?_) (fun h9 => (show False by revert h9; decide +kernel).elim)
  refine lv_iload_n hx hb dL_of_25 rfl (lv_at hl 1 rfl) ?_
  refine lv_iconst (v := (nI 2)) hx hb dL_of_26 (by decide) ?_
  refine lv_icmp_ne (tgt := 39) hx hb dL_of_27 (by decide) (fun _ => ?_) (fun h9 => (show False by revert h9; decide +kernel).elim)
  refine lv_iload_n hx hb dL_of_39 rfl (lv_at hl 1 rfl) ?_
  refine lv_iconst (v := (nI 3)) hx hb dL_of_40 (by decide) ?_
  refine lv_icmp_ne (tgt := 53) hx hb dL_of_41 (by decide) (fun _ => ?_) (fun h9 => (show False by revert h9; decide +kernel).elim)
  refine lv_aload_n hx hb dL_of_53 rfl (lv_at hl 0 rfl) ?_
  refine lv_iload_n hx hb dL_of_54 rfl (lv_at hl 2 rfl) ?_
  refine vx_calli (vx_runV (As := [.int x]) (rest := []) ⟨hx, hb, hml, hown, hts⟩ (x_eccentricity l hlt dG cI cJ A xo tl ts false se lb g gA n 0 ns hn x 2 hw (by decide) _) (cwV 1 hts gL_of_X3_eccentricity rfl rfl rfl (by decide +kernel) ⟨Nat.le_of_ble_eq_true rfl, Nat.le_of_ble_eq_true rfl⟩) (XPc.pre hP hD hK hTK hTH (va_recv hK.1 hP (ci := 3) (q0 := 0) rfl rfl)) rfl rfl hl.1 rfl (lv_room (Nat.le_of_ble_eq_true rfl)) dL_of_55 ⟨Nat.le_of_ble_eq_true rfl, Nat.le_of_ble_eq_true rfl⟩) hS (fun q _ h => h) (fun q h => h) (fun q _ h => h.elim) (fun E ce q9 u9 t H locs ht hvm _ hB hz1 hk1 hS hce hcv hcl => ?_) (fun _r9 u9 t H1 locs1 ht hvm hf _ _ _ _ => hf.elim)
  obtain ⟨hE, hP⟩ := hB
  have hE : E = "java/lang/IllegalStateException" := hE
  subst hE
  rw [ht] at hP
  have hN : N + 1 ≤ H.size := Nat.lt_of_le_of_lt hN hz1
  refine vx_catch (own := RL) (name := "java/lang/IllegalStateException") (pc := 55) hown [⟨0, 58, 59, 27⟩] ⟨0, 58, 64, 15⟩ [] (htab.trans rfl) (List.forall_mem_cons.mpr ⟨Or.inr ⟨by decide, "java/lang/IndexOutOfBoundsException", hts (.classLink RL 27 "java/lang/IndexOutOfBoundsException") (by decide +kernel), hTK.2.2.1 "java/lang/IllegalStateException" (by decide) "java/lang/IndexOutOfBoundsException" (by decide) (by decide)⟩, fun z h => nomatch h⟩) (by decide) (by decide) (hts (.classLink RL 15 "java/lang/IllegalStateException") (by decide +kernel)) (va_Nw.use rfl (hTK.2.1 "java/lang/IllegalStateException" (by decide))) hce hcv hcl ?_
  refine lv_astore (lv' := [(4, .ref q9), (0, .ref xo), (1, .int (nI 4)), (2, .int x), (3, .int y)]) hx hb dL_of_64 hl (by decide) rfl (fun ls hl => ?_)
  refine lv_bipush (v := (-5)) hx hb dL_of_66 (by decide) ?_
  exact W.iret (v := (-5)) hx hb hr (fun t ht hW => ⟨⟨_, (), rfl, rfl, by rw [ht]; exact hP, hD, by rw [ht]; exact hN⟩, hS.F ht⟩) hS.2.2 dL_of_68

set_option maxHeartbeats 4000000 in
set_option maxRecDepth 100000 in
theorem t_entry_0_2 (l : Launch) (hlt : l.stackTraces = false) (dG : va_G) (cI cJ : ClassId) (A : Nat → Prop) (xo tl ts se lb g gA n : Nat) (ns : Nat → Int64) (hn : n ≤ 48) (x z : Int32) (hw : wr x x n false = 2) (N : Nat) (X : va_W) : Met l yL_entry wsL_entry ({ frames := 10, cells := 1, slots := 6, locals := 177 } : Room) (YPc dG cI cJ [.ref xo, .int (nI 0), .int x, .int z] (XW xo g lb se tl ts (bI false) ++ (GW cJ g gA (nI n) (nI 0) ns ++ X)) A N) (va_Qi (S := Unit) (fun r _ => r = (-5)) (fun _ => YB dG A (XW xo g lb se tl ts (bI false) ++ (GW cJ g gA (nI n) (nI 0) ns ++ X)) (N + 1)) A) 1 6 A := by
  refine va_MetW (cc := cL_entry) (maxL := 5) (ret := (some .int)) (hh := [(0, 33, 34, 27), (0, 33, 39, 15), (0, 33, 44, 21)]) (by decide) rfl ?_
  intro p e s m args below meth c s₁ B9 hml hv
  obtain ⟨rfl, hP, hK, hD, hTK, hTH, hN⟩ := hv
  have hx := B9.exec
  have hb := B9.bytes
  have hr := B9.returns
  have hts := atoms_spec (ws := wsL_entry) B9.pre
  have hown : s.vm.findClass RL = some m.cls := findClass_of_methodNamed B9.named
  have hlocks := B9.notSynchronized
  have hS : va_S A s.heap s.heap [] := va_S.rf
  have hl := lv_entry ([.ref xo, .int (nI 0), .int x, .int z]) (n := 5) (Nat.le_of_ble_eq_true rfl)
  rw [lg_entry_eq]
  generalize (lg_sl ([.ref xo, .int (nI 0), .int x, .int z]) ++ List.replicate (5 - (lg_sl ([.ref xo, .int (nI 0), .int x, .int z])).length) Slot.unset).toArray = ls at hl ⊢
  have hl : lv_has ls 5 [(0, .ref xo), (1, .int (nI 0)), (2, .int x), (3, .int z)] := hl
  have htab := vx_table (x := yL_entry) B9 (hts (.codeWith yL_entry cL_entry 5 (some .int) [(0, 33, 34, 27), (0, 33, 39, 15), (0, 33, 44, 21)]) (by decide +kernel))
  refine lv_iload_n hx hb dL_entry_0 rfl (lv_at hl 1 rfl) ?_
  refine lv_if_ne (tgt := 13) hx hb dL_entry_1 (by decide) (fun h9 => absurd rfl h9) (fun _ => ?_)
  refine lv_aload_n hx hb dL_entry_4 rfl (lv_at hl 0 rfl) ?_
  refine lv_iload_n hx hb dL_entry_5 rfl (lv_at hl 2 rfl) ?_
  refine lv_iload_n hx hb dL_entry_6 rfl (lv_at hl 3 rfl) ?_
  refine vx_calli (vx_runV (As := [.int x, .int z]) (rest := []) ⟨hx, hb, hml, hown, hts⟩ (x_entryHub l hlt dG cI cJ A xo tl ts false se lb g gA n 0 ns hn x z 2 hw (by decide) _) (cwV 2 hts gL_entry_X3_entryHub rfl rfl rfl (by decide +kernel) ⟨Nat.le_of_ble_eq_true rfl, Nat.le_of_ble_eq_true rfl⟩) (XPc.pre hP hD hK hTK hTH (va_recv hK.1 hP (ci := 3) (q0 := 0) rfl rfl)) rfl rfl hl.1 rfl (lv_room (Nat.le_of_ble_eq_true rfl)) dL_entry_7 ⟨Nat.le_of_ble_eq_true rfl, Nat.le_of_ble_eq_true rfl⟩) hS (fun q _ h => h) (fun q h => h) (fun q _ h => h.elim) (fun E ce q9 u9 t H locs ht hvm _ hB hz1 hk1 hS hce hcv hcl => ?_) (fun _r9 u9 t H1 locs1 ht hvm hf _ _ _ _ => hf.elim)
  obtain ⟨hE, hP⟩ := hB
  have hE : E = "java/lang/IllegalStateException" := hE
  subst hE
  rw [ht] at hP
  have hN : N + 1 ≤ H.size := Nat.lt_of_le_of_lt hN hz1
  refine vx_catch (own := RL) (name := "java/lang/IllegalStateException") (pc := 7) hown [⟨0, 33, 34, 27⟩] ⟨0, 33, 39, 15⟩ [⟨0, 33, 44, 21⟩] (htab.trans rfl) (List.forall_mem_cons.mpr ⟨Or.inr ⟨by decide, "java/lang/IndexOutOfBoundsException", hts (.classLink RL 27 "java/lang/IndexOutOfBoundsException") (by decide +kernel), hTK.2.2.1 "java/lang/IllegalStateException" (by decide) "java/lang/IndexOutOfBoundsException" (by decide) (by decide)⟩, fun z h => nomatch h⟩) (by decide) (by decide) (hts (.classLink RL 15 "java/lang/IllegalStateException") (by decide +kernel)) (va_Nw.use rfl (hTK.2.1 "java/lang/IllegalStateException" (by decide))) hce hcv hcl ?_
  refine lv_astore (lv' := [(4, .ref q9), (0, .ref xo), (1, .int (nI 0)), (2, .int x), (3, .int z)]) hx hb dL_entry_39 hl (by decide) rfl (fun ls hl => ?_)
  refine lv_bipush (v := (-5)) hx hb dL_entry_41 (by decide) ?_
  exact W.iret (v := (-5)) hx hb hr (fun t ht hW => ⟨⟨_, (), rfl, rfl, by rw [ht]; exact hP, hD, by rw [ht]; exact hN⟩, hS.F ht⟩) hS.2.2 dL_entry_43

set_option maxHeartbeats 4000000 in
set_option maxRecDepth 100000 in
theorem t_entry_1_2 (l : Launch) (hlt : l.stackTraces = false) (dG : va_G) (cI cJ : ClassId) (A : Nat → Prop) (xo tl ts se lb g gA n : Nat) (ns : Nat → Int64) (hn : n ≤ 48) (x z : Int32) (hw : wr x x n false = 2) (N : Nat) (X : va_W) : Met l yL_entry wsL_entry ({ frames := 10, cells := 1, slots := 6, locals := 177 } : Room) (YPc dG cI cJ [.ref xo, .int (nI 1), .int x, .int z] (XW xo g lb se tl ts (bI false) ++ (GW cJ g gA (nI n) (nI 0) ns ++ X)) A N) (va_Qi (S := Unit) (fun r _ => r = (-5)) (fun _ => YB dG A (XW xo g lb se tl ts (bI false) ++ (GW cJ g gA (nI n) (nI 0) ns ++ X)) (N + 1)) A) 1 6 A := by
  refine va_MetW (cc := cL_entry) (maxL := 5) (ret := (some .int)) (hh := [(0, 33, 34, 27), (0, 33, 39, 15), (0, 33, 44, 21)]) (by decide) rfl ?_
  intro p e s m args below meth c s₁ B9 hml hv
  obtain ⟨rfl, hP, hK, hD, hTK, hTH, hN⟩ := hv
  have hx := B9.exec
  have hb := B9.bytes
  have hr := B9.returns
  have hts := atoms_spec (ws := wsL_entry) B9.pre
  have hown : s.vm.findClass RL = some m.cls := findClass_of_methodNamed B9.named
  have hlocks := B9.notSynchronized
  have hS : va_S A s.heap s.heap [] := va_S.rf
  have hl := lv_entry ([.ref xo, .int (nI 1), .int x, .int z]) (n := 5) (Nat.le_of_ble_eq_true rfl)
  rw [lg_entry_eq]
  generalize (lg_sl ([.ref xo, .int (nI 1), .int x, .int z]) ++ List.replicate (5 - (lg_sl ([.ref xo, .int (nI 1), .int x, .int z])).length) Slot.unset).toArray = ls at hl ⊢
  have hl : lv_has ls 5 [(0, .ref xo), (1, .int (nI 1)), (2, .int x), (3, .int z)] := hl
  have htab := vx_table (x := yL_entry) B9 (hts (.codeWith yL_entry cL_entry 5 (some .int) [(0, 33, 34, 27), (0, 33, 39, 15), (0, 33, 44, 21)]) (by decide +kernel))
  refine lv_iload_n hx hb dL_entry_0 rfl (lv_at hl 1 rfl) ?_
  refine lv_if_ne (tgt := 13) hx hb dL_entry_1 (by decide) (fun _ => ?_) (fun h9 => absurd h9 (by decide))
  refine lv_iload_n hx hb dL_entry_13 rfl (lv_at hl 1 rfl) ?_
  refine lv_iconst (v := (nI 1)) hx hb dL_entry_14 (by decide) ?_
  refine lv_icmp_ne (tgt := 27) hx hb dL_entry_15 (by decide) (fun h9 => (show False by revert h9; decide +kernel).elim) (fun _ => ?_)
  refine lv_aload_n hx hb dL_entry_18 rfl (lv_at hl 0 rfl) ?_
  refine lv_iload_n hx hb dL_entry_19 rfl (lv_at hl 2 rfl) ?_
  refine lv_iload_n hx hb dL_entry_20 rfl (lv_at hl 3 rfl) ?_
  refine vx_calli (vx_runV (As := [.int x, .int z]) (rest := []) ⟨hx, hb, hml, hown, hts⟩ (x_entryDistance l hlt dG cI cJ A xo tl ts false se lb g gA n 0 ns hn x z 2 hw (by decide) _) (cwV 2 hts gL_entry_X3_entryDistance rfl rfl rfl (by decide +kernel) ⟨Nat.le_of_ble_eq_true rfl, Nat.le_of_ble_eq_true rfl⟩) (XPc.pre hP hD hK hTK hTH (va_recv hK.1 hP (ci := 3) (q0 := 0) rfl rfl)) rfl rfl hl.1 rfl (lv_room (Nat.le_of_ble_eq_true rfl)) dL_entry_21 ⟨Nat.le_of_ble_eq_true rfl, Nat.le_of_ble_eq_true rfl⟩) hS (fun q _ h => h) (fun q h => h) (fun q _ h => h.elim) (fun E ce q9 u9 t H locs ht hvm _ hB hz1 hk1 hS hce hcv hcl => ?_) (fun _r9 u9 t H1 locs1 ht hvm hf _ _ _ _ => hf.elim)
  obtain ⟨hE, hP⟩ := hB
  have hE : E = "java/lang/IllegalStateException" := hE
  subst hE
  rw [ht] at hP
  have hN : N + 1 ≤ H.size := Nat.lt_of_le_of_lt hN hz1
  refine vx_catch (own := RL) (name := "java/lang/IllegalStateException") (pc := 21) hown [⟨0, 33, 34, 27⟩] ⟨0, 33, 39, 15⟩ [⟨0, 33, 44, 21⟩] (htab.trans rfl) (List.forall_mem_cons.mpr ⟨Or.inr ⟨by decide, "java/lang/IndexOutOfBoundsException", hts (.classLink RL 27 "java/lang/IndexOutOfBoundsException") (by decide +kernel), hTK.2.2.1 "java/lang/IllegalStateException" (by decide) "java/lang/IndexOutOfBoundsException" (by decide) (by decide)⟩, fun z h => nomatch h⟩) (by decide) (by decide) (hts (.classLink RL 15 "java/lang/IllegalStateException") (by decide +kernel)) (va_Nw.use rfl (hTK.2.1 "java/lang/IllegalStateException" (by decide))) hce hcv hcl ?_
  refine lv_astore (lv' := [(4, .ref q9), (0, .ref xo), (1, .int (nI 1)), (2, .int x), (3, .int z)]) hx hb dL_entry_39 hl (by decide) rfl (fun ls hl => ?_)
  refine lv_bipush (v := (-5)) hx hb dL_entry_41 (by decide) ?_
  exact W.iret (v := (-5)) hx hb hr (fun t ht hW => ⟨⟨_, (), rfl, rfl, by rw [ht]; exact hP, hD, by rw [ht]; exact hN⟩, hS.F ht⟩) hS.2.2 dL_entry_43

set_option maxHeartbeats 4000000 in
set_option maxRecDepth 100000 in
theorem t_entry_2_2 (l : Launch) (hlt : l.stackTraces = false) (dG : va_G) (cI cJ : ClassId) (A : Nat → Prop) (xo tl ts se lb g gA n : Nat) (ns : Nat → Int64) (hn : n ≤ 48) (x z : Int32) (hw : wr x x n false = 2) (N : Nat) (X : va_W) : Met l yL_entry wsL_entry ({ frames := 10, cells := 1, slots := 6, locals := 177 } : Room) (YPc dG cI cJ [.ref xo, .int (nI 2), .int x, .int z] (XW xo g lb se tl ts (bI false) ++ (GW cJ g gA (nI n) (nI 0) ns ++ X)) A N) (va_Qi (S := Unit) (fun r _ => r = (-5)) (fun _ => YB dG A (XW xo g lb se tl ts (bI false) ++ (GW cJ g gA (nI n) (nI 0) ns ++ X)) (N + 1)) A) 1 6 A := by
  refine va_MetW (cc := cL_entry) (maxL := 5) (ret := (some .int)) (hh := [(0, 33, 34, 27), (0, 33, 39, 15), (0, 33, 44, 21)]) (by decide) rfl ?_
  intro p e s m args below meth c s₁ B9 hml hv
  obtain ⟨rfl, hP, hK, hD, hTK, hTH, hN⟩ := hv
  have hx := B9.exec
  have hb := B9.bytes
  have hr := B9.returns
  have hts := atoms_spec (ws := wsL_entry) B9.pre
  have hown : s.vm.findClass RL = some m.cls := findClass_of_methodNamed B9.named
  have hlocks := B9.notSynchronized
  have hS : va_S A s.heap s.heap [] := va_S.rf
  have hl := lv_entry ([.ref xo, .int (nI 2), .int x, .int z]) (n := 5) (Nat.le_of_ble_eq_true rfl)
  rw [lg_entry_eq]
  generalize (lg_sl ([.ref xo, .int (nI 2), .int x, .int z]) ++ List.replicate (5 - (lg_sl ([.ref xo, .int (nI 2), .int x, .int z])).length) Slot.unset).toArray = ls at hl ⊢
  have hl : lv_has ls 5 [(0, .ref xo), (1, .int (nI 2)), (2, .int x), (3, .int z)] := hl
  have htab := vx_table (x := yL_entry) B9 (hts (.codeWith yL_entry cL_entry 5 (some .int) [(0, 33, 34, 27), (0, 33, 39, 15), (0, 33, 44, 21)]) (by decide +kernel))
  refine lv_iload_n hx hb dL_entry_0 rfl (lv_at hl 1 rfl) ?_
  refine lv_if_ne (tgt := 13) hx hb dL_entry_1 (by decide) (fun _ => ?_) (fun h9 => (show False by revert h9; decide +kernel).elim)
  refine lv_iload_n hx hb dL_entry_13 rfl (lv_at hl 1 rfl) ?_
  refine lv_iconst (v := (nI 1)) hx hb dL_entry_14 (by decide) ?_
  refine lv_icmp_ne (tgt := 27) hx hb dL_entry_15 (by decide) (fun _ => ?_) (fun h9 => (show False by revert h9; decide +kernel).elim)
  refine lv_aload_n hx hb dL_entry_27 rfl (lv_at hl 0 rfl) ?_
  refine lv_iload_n hx hb dL_entry_28 rfl (lv_at hl 2 rfl) ?_
  refine lv_iload_n hx hb dL_entry_29 rfl (lv_at hl 3 rfl) ?_
  refine vx_calli (vx_runV (As := [.int x, .int z]) (rest := []) ⟨hx, hb, hml, hown, hts⟩ (x_entryParent l hlt dG cI cJ A xo tl ts false se lb g gA n 0 ns hn x z 2 hw (by decide) _) (cwV 2 hts gL_entry_X3_entryParent rfl rfl rfl (by decide +kernel) ⟨Nat.le_of_ble_eq_true rfl, Nat.le_of_ble_eq_true rfl⟩) (XPc.pre hP hD hK hTK hTH (va_recv hK.1 hP (ci := 3) (q0 := 0) rfl rfl)) rfl rfl hl.1 rfl (lv_room (Nat.le_of_ble_eq_true rfl)) dL_entry_30 ⟨Nat.le_of_ble_eq_true rfl, Nat.le_of_ble_eq_true rfl⟩) hS (fun q _ h => h) (fun q h => h) (fun q _ h => h.elim) (fun E ce q9 u9 t H locs ht hvm _ hB hz1 hk1 hS hce hcv hcl => ?_) (fun _r9 u9 t H1 locs1 ht hvm hf _ _ _ _ => hf.elim)
  obtain ⟨hE, hP⟩ := hB
  have hE : E = "java/lang/IllegalStateException" := hE
  subst hE
  rw [ht] at hP
  have hN : N + 1 ≤ H.size := Nat.lt_of_le_of_lt hN hz1
  refine vx_catch (own := RL) (name := "java/lang/IllegalStateException") (pc := 30) hown [⟨0, 33, 34, 27⟩] ⟨0, 33, 39, 15⟩ [⟨0, 33, 44, 21⟩] (htab.trans rfl) (List.forall_mem_cons.mpr ⟨Or.inr ⟨by decide, "java/lang/IndexOutOfBoundsException", hts (.classLink RL 27 "java/lang/IndexOutOfBoundsException") (by decide +kernel), hTK.2.2.1 "java/lang/IllegalStateException" (by decide) "java/lang/IndexOutOfBoundsException" (by decide) (by decide)⟩, fun z h => nomatch h⟩) (by decide) (by decide) (hts (.classLink RL 15 "java/lang/IllegalStateException") (by decide +kernel)) (va_Nw.use rfl (hTK.2.1 "java/lang/IllegalStateException" (by decide))) hce hcv hcl ?_
  refine lv_astore (lv' := [(4, .ref q9), (0, .ref xo), (1, .int (nI 2)), (2, .int x), (3, .int z)]) hx hb dL_entry_39 hl (by decide) rfl (fun ls hl => ?_)
  refine lv_bipush (v := (-5)) hx hb dL_entry_41 (by decide) ?_
  exact W.iret (v := (-5)) hx hb hr (fun t ht hW => ⟨⟨_, (), rfl, rfl, by rw [ht]; exact hP, hD, by rw [ht]; exact hN⟩, hS.F ht⟩) hS.2.2 dL_entry_43
