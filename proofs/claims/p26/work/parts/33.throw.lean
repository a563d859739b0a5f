/-! what throws -/
abbrev exI : String := "java/lang/IndexOutOfBoundsException"
abbrev exS : String := "java/lang/IllegalStateException"
abbrev exA : String := "java/lang/IllegalArgumentException"
abbrev exN : List String := ["java/lang/RuntimeException", "java/lang/Exception"]
/-- the class that a wrong asking throws -/
def XN : Nat → String
  | 1 => "java/lang/IndexOutOfBoundsException"
  | 2 => "java/lang/IllegalStateException"
  | _ => "java/lang/IllegalArgumentException"
/-- what the tables say of the three, beyond the words that a list may hold, and the texts -/
def TK (U : State) : Prop :=
  (va_Nw (.declares (Bundle.initS "java/lang/RuntimeException")) U ∧ va_Nw (.declares (Bundle.initS "java/lang/Exception")) U ∧ va_Nw (.declares (Bundle.initS Bundle.tN)) U) ∧
  (∀ E ∈ [exI, exS, exA], va_Nw (.castable E E) U) ∧
  (∀ E ∈ [exI, exS, exA], ∀ F ∈ [exI, exS, exA], E ≠ F → va_Nc E F U) ∧
  (∀ q ∈ [((173 : Nat), "no such vertex"), (165, "more than 48 vertices"), (176, "the labels are not built"), (178, "the label has no such entry"), (52, "count is not from 1 to 48"), (69, "the same vertex, or an edge that is there"), (136, "place is below 0"), (142, "radius is not from 0 to 47")], ∃ a, vk_R RX3 q.1 q.2 a U)
theorem TK.warm {s U : State} (hW : s.WarmedH U.vm) (h : TK s) : TK U := by
  obtain ⟨⟨h1, h2, h3⟩, h4, h5, h6⟩ := h
  exact ⟨⟨va_Nw.warmD hW h1, va_Nw.warmD hW h2, va_Nw.warmD hW h3⟩, fun E hE => va_Nw.warmC hW (h4 E hE), fun E hE F hF hne => va_Nc.moved hW.alike (h5 E hE F hF hne), fun q hq => (h6 q hq).imp fun a ha => vk_R.warm hW ha⟩
theorem TK.call {U : State} {g : JFrame} {mk : MethodId} {a : Array Value} (h : TK U) : TK (U.calling g mk a) := by
  obtain ⟨⟨h1, h2, h3⟩, h4, h5, h6⟩ := h
  exact ⟨⟨va_Nw.same rfl rfl h1, va_Nw.same rfl rfl h2, va_Nw.same rfl rfl h3⟩, fun E hE => va_Nw.same rfl rfl (h4 E hE), fun E hE F hF hne => va_Nc.moved (u := U) (U := U.calling g mk a) (Vm.Alike.refl U.vm) (h5 E hE F hF hne), fun q hq => (h6 q hq).imp fun a ha => vk_R.same rfl ha⟩
/-- the two statics of Throwable that a throw reads -/
def TH (A : Nat → Prop) (U : State) (H : Heap) : Prop := vx_Zq Bundle.tN "UNASSIGNED_STACK" Bundle.steD A U H ∧ vx_Zq Bundle.tN "SUPPRESSED_SENTINEL" Bundle.listD A U H
theorem TH.moved {A : Nat → Prop} {u U : State} {H : Heap} (hvm : u.vm.Alike U.vm) (h : TH A u H) : TH A U H := ⟨vx_Zq.moved hvm h.1, vx_Zq.moved hvm h.2⟩
theorem TH.kept {A : Nat → Prop} {U : State} {H H1 : Heap} (h : TH A U H) (hq : ∀ a : Nat, a < H.size → ¬ A a → H1[a]? = H[a]?) : TH A U H1 := ⟨h.1.kept hq, h.2.kept hq⟩
/-- a start of what may throw -/
abbrev XPc (dG : va_G) (cI cJ : ClassId) (av : List Value) (Wd : va_W) (A : Nat → Prop) : Array Value → State → Prop := va_Pc av (fun U => va_P dG vwCl Wd U.heap ∧ KK dG cI cJ U ∧ va_D A Wd ∧ TK U ∧ TH A U U.heap)
theorem XPc.blind {dG : va_G} {cI cJ : ClassId} {av : List Value} {Wd : va_W} {A : Nat → Prop} : FrameBlind (XPc dG cI cJ av Wd A) := fun _ _ _ _ q => ⟨q.1, q.2.1, q.2.2.1.call, q.2.2.2.1, q.2.2.2.2.1.call, TH.moved (Vm.Alike.refl _) q.2.2.2.2.2⟩
theorem XPc.pre {dG : va_G} {cI cJ : ClassId} {As : List Value} {Wd : va_W} {s : State} {H : Heap} {C : String} {b : Addr} {A : Nat → Prop} (hP : va_P dG vwCl Wd H) (hD : va_D A Wd) (hK : KK dG cI cJ s) (hTK : TK s) (hTH : TH A s H) (hr : ∃ cellB : Cell, H[b]? = some cellB ∧ cellB.vm.isStatics = false ∧ s.vm.findClass C = some cellB.cls) : PreV s H C b (XPc dG cI cJ (.ref b :: As) Wd A) As :=
  ⟨XPc.blind, hr, fun U hU hW => ⟨rfl, by rw [hU]; exact hP, hK.warm hW, hD, hTK.warm hW, by rw [hU]; exact hTH.moved hW.alike⟩⟩
/-- its end: thrown, the world as it was -/
abbrev XX (dG : va_G) (E : String) (Wd : va_W) : String → State → State → Prop := vx_X (S := Unit) (fun _ => True) (fun F _ t => F = E ∧ va_P dG vwCl Wd t.heap) (fun _ => False)
theorem xbad_IOOBE : ∀ w ∈ (vx_atS RX3 175 "java/lang/IndexOutOfBoundsException" ["java/lang/RuntimeException", "java/lang/Exception"]).filter (fun w => !goodWord w), w ∈ [Cond.castable "java/lang/IndexOutOfBoundsException" "java/lang/IndexOutOfBoundsException", .declares (Bundle.initS "java/lang/RuntimeException"), .declares (Bundle.initS "java/lang/Exception"), .declares (Bundle.initS Bundle.tN)] := by decide +kernel
theorem xat_IOOBE {args : Array Value} {s : State} (h : ∀ w ∈ (vx_atS RX3 175 "java/lang/IndexOutOfBoundsException" ["java/lang/RuntimeException", "java/lang/Exception"]).filter goodWord, w.before args s = true) (hT : TK s) : ∀ w ∈ vx_atS RX3 175 "java/lang/IndexOutOfBoundsException" ["java/lang/RuntimeException", "java/lang/Exception"], w.before args s = true :=
  vx_hat h xbad_IOOBE (vx_c (va_Nw.use rfl (hT.2.1 "java/lang/IndexOutOfBoundsException" (by decide))) (vx_c (va_Nw.use rfl hT.1.1) (vx_c (va_Nw.use rfl hT.1.2.1) (vx_c (va_Nw.use rfl hT.1.2.2) vx_n))))
theorem xgood_IOOBE : ∀ w ∈ Cond.classLink RX3 171 "java/lang/IndexOutOfBoundsException" :: Cond.initialized "java/lang/IndexOutOfBoundsException" :: vx_atS RX3 175 "java/lang/IndexOutOfBoundsException" ["java/lang/RuntimeException", "java/lang/Exception"], vx_ot w = true := by decide +kernel
theorem xbad_ISE : ∀ w ∈ (vx_atS RX3 71 "java/lang/IllegalStateException" ["java/lang/RuntimeException", "java/lang/Exception"]).filter (fun w => !goodWord w), w ∈ [Cond.castable "java/lang/IllegalStateException" "java/lang/IllegalStateException", .declares (Bundle.initS "java/lang/RuntimeException"), .declares (Bundle.initS "java/lang/Exception"), .declares (Bundle.initS Bundle.tN)] := by decide +kernel
theorem xat_ISE {args : Array Value} {s : State} (h : ∀ w ∈ (vx_atS RX3 71 "java/lang/IllegalStateException" ["java/lang/RuntimeException", "java/lang/Exception"]).filter goodWord, w.before args s = true) (hT : TK s) : ∀ w ∈ vx_atS RX3 71 "java/lang/IllegalStateException" ["java/lang/RuntimeException", "java/lang/Exception"], w.before args s = true :=
  vx_hat h xbad_ISE (vx_c (va_Nw.use rfl (hT.2.1 "java/lang/IllegalStateException" (by decide))) (vx_c (va_Nw.use rfl hT.1.1) (vx_c (va_Nw.use rfl hT.1.2.1) (vx_c (va_Nw.use rfl hT.1.2.2) vx_n))))
theorem xgood_ISE : ∀ w ∈ Cond.classLink RX3 67 "java/lang/IllegalStateException" :: Cond.initialized "java/lang/IllegalStateException" :: vx_atS RX3 71 "java/lang/IllegalStateException" ["java/lang/RuntimeException", "java/lang/Exception"], vx_ot w = true := by decide +kernel
theorem xbad_IAE : ∀ w ∈ (vx_atS RX3 54 "java/lang/IllegalArgumentException" ["java/lang/RuntimeException", "java/lang/Exception"]).filter (fun w => !goodWord w), w ∈ [Cond.castable "java/lang/IllegalArgumentException" "java/lang/IllegalArgumentException", .declares (Bundle.initS "java/lang/RuntimeException"), .declares (Bundle.initS "java/lang/Exception"), .declares (Bundle.initS Bundle.tN)] := by decide +kernel
theorem xat_IAE {args : Array Value} {s : State} (h : ∀ w ∈ (vx_atS RX3 54 "java/lang/IllegalArgumentException" ["java/lang/RuntimeException", "java/lang/Exception"]).filter goodWord, w.before args s = true) (hT : TK s) : ∀ w ∈ vx_atS RX3 54 "java/lang/IllegalArgumentException" ["java/lang/RuntimeException", "java/lang/Exception"], w.before args s = true :=
  vx_hat h xbad_IAE (vx_c (va_Nw.use rfl (hT.2.1 "java/lang/IllegalArgumentException" (by decide))) (vx_c (va_Nw.use rfl hT.1.1) (vx_c (va_Nw.use rfl hT.1.2.1) (vx_c (va_Nw.use rfl hT.1.2.2) vx_n))))
theorem xgood_IAE : ∀ w ∈ Cond.classLink RX3 50 "java/lang/IllegalArgumentException" :: Cond.initialized "java/lang/IllegalArgumentException" :: vx_atS RX3 54 "java/lang/IllegalArgumentException" ["java/lang/RuntimeException", "java/lang/Exception"], vx_ot w = true := by decide +kernel
theorem xin_X3_addEdge_ISE : ∀ w ∈ (vx_atS RX3 71 "java/lang/IllegalStateException" ["java/lang/RuntimeException", "java/lang/Exception"]).filter goodWord, w ∈ wsX3_addEdge := fun w h => List.mem_cons_of_mem _ (List.mem_append_left _ (List.mem_append_right _ h))
theorem xin_X3_addVertices_IAE : ∀ w ∈ (vx_atS RX3 54 "java/lang/IllegalArgumentException" ["java/lang/RuntimeException", "java/lang/Exception"]).filter goodWord, w ∈ wsX3_addVertices := fun w h => List.mem_cons_of_mem _ (List.mem_append_left _ (List.mem_append_right _ h))
theorem xin_X3_pathVertex_IAE : ∀ w ∈ (vx_atS RX3 54 "java/lang/IllegalArgumentException" ["java/lang/RuntimeException", "java/lang/Exception"]).filter goodWord, w ∈ wsX3_pathVertex := fun w h => List.mem_cons_of_mem _ (List.mem_append_left _ (List.mem_append_left _ (List.mem_append_right _ h)))
theorem xin_X3_requireEntry_IAE : ∀ w ∈ (vx_atS RX3 54 "java/lang/IllegalArgumentException" ["java/lang/RuntimeException", "java/lang/Exception"]).filter goodWord, w ∈ wsX3_requireEntry := fun w h => List.mem_cons_of_mem _ (List.mem_append_right _ h)
theorem xin_X3_requireLabelsOf_ISE : ∀ w ∈ (vx_atS RX3 71 "java/lang/IllegalStateException" ["java/lang/RuntimeException", "java/lang/Exception"]).filter goodWord, w ∈ wsX3_requireLabelsOf := fun w h => List.mem_cons_of_mem _ (List.mem_append_left _ (List.mem_append_right _ h))
theorem xin_X3_requireRoomFor_ISE : ∀ w ∈ (vx_atS RX3 71 "java/lang/IllegalStateException" ["java/lang/RuntimeException", "java/lang/Exception"]).filter goodWord, w ∈ wsX3_requireRoomFor := fun w h => List.mem_cons_of_mem _ (List.mem_append_right _ h)
theorem xin_X3_requireVertex_IOOBE : ∀ w ∈ (vx_atS RX3 175 "java/lang/IndexOutOfBoundsException" ["java/lang/RuntimeException", "java/lang/Exception"]).filter goodWord, w ∈ wsX3_requireVertex := fun w h => List.mem_cons_of_mem _ (List.mem_append_right _ h)
theorem xin_X3_within_IAE : ∀ w ∈ (vx_atS RX3 54 "java/lang/IllegalArgumentException" ["java/lang/RuntimeException", "java/lang/Exception"]).filter goodWord, w ∈ wsX3_within := fun w h => List.mem_cons_of_mem _ (List.mem_append_left _ (List.mem_append_left _ (List.mem_append_right _ h)))
set_option maxHeartbeats 4000000 in
set_option maxRecDepth 100000 in
theorem x_requireVertex (l : Launch) (hlt : l.stackTraces = false) (dG : va_G) (cI cJ : ClassId) (A : Nat → Prop) (xo tl ts : Nat) (bt : Bool) (se lb : Nat) (g gA n ec : Nat) (ns : Nat → Int64) (hn : n ≤ 48) (x : Int32) (hx9 : inV x n = false) (X : va_W) : vx_Met l yX3_requireVertex wsX3_requireVertex ({ frames := 6, cells := 1, slots := 6, locals := 90 } : Room) (XPc dG cI cJ [.ref xo, .int x] (XW xo g lb se tl ts (bI bt) ++ (GW cJ g gA (nI n) (nI ec) ns ++ X)) A) (va_Qv (S := Unit) (fun _ => False) (fun _ _ => True) A) (XX dG ("java/lang/IndexOutOfBoundsException") (XW xo g lb se tl ts (bI bt) ++ (GW cJ g gA (nI n) (nI ec) ns ++ X))) 1 6 A := by
  refine vx_ofW (cc := cX3_requireVertex) (maxL := 2) (ret := none) (by decide) rfl ?_
  intro p e s m args below meth c s₁ B9 hml htb hv
  obtain ⟨rfl, hP, hK, hD, hTK, hTH⟩ := hv
  have hx := B9.exec
  have hb := B9.bytes
  have hr := B9.returns
  have hts := atoms_spec (ws := wsX3_requireVertex) B9.pre
  have hown : s.vm.findClass RX3 = some m.cls := findClass_of_methodNamed B9.named
  have hlocks := B9.notSynchronized
  have hS : va_S A s.heap s.heap [] := va_S.rf
  have hl := lv_entry ([.ref xo, .int x]) (n := 2) (Nat.le_of_ble_eq_true rfl)
  rw [lg_entry_eq]
  generalize (lg_sl ([.ref xo, .int x]) ++ List.replicate (2 - (lg_sl ([.ref xo, .int x])).length) Slot.unset).toArray = ls at hl ⊢
  have hl : lv_has ls 2 [(0, .ref xo), (1, .int x)] := hl
  have hiX3 : ∀ w ∈ wsX30, w ∈ wsX3_requireVertex := by decide +kernel
  have hf10 := hts (.fieldLink RX3 10 "LandmarkLea" "graph" "LLandmarkLea$Graph;") (by decide +kernel)
  refine lv_aload_n hx hb dX3_requireVertex_0 rfl (lv_at hl 0 rfl) ?_
  refine va_get (D := dG) (ci := 3) (v := .ref g) (C := RX3) (T := TX3) (N := 6) hx hb hts hiX3 hown hK.1 hP 0 rfl rfl 0 (by decide) hf10 (fun _ h9 => h9) rfl dX3_requireVertex_1 ?_
  refine lv_iload_n hx hb dX3_requireVertex_4 rfl (lv_at hl 1 rfl) ?_
  have hPc := hP.sub (ws' := (GW cJ g gA (nI n) (nI ec) ns)) [1, 2] rfl
  refine x_ri (W.runV (As := [.int x]) (rest := []) ⟨hx, hb, hml, hown, hts⟩ (c_has l dG cI cJ g gA n ec ns (by omega) x) (cwV 1 hts gX3_requireVertex_X0_has rfl rfl rfl (by decide +kernel) ⟨Nat.le_of_ble_eq_true rfl, Nat.le_of_ble_eq_true rfl⟩) (RPc.pre hPc hK (va_recv hK.1 hPc (ci := 0) (q0 := 0) rfl rfl)) rfl rfl hl.1 rfl (lv_room (Nat.le_of_ble_eq_true rfl)) dX3_requireVertex_5 ⟨Nat.zero_le _, Nat.zero_le _⟩) ?_
  refine x_ifneB (tgt := 21) hx hb dX3_requireVertex_8 (by decide) (fun c8 => ?_) (fun c8 => ?_)
  · skip
    rw [hx9] at c8; cases c8
  · skip
    obtain ⟨sa, hsa⟩ := hTK.2.2.2 (173, "no such vertex") (by decide)
    exact vx_throwS (A := A) (rest := []) hx hb hlt hown (by decide +kernel) (by decide +kernel) (hts (.classLink RX3 171 "java/lang/IndexOutOfBoundsException") (by decide +kernel)) (hts (.initialized "java/lang/IndexOutOfBoundsException") (by decide +kernel)) hsa (xat_IOOBE (fun w h => hts w (xin_X3_requireVertex_IOOBE w h)) hTK) xgood_IOOBE hTH.1 hTH.2 hS (hl.1.trans hml.symm) dX3_requireVertex_11 dX3_requireVertex_14 dX3_requireVertex_15 dX3_requireVertex_17 dX3_requireVertex_20 (fun x hx => (htb x hx).elim) (Nat.le_of_ble_eq_true rfl) (Nat.le_of_ble_eq_true rfl) (Nat.le_of_ble_eq_true rfl) (Nat.le_of_ble_eq_true rfl) hlocks (fun t hvm hz hk => ⟨(), trivial, ⟨rfl, hP.kept (fun k q hq => hk q.1 (vx_lt hP hq))⟩, hz, fun q h _ => hk q h⟩) (fun z h => nomatch h) (Nat.le_refl _) (Nat.le_refl _)

set_option maxHeartbeats 4000000 in
set_option maxRecDepth 100000 in
theorem c_requireVertexS (l : Launch) (dG : va_G) (cI cJ : ClassId) (xo tl ts : Nat) (bt : Bool) (se lb : Nat) (g gA n ec : Nat) (ns : Nat → Int64) (hn : n ≤ 48) (v : Nat) (hv : v < n) : Met l yX3_requireVertex wsX3_requireVertex ({ frames := 1, cells := 0, slots := 0, locals := 21 } : Room) (RPc dG cI cJ [.ref xo, .int (nI v)] (XW xo g lb se tl ts (bI bt) ++ (GW cJ g gA (nI n) (nI ec) ns))) (va_Sv (fun _ => True)) 0 0 (fun _ => False) := by
  refine Met.ofW (cc := cX3_requireVertex) (maxL := 2) (ret := none) (by decide) rfl ?_
  intro p e s m args below meth c s₁ B9 hml hv
  obtain ⟨rfl, hP, hK⟩ := hv
  have hx := B9.exec
  have hb := B9.bytes
  have hr := B9.returns
  have hts := atoms_spec (ws := wsX3_requireVertex) B9.pre
  have hown : s.vm.findClass RX3 = some m.cls := findClass_of_methodNamed B9.named
  have hlocks := B9.notSynchronized
  have hl := lv_entry ([.ref xo, .int (nI v)]) (n := 2) (Nat.le_of_ble_eq_true rfl)
  rw [lg_entry_eq]
  generalize (lg_sl ([.ref xo, .int (nI v)]) ++ List.replicate (2 - (lg_sl ([.ref xo, .int (nI v)])).length) Slot.unset).toArray = ls at hl ⊢
  have hl : lv_has ls 2 [(0, .ref xo), (1, .int (nI v))] := hl
  have hiX3 : ∀ w ∈ wsX30, w ∈ wsX3_requireVertex := by decide +kernel
  have hf10 := hts (.fieldLink RX3 10 "LandmarkLea" "graph" "LLandmarkLea$Graph;") (by decide +kernel)
  refine lv_aload_n hx hb dX3_requireVertex_0 rfl (lv_at hl 0 rfl) ?_
  refine va_get (D := dG) (ci := 3) (v := .ref g) (C := RX3) (T := TX3) (N := 6) hx hb hts hiX3 hown hK.1 hP 0 rfl rfl 0 (by decide) hf10 (fun _ h9 => h9) rfl dX3_requireVertex_1 ?_
  refine lv_iload_n hx hb dX3_requireVertex_4 rfl (lv_at hl 1 rfl) ?_
  have hPc := hP.sub (ws' := (GW cJ g gA (nI n) (nI ec) ns)) [1, 2] rfl
  refine x_ri (W.runV (As := [.int (nI v)]) (rest := []) ⟨hx, hb, hml, hown, hts⟩ (c_has l dG cI cJ g gA n ec ns (by omega) (nI v)) (cwV 1 hts gX3_requireVertex_X0_has rfl rfl rfl (by decide +kernel) ⟨Nat.le_of_ble_eq_true rfl, Nat.le_of_ble_eq_true rfl⟩) (RPc.pre hPc hK (va_recv hK.1 hPc (ci := 0) (q0 := 0) rfl rfl)) rfl rfl hl.1 rfl (lv_room (Nat.le_of_ble_eq_true rfl)) dX3_requireVertex_5 ⟨Nat.zero_le _, Nat.zero_le _⟩) ?_
  refine x_ifneB (tgt := 21) hx hb dX3_requireVertex_8 (by decide) (fun c8 => ?_) (fun c8 => ?_)
  · skip
    exact W.vret hx hb hr (fun t ht hW => ⟨rfl, trivial, ht⟩) (fun _ h => nomatch h) dX3_requireVertex_21
  · skip
    rw [inV_nI (by omega), decide_eq_true hv] at c8; cases c8

set_option maxHeartbeats 4000000 in
set_option maxRecDepth 100000 in
theorem x_requireRoomFor (l : Launch) (hlt : l.stackTraces = false) (dG : va_G) (cI cJ : ClassId) (A : Nat → Prop) (xo tl ts : Nat) (bt : Bool) (se lb : Nat) (g gA n ec : Nat) (ns : Nat → Int64) (hn : n ≤ 48) (k : Nat) (hk : 48 < n + k) (hk2 : k ≤ 48) (X : va_W) : vx_Met l yX3_requireRoomFor wsX3_requireRoomFor ({ frames := 6, cells := 1, slots := 6, locals := 90 } : Room) (XPc dG cI cJ [.ref xo, .int (nI k)] (XW xo g lb se tl ts (bI bt) ++ (GW cJ g gA (nI n) (nI ec) ns ++ X)) A) (va_Qv (S := Unit) (fun _ => False) (fun _ _ => True) A) (XX dG ("java/lang/IllegalStateException") (XW xo g lb se tl ts (bI bt) ++ (GW cJ g gA (nI n) (nI ec) ns ++ X))) 1 6 A := by
  refine vx_ofW (cc := cX3_requireRoomFor) (maxL := 2) (ret := none) (by decide) rfl ?_
  intro p e s m args below meth c s₁ B9 hml htb hv
  obtain ⟨rfl, hP, hK, hD, hTK, hTH⟩ := hv
  have hx := B9.exec
  have hb := B9.bytes
  have hr := B9.returns
  have hts := atoms_spec (ws := wsX3_requireRoomFor) B9.pre
  have hown : s.vm.findClass RX3 = some m.cls := findClass_of_methodNamed B9.named
  have hlocks := B9.notSynchronized
  have hS : va_S A s.heap s.heap [] := va_S.rf
  have hl := lv_entry ([.ref xo, .int (nI k)]) (n := 2) (Nat.le_of_ble_eq_true rfl)
  rw [lg_entry_eq]
  generalize (lg_sl ([.ref xo, .int (nI k)]) ++ List.replicate (2 - (lg_sl ([.ref xo, .int (nI k)])).length) Slot.unset).toArray = ls at hl ⊢
  have hl : lv_has ls 2 [(0, .ref xo), (1, .int (nI k))] := hl
  have hiX3 : ∀ w ∈ wsX30, w ∈ wsX3_requireRoomFor := by decide +kernel
  have hf10 := hts (.fieldLink RX3 10 "LandmarkLea" "graph" "LLandmarkLea$Graph;") (by decide +kernel)
  refine lv_iload_n hx hb dX3_requireRoomFor_0 rfl (lv_at hl 1 rfl) ?_
  refine lv_bipush (v := (nI 48)) hx hb dX3_requireRoomFor_1 (by decide) ?_
  refine lv_aload_n hx hb dX3_requireRoomFor_3 rfl (lv_at hl 0 rfl) ?_
  refine va_get (D := dG) (ci := 3) (v := .ref g) (C := RX3) (T := TX3) (N := 6) hx hb hts hiX3 hown hK.1 hP 0 rfl rfl 0 (by decide) hf10 (fun _ h9 => h9) rfl dX3_requireRoomFor_4 ?_
  have hPc := hP.sub (ws' := (GW cJ g gA (nI n) (nI ec) ns)) [1, 2] rfl
  refine x_ri (W.runV (As := []) (rest := [.int (nI 48), .int (nI k)]) ⟨hx, hb, hml, hown, hts⟩ (c_size l dG cI cJ g gA n ec ns) (cwV 0 hts gX3_requireRoomFor_X0_size rfl rfl rfl (by decide +kernel) ⟨Nat.le_of_ble_eq_true rfl, Nat.le_of_ble_eq_true rfl⟩) (RPc.pre hPc hK (va_recv hK.1 hPc (ci := 0) (q0 := 0) rfl rfl)) rfl rfl hl.1 rfl (lv_room (Nat.le_of_ble_eq_true rfl)) dX3_requireRoomFor_7 ⟨Nat.zero_le _, Nat.zero_le _⟩) ?_
  refine x_subN (i := 48) (j := n) hx hb (by omega) dX3_requireRoomFor_10 ?_
  refine x_icmp_leN (i := k) (j := (48 - n)) (tgt := 24) hx hb (by omega) (by omega) dX3_requireRoomFor_11 (by decide) (fun c11 => ?_) (fun c11 => ?_)
  · skip
    exact absurd c11 (by omega)
  · skip
    obtain ⟨sa, hsa⟩ := hTK.2.2.2 (165, "more than 48 vertices") (by decide)
    exact vx_throwS (A := A) (rest := []) hx hb hlt hown (by decide +kernel) (by decide +kernel) (hts (.classLink RX3 67 "java/lang/IllegalStateException") (by decide +kernel)) (hts (.initialized "java/lang/IllegalStateException") (by decide +kernel)) hsa (xat_ISE (fun w h => hts w (xin_X3_requireRoomFor_ISE w h)) hTK) xgood_ISE hTH.1 hTH.2 hS (hl.1.trans hml.symm) dX3_requireRoomFor_14 dX3_requireRoomFor_17 dX3_requireRoomFor_18 dX3_requireRoomFor_20 dX3_requireRoomFor_23 (fun x hx => (htb x hx).elim) (Nat.le_of_ble_eq_true rfl) (Nat.le_of_ble_eq_true rfl) (Nat.le_of_ble_eq_true rfl) (Nat.le_of_ble_eq_true rfl) hlocks (fun t hvm hz hk => ⟨(), trivial, ⟨rfl, hP.kept (fun k q hq => hk q.1 (vx_lt hP hq))⟩, hz, fun q h _ => hk q h⟩) (fun z h => nomatch h) (Nat.le_refl _) (Nat.le_refl _)

set_option maxHeartbeats 4000000 in
set_option maxRecDepth 100000 in
theorem x_rlX (l : Launch) (hlt : l.stackTraces = false) (dG : va_G) (cI cJ : ClassId) (A : Nat → Prop) (xo tl ts : Nat) (bt : Bool) (se lb : Nat) (g gA n ec : Nat) (ns : Nat → Int64) (hn : n ≤ 48) (x y : Int32) (hx9 : inV x n = false) (X : va_W) : vx_Met l yX3_requireLabelsOf wsX3_requireLabelsOf ({ frames := 7, cells := 1, slots := 6, locals := 112 } : Room) (XPc dG cI cJ [.ref xo, .int x, .int y] (XW xo g lb se tl ts (bI bt) ++ (GW cJ g gA (nI n) (nI ec) ns ++ X)) A) (va_Qv (S := Unit) (fun _ => False) (fun _ _ => True) A) (XX dG ("java/lang/IndexOutOfBoundsException") (XW xo g lb se tl ts (bI bt) ++ (GW cJ g gA (nI n) (nI ec) ns ++ X))) 1 6 A := by
  refine vx_ofW (cc := cX3_requireLabelsOf) (maxL := 3) (ret := none) (by decide) rfl ?_
  intro p e s m args below meth c s₁ B9 hml htb hv
  obtain ⟨rfl, hP, hK, hD, hTK, hTH⟩ := hv
  have hx := B9.exec
  have hb := B9.bytes
  have hr := B9.returns
  have hts := atoms_spec (ws := wsX3_requireLabelsOf) B9.pre
  have hown : s.vm.findClass RX3 = some m.cls := findClass_of_methodNamed B9.named
  have hlocks := B9.notSynchronized
  have hS : va_S A s.heap s.heap [] := va_S.rf
  have hl := lv_entry ([.ref xo, .int x, .int y]) (n := 3) (Nat.le_of_ble_eq_true rfl)
  rw [lg_entry_eq]
  generalize (lg_sl ([.ref xo, .int x, .int y]) ++ List.replicate (3 - (lg_sl ([.ref xo, .int x, .int y])).length) Slot.unset).toArray = ls at hl ⊢
  have hl : lv_has ls 3 [(0, .ref xo), (1, .int x), (2, .int y)] := hl
  have hiX3 : ∀ w ∈ wsX30, w ∈ wsX3_requireLabelsOf := by decide +kernel
  have hf38 := hts (.fieldLink RX3 38 "LandmarkLea" "labelled" "Z") (by decide +kernel)
  refine lv_aload_n hx hb dX3_requireLabelsOf_0 rfl (lv_at hl 0 rfl) ?_
  refine lv_iload_n hx hb dX3_requireLabelsOf_1 rfl (lv_at hl 1 rfl) ?_
  have hPc : va_P dG vwCl (XW xo g lb se tl ts (bI bt) ++ (GW cJ g gA (nI n) (nI ec) ns ++ X)) s.heap := hP
  have hDc : va_D A (XW xo g lb se tl ts (bI bt) ++ (GW cJ g gA (nI n) (nI ec) ns ++ X)) := hD
  refine vx_callv (vx_runV (As := [.int x]) (rest := []) ⟨hx, hb, hml, hown, hts⟩ (x_requireVertex l hlt dG cI cJ A xo tl ts bt se lb g gA n ec ns hn x hx9 _) (cwV 1 hts gX3_requireLabelsOf_X3_requireVertex rfl rfl rfl (by decide +kernel) ⟨Nat.le_of_ble_eq_true rfl, Nat.le_of_ble_eq_true rfl⟩) (XPc.pre hPc hDc hK hTK hTH (va_recv hK.1 hPc (ci := 3) (q0 := 0) rfl rfl)) rfl rfl hl.1 rfl (lv_room (Nat.le_of_ble_eq_true rfl)) dX3_requireLabelsOf_2 ⟨Nat.le_of_ble_eq_true rfl, Nat.le_of_ble_eq_true rfl⟩) hS (fun q _ h => h) (fun q h => h) (fun q _ h => h.elim) (fun E ce q9 u t H1 locs1 ht hvm _ hB hz1 hk1 hS hce hcv hcl => ?_) (fun u t H1 locs1 ht hvm hf _ _ _ _ => hf.elim)
  obtain ⟨hE, hP1⟩ := hB
  exact vx_out (fun x hx => (htb x hx).elim) hlocks hce hcv hcl (fun t2 h2 hvm2 => ⟨(), trivial, ⟨hE, by rw [h2, ← ht]; exact hP1⟩, by rw [h2]; exact hz1, fun q h _ => by rw [h2]; exact hk1 q h id⟩) hS.2.2 (Nat.le_refl _) (Nat.le_refl _)

set_option maxHeartbeats 4000000 in
set_option maxRecDepth 100000 in
theorem x_rlY (l : Launch) (hlt : l.stackTraces = false) (dG : va_G) (cI cJ : ClassId) (A : Nat → Prop) (xo tl ts : Nat) (bt : Bool) (se lb : Nat) (g gA n ec : Nat) (ns : Nat → Int64) (hn : n ≤ 48) (a : Nat) (ha : a < n) (y : Int32) (hy9 : inV y n = false) (X : va_W) : vx_Met l yX3_requireLabelsOf wsX3_requireLabelsOf ({ frames := 7, cells := 1, slots := 6, locals := 112 } : Room) (XPc dG cI cJ [.ref xo, .int (nI a), .int y] (XW xo g lb se tl ts (bI bt) ++ (GW cJ g gA (nI n) (nI ec) ns ++ X)) A) (va_Qv (S := Unit) (fun _ => False) (fun _ _ => True) A) (XX dG ("java/lang/IndexOutOfBoundsException") (XW xo g lb se tl ts (bI bt) ++ (GW cJ g gA (nI n) (nI ec) ns ++ X))) 1 6 A := by
  refine vx_ofW (cc := cX3_requireLabelsOf) (maxL := 3) (ret := none) (by decide) rfl ?_
  intro p e s m args below meth c s₁ B9 hml htb hv
  obtain ⟨rfl, hP, hK, hD, hTK, hTH⟩ := hv
  have hx := B9.exec
  have hb := B9.bytes
  have hr := B9.returns
  have hts := atoms_spec (ws := wsX3_requireLabelsOf) B9.pre
  have hown : s.vm.findClass RX3 = some m.cls := findClass_of_methodNamed B9.named
  have hlocks := B9.notSynchronized
  have hS : va_S A s.heap s.heap [] := va_S.rf
  have hl := lv_entry ([.ref xo, .int (nI a), .int y]) (n := 3) (Nat.le_of_ble_eq_true rfl)
  rw [lg_entry_eq]
  generalize (lg_sl ([.ref xo, .int (nI a), .int y]) ++ List.replicate (3 - (lg_sl ([.ref xo, .int (nI a), .int y])).length) Slot.unset).toArray = ls at hl ⊢
  have hl : lv_has ls 3 [(0, .ref xo), (1, .int (nI a)), (2, .int y)] := hl
  have hiX3 : ∀ w ∈ wsX30, w ∈ wsX3_requireLabelsOf := by decide +kernel
  have hf38 := hts (.fieldLink RX3 38 "LandmarkLea" "labelled" "Z") (by decide +kernel)
  refine lv_aload_n hx hb dX3_requireLabelsOf_0 rfl (lv_at hl 0 rfl) ?_
  refine lv_iload_n hx hb dX3_requireLabelsOf_1 rfl (lv_at hl 1 rfl) ?_
  have hPc := hP.sub (ws' := (XW xo g lb se tl ts (bI bt) ++ (GW cJ g gA (nI n) (nI ec) ns))) [0, 1, 2] rfl
  refine x_rv (W.runV (As := [.int (nI a)]) (rest := []) ⟨hx, hb, hml, hown, hts⟩ (c_requireVertexS l dG cI cJ xo tl ts bt se lb g gA n ec ns hn a (by omega)) (cwV 1 hts gX3_requireLabelsOf_X3_requireVertex rfl rfl rfl (by decide +kernel) ⟨Nat.le_of_ble_eq_true rfl, Nat.le_of_ble_eq_true rfl⟩) (RPc.pre hPc hK (va_recv hK.1 hPc (ci := 3) (q0 := 0) rfl rfl)) rfl rfl hl.1 rfl (lv_room (Nat.le_of_ble_eq_true rfl)) dX3_requireLabelsOf_2 ⟨Nat.zero_le _, Nat.zero_le _⟩) ?_
  refine lv_aload_n hx hb dX3_requireLabelsOf_5 rfl (lv_at hl 0 rfl) ?_
  refine lv_iload_n hx hb dX3_requireLabelsOf_6 rfl (lv_at hl 2 rfl) ?_
  have hPc : va_P dG vwCl (XW xo g lb se tl ts (bI bt) ++ (GW cJ g gA (nI n) (nI ec) ns ++ X)) s.heap := hP
  have hDc : va_D A (XW xo g lb se tl ts (bI bt) ++ (GW cJ g gA (nI n) (nI ec) ns ++ X)) := hD
  refine vx_callv (vx_runV (As := [.int y]) (rest := []) ⟨hx, hb, hml, hown, hts⟩ (x_requireVertex l hlt dG cI cJ A xo tl ts bt se lb g gA n ec ns hn y hy9 _) (cwV 1 hts gX3_requireLabelsOf_X3_requireVertex rfl rfl rfl (by decide +kernel) ⟨Nat.le_of_ble_eq_true rfl, Nat.le_of_ble_eq_true rfl⟩) (XPc.pre hPc hDc hK hTK hTH (va_recv hK.1 hPc (ci := 3) (q0 := 0) rfl rfl)) rfl rfl hl.1 rfl (lv_room (Nat.le_of_ble_eq_true rfl)) dX3_requireLabelsOf_7 ⟨Nat.le_of_ble_eq_true rfl, Nat.le_of_ble_eq_true rfl⟩) hS (fun q _ h => h) (fun q h => h) (fun q _ h => h.elim) (fun E ce q9 u t H1 locs1 ht hvm _ hB hz1 hk1 hS hce hcv hcl => ?_) (fun u t H1 locs1 ht hvm hf _ _ _ _ => hf.elim)
  obtain ⟨hE, hP1⟩ := hB
  exact vx_out (fun x hx => (htb x hx).elim) hlocks hce hcv hcl (fun t2 h2 hvm2 => ⟨(), trivial, ⟨hE, by rw [h2, ← ht]; exact hP1⟩, by rw [h2]; exact hz1, fun q h _ => by rw [h2]; exact hk1 q h id⟩) hS.2.2 (Nat.le_refl _) (Nat.le_refl _)

set_option maxHeartbeats 4000000 in
set_option maxRecDepth 100000 in
theorem x_rlU (l : Launch) (hlt : l.stackTraces = false) (dG : va_G) (cI cJ : ClassId) (A : Nat → Prop) (xo tl ts : Nat) (bt : Bool) (se lb : Nat) (g gA n ec : Nat) (ns : Nat → Int64) (hn : n ≤ 48) (a b : Nat) (ha : a < n) (hb9 : b < n) (hbt : bt = false) (X : va_W) : vx_Met l yX3_requireLabelsOf wsX3_requireLabelsOf ({ frames := 7, cells := 1, slots := 6, locals := 112 } : Room) (XPc dG cI cJ [.ref xo, .int (nI a), .int (nI b)] (XW xo g lb se tl ts (bI bt) ++ (GW cJ g gA (nI n) (nI ec) ns ++ X)) A) (va_Qv (S := Unit) (fun _ => False) (fun _ _ => True) A) (XX dG ("java/lang/IllegalStateException") (XW xo g lb se tl ts (bI bt) ++ (GW cJ g gA (nI n) (nI ec) ns ++ X))) 1 6 A := by
  refine vx_ofW (cc := cX3_requireLabelsOf) (maxL := 3) (ret := none) (by decide) rfl ?_
  intro p e s m args below meth c s₁ B9 hml htb hv
  obtain ⟨rfl, hP, hK, hD, hTK, hTH⟩ := hv
  have hx := B9.exec
  have hb := B9.bytes
  have hr := B9.returns
  have hts := atoms_spec (ws := wsX3_requireLabelsOf) B9.pre
  have hown : s.vm.findClass RX3 = some m.cls := findClass_of_methodNamed B9.named
  have hlocks := B9.notSynchronized
  have hS : va_S A s.heap s.heap [] := va_S.rf
  have hl := lv_entry ([.ref xo, .int (nI a), .int (nI b)]) (n := 3) (Nat.le_of_ble_eq_true rfl)
  rw [lg_entry_eq]
  generalize (lg_sl ([.ref xo, .int (nI a), .int (nI b)]) ++ List.replicate (3 - (lg_sl ([.ref xo, .int (nI a), .int (nI b)])).length) Slot.unset).toArray = ls at hl ⊢
  have hl : lv_has ls 3 [(0, .ref xo), (1, .int (nI a)), (2, .int (nI b))] := hl
  have hiX3 : ∀ w ∈ wsX30, w ∈ wsX3_requireLabelsOf := by decide +kernel
  have hf38 := hts (.fieldLink RX3 38 "LandmarkLea" "labelled" "Z") (by decide +kernel)
  refine lv_aload_n hx hb dX3_requireLabelsOf_0 rfl (lv_at hl 0 rfl) ?_
  refine lv_iload_n hx hb dX3_requireLabelsOf_1 rfl (lv_at hl 1 rfl) ?_
  have hPc := hP.sub (ws' := (XW xo g lb se tl ts (bI bt) ++ (GW cJ g gA (nI n) (nI ec) ns))) [0, 1, 2] rfl
  refine x_rv (W.runV (As := [.int (nI a)]) (rest := []) ⟨hx, hb, hml, hown, hts⟩ (c_requireVertexS l dG cI cJ xo tl ts bt se lb g gA n ec ns hn a (by omega)) (cwV 1 hts gX3_requireLabelsOf_X3_requireVertex rfl rfl rfl (by decide +kernel) ⟨Nat.le_of_ble_eq_true rfl, Nat.le_of_ble_eq_true rfl⟩) (RPc.pre hPc hK (va_recv hK.1 hPc (ci := 3) (q0 := 0) rfl rfl)) rfl rfl hl.1 rfl (lv_room (Nat.le_of_ble_eq_true rfl)) dX3_requireLabelsOf_2 ⟨Nat.zero_le _, Nat.zero_le _⟩) ?_
  refine lv_aload_n hx hb dX3_requireLabelsOf_5 rfl (lv_at hl 0 rfl) ?_
  refine lv_iload_n hx hb dX3_requireLabelsOf_6 rfl (lv_at hl 2 rfl) ?_
  have hPc := hP.sub (ws' := (XW xo g lb se tl ts (bI bt) ++ (GW cJ g gA (nI n) (nI ec) ns))) [0, 1, 2] rfl
  refine x_rv (W.runV (As := [.int (nI b)]) (rest := []) ⟨hx, hb, hml, hown, hts⟩ (c_requireVertexS l dG cI cJ xo tl ts bt se lb g gA n ec ns hn b (by omega)) (cwV 1 hts gX3_requireLabelsOf_X3_requireVertex rfl rfl rfl (by decide +kernel) ⟨Nat.le_of_ble_eq_true rfl, Nat.le_of_ble_eq_true rfl⟩) (RPc.pre hPc hK (va_recv hK.1 hPc (ci := 3) (q0 := 0) rfl rfl)) rfl rfl hl.1 rfl (lv_room (Nat.le_of_ble_eq_true rfl)) dX3_requireLabelsOf_7 ⟨Nat.zero_le _, Nat.zero_le _⟩) ?_
  refine lv_aload_n hx hb dX3_requireLabelsOf_10 rfl (lv_at hl 0 rfl) ?_
  refine va_get (D := dG) (ci := 3) (v := .int (bI bt)) (C := RX3) (T := TX3) (N := 6) hx hb hts hiX3 hown hK.1 hP 0 rfl rfl 5 (by decide) hf38 (fun _ h9 => h9) rfl dX3_requireLabelsOf_11 ?_
  refine x_ifneB (tgt := 27) hx hb dX3_requireLabelsOf_14 (by decide) (fun c14 => ?_) (fun c14 => ?_)
  · skip
    rw [hbt] at c14; cases c14
  · skip
    obtain ⟨sa, hsa⟩ := hTK.2.2.2 (176, "the labels are not built") (by decide)
    exact vx_throwS (A := A) (rest := []) hx hb hlt hown (by decide +kernel) (by decide +kernel) (hts (.classLink RX3 67 "java/lang/IllegalStateException") (by decide +kernel)) (hts (.initialized "java/lang/IllegalStateException") (by decide +kernel)) hsa (xat_ISE (fun w h => hts w (xin_X3_requireLabelsOf_ISE w h)) hTK) xgood_ISE hTH.1 hTH.2 hS (hl.1.trans hml.symm) dX3_requireLabelsOf_17 dX3_requireLabelsOf_20 dX3_requireLabelsOf_21 dX3_requireLabelsOf_23 dX3_requireLabelsOf_26 (fun x hx => (htb x hx).elim) (Nat.le_of_ble_eq_true rfl) (Nat.le_of_ble_eq_true rfl) (Nat.le_of_ble_eq_true rfl) (Nat.le_of_ble_eq_true rfl) hlocks (fun t hvm hz hk => ⟨(), trivial, ⟨rfl, hP.kept (fun k q hq => hk q.1 (vx_lt hP hq))⟩, hz, fun q h _ => hk q h⟩) (fun z h => nomatch h) (Nat.le_refl _) (Nat.le_refl _)

/-- requireLabelsOf throws, as w says -/
theorem x_requireLabelsOf (l : Launch) (hlt : l.stackTraces = false) (dG : va_G) (cI cJ : ClassId) (A : Nat → Prop) (xo tl ts : Nat) (bt : Bool) (se lb : Nat) (g gA n ec : Nat) (ns : Nat → Int64) (hn : n ≤ 48) (x y : Int32) (w : Nat) (hw : wr x y n bt = w) (hne : ¬ w = 0) (X : va_W) : vx_Met l yX3_requireLabelsOf wsX3_requireLabelsOf ({ frames := 7, cells := 1, slots := 6, locals := 112 } : Room) (XPc dG cI cJ [.ref xo, .int x, .int y] (XW xo g lb se tl ts (bI bt) ++ (GW cJ g gA (nI n) (nI ec) ns ++ X)) A) (va_Qv (S := Unit) (fun _ => False) (fun _ _ => True) A) (XX dG (XN w) (XW xo g lb se tl ts (bI bt) ++ (GW cJ g gA (nI n) (nI ec) ns ++ X))) 1 6 A := by
  unfold wr at hw
  cases hx : inV x n with
  | false =>
    rw [hx] at hw
    have e1 : w = 1 := hw.symm
    subst e1
    exact x_rlX l hlt dG cI cJ A xo tl ts bt se lb g gA n ec ns hn x y hx X
  | true =>
    obtain ⟨a, ha, rfl⟩ := inV_of (by omega) hx
    cases hy : inV y n with
    | false =>
      rw [hx, hy] at hw
      have e1 : w = 1 := hw.symm
      subst e1
      exact x_rlY l hlt dG cI cJ A xo tl ts bt se lb g gA n ec ns hn a ha y hy X
    | true =>
      obtain ⟨b, hb, rfl⟩ := inV_of (by omega) hy
      rw [hx, hy] at hw
      cases hbt : bt with
      | true => rw [hbt] at hw; exact absurd hw.symm hne
      | false =>
        have e1 : w = 2 := by rw [hbt] at hw; exact hw.symm
        subst e1
        have h := x_rlU l hlt dG cI cJ A xo tl ts bt se lb g gA n ec ns hn a b ha hb hbt X
        rw [hbt] at h
        exact h

set_option maxHeartbeats 4000000 in
set_option maxRecDepth 100000 in
theorem x_requireLabelOf (l : Launch) (hlt : l.stackTraces = false) (dG : va_G) (cI cJ : ClassId) (A : Nat → Prop) (xo tl ts : Nat) (bt : Bool) (se lb : Nat) (g gA n ec : Nat) (ns : Nat → Int64) (hn : n ≤ 48) (x : Int32) (w : Nat) (hw : wr x x n bt = w) (hne : ¬ w = 0) (X : va_W) : vx_Met l yX3_requireLabelOf wsX3_requireLabelOf ({ frames := 8, cells := 1, slots := 6, locals := 134 } : Room) (XPc dG cI cJ [.ref xo, .int x] (XW xo g lb se tl ts (bI bt) ++ (GW cJ g gA (nI n) (nI ec) ns ++ X)) A) (va_Qv (S := Unit) (fun _ => False) (fun _ _ => True) A) (XX dG (XN w) (XW xo g lb se tl ts (bI bt) ++ (GW cJ g gA (nI n) (nI ec) ns ++ X))) 1 6 A := by
  refine vx_ofW (cc := cX3_requireLabelOf) (maxL := 2) (ret := none) (by decide) rfl ?_
  intro p e s m args below meth c s₁ B9 hml htb hv
  obtain ⟨rfl, hP, hK, hD, hTK, hTH⟩ := hv
  have hx := B9.exec
  have hb := B9.bytes
  have hr := B9.returns
  have hts := atoms_spec (ws := wsX3_requireLabelOf) B9.pre
  have hown : s.vm.findClass RX3 = some m.cls := findClass_of_methodNamed B9.named
  have hlocks := B9.notSynchronized
  have hS : va_S A s.heap s.heap [] := va_S.rf
  have hl := lv_entry ([.ref xo, .int x]) (n := 2) (Nat.le_of_ble_eq_true rfl)
  rw [lg_entry_eq]
  generalize (lg_sl ([.ref xo, .int x]) ++ List.replicate (2 - (lg_sl ([.ref xo, .int x])).length) Slot.unset).toArray = ls at hl ⊢
  have hl : lv_has ls 2 [(0, .ref xo), (1, .int x)] := hl
  refine lv_aload_n hx hb dX3_requireLabelOf_0 rfl (lv_at hl 0 rfl) ?_
  refine lv_iload_n hx hb dX3_requireLabelOf_1 rfl (lv_at hl 1 rfl) ?_
  refine lv_iload_n hx hb dX3_requireLabelOf_2 rfl (lv_at hl 1 rfl) ?_
  have hPc : va_P dG vwCl (XW xo g lb se tl ts (bI bt) ++ (GW cJ g gA (nI n) (nI ec) ns ++ X)) s.heap := hP
  have hDc : va_D A (XW xo g lb se tl ts (bI bt) ++ (GW cJ g gA (nI n) (nI ec) ns ++ X)) := hD
  refine vx_callv (vx_runV (As := [.int x, .int x]) (rest := []) ⟨hx, hb, hml, hown, hts⟩ (x_requireLabelsOf l hlt dG cI cJ A xo tl ts bt se lb g gA n ec ns hn x x w hw hne _) (cwV 2 hts gX3_requireLabelOf_X3_requireLabelsOf rfl rfl rfl (by decide +kernel) ⟨Nat.le_of_ble_eq_true rfl, Nat.le_of_ble_eq_true rfl⟩) (XPc.pre hPc hDc hK hTK hTH (va_recv hK.1 hPc (ci := 3) (q0 := 0) rfl rfl)) rfl rfl hl.1 rfl (lv_room (Nat.le_of_ble_eq_true rfl)) dX3_requireLabelOf_3 ⟨Nat.le_of_ble_eq_true rfl, Nat.le_of_ble_eq_true rfl⟩) hS (fun q _ h => h) (fun q h => h) (fun q _ h => h.elim) (fun E ce q9 u t H1 locs1 ht hvm _ hB hz1 hk1 hS hce hcv hcl => ?_) (fun u t H1 locs1 ht hvm hf _ _ _ _ => hf.elim)
  obtain ⟨hE, hP1⟩ := hB
  exact vx_out (fun x hx => (htb x hx).elim) hlocks hce hcv hcl (fun t2 h2 hvm2 => ⟨(), trivial, ⟨hE, by rw [h2, ← ht]; exact hP1⟩, by rw [h2]; exact hz1, fun q h _ => by rw [h2]; exact hk1 q h id⟩) hS.2.2 (Nat.le_refl _) (Nat.le_refl _)

set_option maxHeartbeats 4000000 in
set_option maxRecDepth 100000 in
theorem x_addVertex (l : Launch) (hlt : l.stackTraces = false) (dG : va_G) (cI cJ : ClassId) (A : Nat → Prop) (xo tl ts : Nat) (bt : Bool) (se lb : Nat) (g gA n ec : Nat) (ns : Nat → Int64) (hn : n ≤ 48) (hn9 : n = 48) (X : va_W) : vx_Met l yX3_addVertex wsX3_addVertex ({ frames := 7, cells := 1, slots := 6, locals := 111 } : Room) (XPc dG cI cJ [.ref xo] (XW xo g lb se tl ts (bI bt) ++ (GW cJ g gA (nI n) (nI ec) ns ++ X)) A) (va_Qi (S := Unit) (fun _ _ => False) (fun _ _ => True) A) (XX dG ("java/lang/IllegalStateException") (XW xo g lb se tl ts (bI bt) ++ (GW cJ g gA (nI n) (nI ec) ns ++ X))) 1 6 A := by
  refine vx_ofW (cc := cX3_addVertex) (maxL := 1) (ret := (some .int)) (by decide) rfl ?_
  intro p e s m args below meth c s₁ B9 hml htb hv
  obtain ⟨rfl, hP, hK, hD, hTK, hTH⟩ := hv
  have hx := B9.exec
  have hb := B9.bytes
  have hr := B9.returns
  have hts := atoms_spec (ws := wsX3_addVertex) B9.pre
  have hown : s.vm.findClass RX3 = some m.cls := findClass_of_methodNamed B9.named
  have hlocks := B9.notSynchronized
  have hS : va_S A s.heap s.heap [] := va_S.rf
  have hl := lv_entry ([.ref xo]) (n := 1) (Nat.le_of_ble_eq_true rfl)
  rw [lg_entry_eq]
  generalize (lg_sl ([.ref xo]) ++ List.replicate (1 - (lg_sl ([.ref xo])).length) Slot.unset).toArray = ls at hl ⊢
  have hl : lv_has ls 1 [(0, .ref xo)] := hl
  refine lv_aload_n hx hb dX3_addVertex_0 rfl (lv_at hl 0 rfl) ?_
  refine lv_iconst (v := (nI 1)) hx hb dX3_addVertex_1 (by decide) ?_
  have hPc : va_P dG vwCl (XW xo g lb se tl ts (bI bt) ++ (GW cJ g gA (nI n) (nI ec) ns ++ X)) s.heap := hP
  have hDc : va_D A (XW xo g lb se tl ts (bI bt) ++ (GW cJ g gA (nI n) (nI ec) ns ++ X)) := hD
  refine vx_callv (vx_runV (As := [.int (nI 1)]) (rest := []) ⟨hx, hb, hml, hown, hts⟩ (x_requireRoomFor l hlt dG cI cJ A xo tl ts bt se lb g gA n ec ns hn 1 (by omega) (by omega) _) (cwV 1 hts gX3_addVertex_X3_requireRoomFor rfl rfl rfl (by decide +kernel) ⟨Nat.le_of_ble_eq_true rfl, Nat.le_of_ble_eq_true rfl⟩) (XPc.pre hPc hDc hK hTK hTH (va_recv hK.1 hPc (ci := 3) (q0 := 0) rfl rfl)) rfl rfl hl.1 rfl (lv_room (Nat.le_of_ble_eq_true rfl)) dX3_addVertex_2 ⟨Nat.le_of_ble_eq_true rfl, Nat.le_of_ble_eq_true rfl⟩) hS (fun q _ h => h) (fun q h => h) (fun q _ h => h.elim) (fun E ce q9 u t H1 locs1 ht hvm _ hB hz1 hk1 hS hce hcv hcl => ?_) (fun u t H1 locs1 ht hvm hf _ _ _ _ => hf.elim)
  obtain ⟨hE, hP1⟩ := hB
  exact vx_out (fun x hx => (htb x hx).elim) hlocks hce hcv hcl (fun t2 h2 hvm2 => ⟨(), trivial, ⟨hE, by rw [h2, ← ht]; exact hP1⟩, by rw [h2]; exact hz1, fun q h _ => by rw [h2]; exact hk1 q h id⟩) hS.2.2 (Nat.le_refl _) (Nat.le_refl _)

set_option maxHeartbeats 4000000 in
set_option maxRecDepth 100000 in
theorem x_addVertices1 (l : Launch) (hlt : l.stackTraces = false) (dG : va_G) (cI cJ : ClassId) (A : Nat → Prop) (xo tl ts : Nat) (bt : Bool) (se lb : Nat) (g gA n ec : Nat) (ns : Nat → Int64) (hn : n ≤ 48) (x : Int32) (hx9 : x < nI 1 ∨ nI 48 < x) (X : va_W) : vx_Met l yX3_addVertices wsX3_addVertices ({ frames := 6, cells := 1, slots := 6, locals := 90 } : Room) (XPc dG cI cJ [.ref xo, .int x] (XW xo g lb se tl ts (bI bt) ++ (GW cJ g gA (nI n) (nI ec) ns ++ X)) A) (va_Qi (S := Unit) (fun _ _ => False) (fun _ _ => True) A) (XX dG ("java/lang/IllegalArgumentException") (XW xo g lb se tl ts (bI bt) ++ (GW cJ g gA (nI n) (nI ec) ns ++ X))) 1 6 A := by
  refine vx_ofW (cc := cX3_addVertices) (maxL := 3) (ret := (some .int)) (by decide) rfl ?_
  intro p e s m args below meth c s₁ B9 hml htb hv
  obtain ⟨rfl, hP, hK, hD, hTK, hTH⟩ := hv
  have hx := B9.exec
  have hb := B9.bytes
  have hr := B9.returns
  have hts := atoms_spec (ws := wsX3_addVertices) B9.pre
  have hown : s.vm.findClass RX3 = some m.cls := findClass_of_methodNamed B9.named
  have hlocks := B9.notSynchronized
  have hS : va_S A s.heap s.heap [] := va_S.rf
  have hl := lv_entry ([.ref xo, .int x]) (n := 3) (Nat.le_of_ble_eq_true rfl)
  rw [lg_entry_eq]
  generalize (lg_sl ([.ref xo, .int x]) ++ List.replicate (3 - (lg_sl ([.ref xo, .int x])).length) Slot.unset).toArray = ls at hl ⊢
  have hl : lv_has ls 3 [(0, .ref xo), (1, .int x)] := hl
  have hiX3 : ∀ w ∈ wsX30, w ∈ wsX3_addVertices := by decide +kernel
  have hf10 := hts (.fieldLink RX3 10 "LandmarkLea" "graph" "LLandmarkLea$Graph;") (by decide +kernel)
  refine lv_iload_n hx hb dX3_addVertices_0 rfl (lv_at hl 1 rfl) ?_
  refine lv_iconst (v := (nI 1)) hx hb dX3_addVertices_1 (by decide) ?_
  refine lv_icmp_lt (tgt := 11) hx hb dX3_addVertices_2 (by decide) (fun c2 => ?_) (fun c2 => ?_)
  · skip
    obtain ⟨sa, hsa⟩ := hTK.2.2.2 (52, "count is not from 1 to 48") (by decide)
    exact vx_throwS (A := A) (rest := []) hx hb hlt hown (by decide +kernel) (by decide +kernel) (hts (.classLink RX3 50 "java/lang/IllegalArgumentException") (by decide +kernel)) (hts (.initialized "java/lang/IllegalArgumentException") (by decide +kernel)) hsa (xat_IAE (fun w h => hts w (xin_X3_addVertices_IAE w h)) hTK) xgood_IAE hTH.1 hTH.2 hS (hl.1.trans hml.symm) dX3_addVertices_11 dX3_addVertices_14 dX3_addVertices_15 dX3_addVertices_17 dX3_addVertices_20 (fun x hx => (htb x hx).elim) (Nat.le_of_ble_eq_true rfl) (Nat.le_of_ble_eq_true rfl) (Nat.le_of_ble_eq_true rfl) (Nat.le_of_ble_eq_true rfl) hlocks (fun t hvm hz hk => ⟨(), trivial, ⟨rfl, hP.kept (fun k q hq => hk q.1 (vx_lt hP hq))⟩, hz, fun q h _ => hk q h⟩) (fun z h => nomatch h) (Nat.le_refl _) (Nat.le_refl _)
  · skip
    refine lv_iload_n hx hb dX3_addVertices_5 rfl (lv_at hl 1 rfl) ?_
    refine lv_bipush (v := (nI 48)) hx hb dX3_addVertices_6 (by decide) ?_
    refine lv_icmp_le (tgt := 21) hx hb dX3_addVertices_8 (by decide) (fun c8 => ?_) (fun c8 => ?_)
    · skip
      exact absurd hx9 (fun o => o.elim c2 (fun q => absurd c8 (Int32.not_le.mpr q)))
    · skip
      obtain ⟨sa, hsa⟩ := hTK.2.2.2 (52, "count is not from 1 to 48") (by decide)
      exact vx_throwS (A := A) (rest := []) hx hb hlt hown (by decide +kernel) (by decide +kernel) (hts (.classLink RX3 50 "java/lang/IllegalArgumentException") (by decide +kernel)) (hts (.initialized "java/lang/IllegalArgumentException") (by decide +kernel)) hsa (xat_IAE (fun w h => hts w (xin_X3_addVertices_IAE w h)) hTK) xgood_IAE hTH.1 hTH.2 hS (hl.1.trans hml.symm) dX3_addVertices_11 dX3_addVertices_14 dX3_addVertices_15 dX3_addVertices_17 dX3_addVertices_20 (fun x hx => (htb x hx).elim) (Nat.le_of_ble_eq_true rfl) (Nat.le_of_ble_eq_true rfl) (Nat.le_of_ble_eq_true rfl) (Nat.le_of_ble_eq_true rfl) hlocks (fun t hvm hz hk => ⟨(), trivial, ⟨rfl, hP.kept (fun k q hq => hk q.1 (vx_lt hP hq))⟩, hz, fun q h _ => hk q h⟩) (fun z h => nomatch h) (Nat.le_refl _) (Nat.le_refl _)

set_option maxHeartbeats 4000000 in
set_option maxRecDepth 100000 in
theorem x_addVertices2 (l : Launch) (hlt : l.stackTraces = false) (dG : va_G) (cI cJ : ClassId) (A : Nat → Prop) (xo tl ts : Nat) (bt : Bool) (se lb : Nat) (g gA n ec : Nat) (ns : Nat → Int64) (hn : n ≤ 48) (c0 : Nat) (h1 : 1 ≤ c0) (h2 : c0 ≤ 48) (h3 : 48 < n + c0) (X : va_W) : vx_Met l yX3_addVertices wsX3_addVertices ({ frames := 7, cells := 1, slots := 6, locals := 111 } : Room) (XPc dG cI cJ [.ref xo, .int (nI c0)] (XW xo g lb se tl ts (bI bt) ++ (GW cJ g gA (nI n) (nI ec) ns ++ X)) A) (va_Qi (S := Unit) (fun _ _ => False) (fun _ _ => True) A) (XX dG ("java/lang/IllegalStateException") (XW xo g lb se tl ts (bI bt) ++ (GW cJ g gA (nI n) (nI ec) ns ++ X))) 1 6 A := by
  refine vx_ofW (cc := cX3_addVertices) (maxL := 3) (ret := (some .int)) (by decide) rfl ?_
  intro p e s m args below meth c s₁ B9 hml htb hv
  obtain ⟨rfl, hP, hK, hD, hTK, hTH⟩ := hv
  have hx := B9.exec
  have hb := B9.bytes
  have hr := B9.returns
  have hts := atoms_spec (ws := wsX3_addVertices) B9.pre
  have hown : s.vm.findClass RX3 = some m.cls := findClass_of_methodNamed B9.named
  have hlocks := B9.notSynchronized
  have hS : va_S A s.heap s.heap [] := va_S.rf
  have hl := lv_entry ([.ref xo, .int (nI c0)]) (n := 3) (Nat.le_of_ble_eq_true rfl)
  rw [lg_entry_eq]
  generalize (lg_sl ([.ref xo, .int (nI c0)]) ++ List.replicate (3 - (lg_sl ([.ref xo, .int (nI c0)])).length) Slot.unset).toArray = ls at hl ⊢
  have hl : lv_has ls 3 [(0, .ref xo), (1, .int (nI c0))] := hl
  have hiX3 : ∀ w ∈ wsX30, w ∈ wsX3_addVertices := by decide +kernel
  have hf10 := hts (.fieldLink RX3 10 "LandmarkLea" "graph" "LLandmarkLea$Graph;") (by decide +kernel)
  refine lv_iload_n hx hb dX3_addVertices_0 rfl (lv_at hl 1 rfl) ?_
  refine lv_iconst (v := (nI 1)) hx hb dX3_addVertices_1 (by decide) ?_
  refine x_icmp_ltN (i := c0) (j := 1) (tgt := 11) hx hb (by omega) (by omega) dX3_addVertices_2 (by decide) (fun c2 => ?_) (fun c2 => ?_)
  · skip
    exact absurd c2 (by omega)
  · skip
    refine lv_iload_n hx hb dX3_addVertices_5 rfl (lv_at hl 1 rfl) ?_
    refine lv_bipush (v := (nI 48)) hx hb dX3_addVertices_6 (by decide) ?_
    refine x_icmp_leN (i := c0) (j := 48) (tgt := 21) hx hb (by omega) (by omega) dX3_addVertices_8 (by decide) (fun c8 => ?_) (fun c8 => ?_)
    · skip
      refine lv_aload_n hx hb dX3_addVertices_21 rfl (lv_at hl 0 rfl) ?_
      refine lv_iload_n hx hb dX3_addVertices_22 rfl (lv_at hl 1 rfl) ?_
      have hPc : va_P dG vwCl (XW xo g lb se tl ts (bI bt) ++ (GW cJ g gA (nI n) (nI ec) ns ++ X)) s.heap := hP
      have hDc : va_D A (XW xo g lb se tl ts (bI bt) ++ (GW cJ g gA (nI n) (nI ec) ns ++ X)) := hD
      refine vx_callv (vx_runV (As := [.int (nI c0)]) (rest := []) ⟨hx, hb, hml, hown, hts⟩ (x_requireRoomFor l hlt dG cI cJ A xo tl ts bt se lb g gA n ec ns hn c0 h3 h2 _) (cwV 1 hts gX3_addVertices_X3_requireRoomFor rfl rfl rfl (by decide +kernel) ⟨Nat.le_of_ble_eq_true rfl, Nat.le_of_ble_eq_true rfl⟩) (XPc.pre hPc hDc hK hTK hTH (va_recv hK.1 hPc (ci := 3) (q0 := 0) rfl rfl)) rfl rfl hl.1 rfl (lv_room (Nat.le_of_ble_eq_true rfl)) dX3_addVertices_23 ⟨Nat.le_of_ble_eq_true rfl, Nat.le_of_ble_eq_true rfl⟩) hS (fun q _ h => h) (fun q h => h) (fun q _ h => h.elim) (fun E ce q9 u t H1 locs1 ht hvm _ hB hz1 hk1 hS hce hcv hcl => ?_) (fun u t H1 locs1 ht hvm hf _ _ _ _ => hf.elim)
      obtain ⟨hE, hP1⟩ := hB
      exact vx_out (fun x hx => (htb x hx).elim) hlocks hce hcv hcl (fun t2 h2 hvm2 => ⟨(), trivial, ⟨hE, by rw [h2, ← ht]; exact hP1⟩, by rw [h2]; exact hz1, fun q h _ => by rw [h2]; exact hk1 q h id⟩) hS.2.2 (Nat.le_refl _) (Nat.le_refl _)
    · skip
      exact absurd c8 (by omega)

set_option maxHeartbeats 4000000 in
set_option maxRecDepth 100000 in
theorem x_aeX (l : Launch) (hlt : l.stackTraces = false) (dG : va_G) (cI cJ : ClassId) (A : Nat → Prop) (xo tl ts : Nat) (bt : Bool) (se lb : Nat) (g gA n ec : Nat) (ns : Nat → Int64) (hn : n ≤ 48) (x y : Int32) (hx9 : inV x n = false) (X : va_W) : vx_Met l yX3_addEdge wsX3_addEdge ({ frames := 7, cells := 1, slots := 6, locals := 112 } : Room) (XPc dG cI cJ [.ref xo, .int x, .int y] (XW xo g lb se tl ts (bI bt) ++ (GW cJ g gA (nI n) (nI ec) ns ++ X)) A) (va_Qi (S := Unit) (fun _ _ => False) (fun _ _ => True) A) (XX dG ("java/lang/IndexOutOfBoundsException") (XW xo g lb se tl ts (bI bt) ++ (GW cJ g gA (nI n) (nI ec) ns ++ X))) 1 6 A := by
  refine vx_ofW (cc := cX3_addEdge) (maxL := 3) (ret := (some .int)) (by decide) rfl ?_
  intro p e s m args below meth c s₁ B9 hml htb hv
  obtain ⟨rfl, hP, hK, hD, hTK, hTH⟩ := hv
  have hx := B9.exec
  have hb := B9.bytes
  have hr := B9.returns
  have hts := atoms_spec (ws := wsX3_addEdge) B9.pre
  have hown : s.vm.findClass RX3 = some m.cls := findClass_of_methodNamed B9.named
  have hlocks := B9.notSynchronized
  have hS : va_S A s.heap s.heap [] := va_S.rf
  have hl := lv_entry ([.ref xo, .int x, .int y]) (n := 3) (Nat.le_of_ble_eq_true rfl)
  rw [lg_entry_eq]
  generalize (lg_sl ([.ref xo, .int x, .int y]) ++ List.replicate (3 - (lg_sl ([.ref xo, .int x, .int y])).length) Slot.unset).toArray = ls at hl ⊢
  have hl : lv_has ls 3 [(0, .ref xo), (1, .int x), (2, .int y)] := hl
  have hiX3 : ∀ w ∈ wsX30, w ∈ wsX3_addEdge := by decide +kernel
  have hf10 := hts (.fieldLink RX3 10 "LandmarkLea" "graph" "LLandmarkLea$Graph;") (by decide +kernel)
  have hf28 := hts (.fieldLink RX3 28 "LandmarkLea" "searches" "LLandmarkLea$Searches;") (by decide +kernel)
  have hf38 := hts (.fieldLink RX3 38 "LandmarkLea" "labelled" "Z") (by decide +kernel)
  refine lv_aload_n hx hb dX3_addEdge_0 rfl (lv_at hl 0 rfl) ?_
  refine lv_iload_n hx hb dX3_addEdge_1 rfl (lv_at hl 1 rfl) ?_
  have hPc : va_P dG vwCl (XW xo g lb se tl ts (bI bt) ++ (GW cJ g gA (nI n) (nI ec) ns ++ X)) s.heap := hP
  have hDc : va_D A (XW xo g lb se tl ts (bI bt) ++ (GW cJ g gA (nI n) (nI ec) ns ++ X)) := hD
  refine vx_callv (vx_runV (As := [.int x]) (rest := []) ⟨hx, hb, hml, hown, hts⟩ (x_requireVertex l hlt dG cI cJ A xo tl ts bt se lb g gA n ec ns hn x hx9 _) (cwV 1 hts gX3_addEdge_X3_requireVertex rfl rfl rfl (by decide +kernel) ⟨Nat.le_of_ble_eq_true rfl, Nat.le_of_ble_eq_true rfl⟩) (XPc.pre hPc hDc hK hTK hTH (va_recv hK.1 hPc (ci := 3) (q0 := 0) rfl rfl)) rfl rfl hl.1 rfl (lv_room (Nat.le_of_ble_eq_true rfl)) dX3_addEdge_2 ⟨Nat.le_of_ble_eq_true rfl, Nat.le_of_ble_eq_true rfl⟩) hS (fun q _ h => h) (fun q h => h) (fun q _ h => h.elim) (fun E ce q9 u t H1 locs1 ht hvm _ hB hz1 hk1 hS hce hcv hcl => ?_) (fun u t H1 locs1 ht hvm hf _ _ _ _ => hf.elim)
  obtain ⟨hE, hP1⟩ := hB
  exact vx_out (fun x hx => (htb x hx).elim) hlocks hce hcv hcl (fun t2 h2 hvm2 => ⟨(), trivial, ⟨hE, by rw [h2, ← ht]; exact hP1⟩, by rw [h2]; exact hz1, fun q h _ => by rw [h2]; exact hk1 q h id⟩) hS.2.2 (Nat.le_refl _) (Nat.le_refl _)

set_option maxHeartbeats 4000000 in
set_option maxRecDepth 100000 in
theorem x_aeY (l : Launch) (hlt : l.stackTraces = false) (dG : va_G) (cI cJ : ClassId) (A : Nat → Prop) (xo tl ts : Nat) (bt : Bool) (se lb : Nat) (g gA n ec : Nat) (ns : Nat → Int64) (hn : n ≤ 48) (a : Nat) (ha : a < n) (y : Int32) (hy9 : inV y n = false) (X : va_W) : vx_Met l yX3_addEdge wsX3_addEdge ({ frames := 7, cells := 1, slots := 6, locals := 112 } : Room) (XPc dG cI cJ [.ref xo, .int (nI a), .int y] (XW xo g lb se tl ts (bI bt) ++ (GW cJ g gA (nI n) (nI ec) ns ++ X)) A) (va_Qi (S := Unit) (fun _ _ => False) (fun _ _ => True) A) (XX dG ("java/lang/IndexOutOfBoundsException") (XW xo g lb se tl ts (bI bt) ++ (GW cJ g gA (nI n) (nI ec) ns ++ X))) 1 6 A := by
  refine vx_ofW (cc := cX3_addEdge) (maxL := 3) (ret := (some .int)) (by decide) rfl ?_
  intro p e s m args below meth c s₁ B9 hml htb hv
  obtain ⟨rfl, hP, hK, hD, hTK, hTH⟩ := hv
  have hx := B9.exec
  have hb := B9.bytes
  have hr := B9.returns
  have hts := atoms_spec (ws := wsX3_addEdge) B9.pre
  have hown : s.vm.findClass RX3 = some m.cls := findClass_of_methodNamed B9.named
  have hlocks := B9.notSynchronized
  have hS : va_S A s.heap s.heap [] := va_S.rf
  have hl := lv_entry ([.ref xo, .int (nI a), .int y]) (n := 3) (Nat.le_of_ble_eq_true rfl)
  rw [lg_entry_eq]
  generalize (lg_sl ([.ref xo, .int (nI a), .int y]) ++ List.replicate (3 - (lg_sl ([.ref xo, .int (nI a), .int y])).length) Slot.unset).toArray = ls at hl ⊢
  have hl : lv_has ls 3 [(0, .ref xo), (1, .int (nI a)), (2, .int y)] := hl
  have hiX3 : ∀ w ∈ wsX30, w ∈ wsX3_addEdge := by decide +kernel
  have hf10 := hts (.fieldLink RX3 10 "LandmarkLea" "graph" "LLandmarkLea$Graph;") (by decide +kernel)
  have hf28 := hts (.fieldLink RX3 28 "LandmarkLea" "searches" "LLandmarkLea$Searches;") (by decide +kernel)
  have hf38 := hts (.fieldLink RX3 38 "LandmarkLea" "labelled" "Z") (by decide +kernel)
  refine lv_aload_n hx hb dX3_addEdge_0 rfl (lv_at hl 0 rfl) ?_
  refine lv_iload_n hx hb dX3_addEdge_1 rfl (lv_at hl 1 rfl) ?_
  have hPc := hP.sub (ws' := (XW xo g lb se tl ts (bI bt) ++ (GW cJ g gA (nI n) (nI ec) ns))) [0, 1, 2] rfl
  refine x_rv (W.runV (As := [.int (nI a)]) (rest := []) ⟨hx, hb, hml, hown, hts⟩ (c_requireVertexS l dG cI cJ xo tl ts bt se lb g gA n ec ns hn a (by omega)) (cwV 1 hts gX3_addEdge_X3_requireVertex rfl rfl rfl (by decide +kernel) ⟨Nat.le_of_ble_eq_true rfl, Nat.le_of_ble_eq_true rfl⟩) (RPc.pre hPc hK (va_recv hK.1 hPc (ci := 3) (q0 := 0) rfl rfl)) rfl rfl hl.1 rfl (lv_room (Nat.le_of_ble_eq_true rfl)) dX3_addEdge_2 ⟨Nat.zero_le _, Nat.zero_le _⟩) ?_
  refine lv_aload_n hx hb dX3_addEdge_5 rfl (lv_at hl 0 rfl) ?_
  refine lv_iload_n hx hb dX3_addEdge_6 rfl (lv_at hl 2 rfl) ?_
  have hPc : va_P dG vwCl (XW xo g lb se tl ts (bI bt) ++ (GW cJ g gA (nI n) (nI ec) ns ++ X)) s.heap := hP
  have hDc : va_D A (XW xo g lb se tl ts (bI bt) ++ (GW cJ g gA (nI n) (nI ec) ns ++ X)) := hD
  refine vx_callv (vx_runV (As := [.int y]) (rest := []) ⟨hx, hb, hml, hown, hts⟩ (x_requireVertex l hlt dG cI cJ A xo tl ts bt se lb g gA n ec ns hn y hy9 _) (cwV 1 hts gX3_addEdge_X3_requireVertex rfl rfl rfl (by decide +kernel) ⟨Nat.le_of_ble_eq_true rfl, Nat.le_of_ble_eq_true rfl⟩) (XPc.pre hPc hDc hK hTK hTH (va_recv hK.1 hPc (ci := 3) (q0 := 0) rfl rfl)) rfl rfl hl.1 rfl (lv_room (Nat.le_of_ble_eq_true rfl)) dX3_addEdge_7 ⟨Nat.le_of_ble_eq_true rfl, Nat.le_of_ble_eq_true rfl⟩) hS (fun q _ h => h) (fun q h => h) (fun q _ h => h.elim) (fun E ce q9 u t H1 locs1 ht hvm _ hB hz1 hk1 hS hce hcv hcl => ?_) (fun u t H1 locs1 ht hvm hf _ _ _ _ => hf.elim)
  obtain ⟨hE, hP1⟩ := hB
  exact vx_out (fun x hx => (htb x hx).elim) hlocks hce hcv hcl (fun t2 h2 hvm2 => ⟨(), trivial, ⟨hE, by rw [h2, ← ht]; exact hP1⟩, by rw [h2]; exact hz1, fun q h _ => by rw [h2]; exact hk1 q h id⟩) hS.2.2 (Nat.le_refl _) (Nat.le_refl _)

theorem x_addEdge1 (l : Launch) (hlt : l.stackTraces = false) (dG : va_G) (cI cJ : ClassId) (A : Nat → Prop) (xo tl ts : Nat) (bt : Bool) (se lb : Nat) (g gA n ec : Nat) (ns : Nat → Int64) (hn : n ≤ 48) (x y : Int32) (hxy : (inV x n && inV y n) = false) (X : va_W) : vx_Met l yX3_addEdge wsX3_addEdge ({ frames := 7, cells := 1, slots := 6, locals := 112 } : Room) (XPc dG cI cJ [.ref xo, .int x, .int y] (XW xo g lb se tl ts (bI bt) ++ (GW cJ g gA (nI n) (nI ec) ns ++ X)) A) (va_Qi (S := Unit) (fun _ _ => False) (fun _ _ => True) A) (XX dG "java/lang/IndexOutOfBoundsException" (XW xo g lb se tl ts (bI bt) ++ (GW cJ g gA (nI n) (nI ec) ns ++ X))) 1 6 A := by
  cases hx : inV x n with
  | false => exact x_aeX l hlt dG cI cJ A xo tl ts bt se lb g gA n ec ns hn x y hx X
  | true =>
    rw [hx] at hxy
    obtain ⟨a, ha, rfl⟩ := inV_of (by omega) hx
    exact x_aeY l hlt dG cI cJ A xo tl ts bt se lb g gA n ec ns hn a ha y hxy X

set_option maxHeartbeats 4000000 in
set_option maxRecDepth 100000 in
theorem x_addEdge2 (l : Launch) (hlt : l.stackTraces = false) (dG : va_G) (cI cJ : ClassId) (A : Nat → Prop) (xo tl ts : Nat) (bt : Bool) (se lb : Nat) (g gA n ec : Nat) (ns : Nat → Int64) (hn : n ≤ 48) (a b : Nat) (ha : a < n) (hb9 : b < n) (h9 : a = b ∨ gb (ns a) b = true) (X : va_W) : vx_Met l yX3_addEdge wsX3_addEdge ({ frames := 6, cells := 1, slots := 6, locals := 90 } : Room) (XPc dG cI cJ [.ref xo, .int (nI a), .int (nI b)] (XW xo g lb se tl ts (bI bt) ++ (GW cJ g gA (nI n) (nI ec) ns ++ X)) A) (va_Qi (S := Unit) (fun _ _ => False) (fun _ _ => True) A) (XX dG ("java/lang/IllegalStateException") (XW xo g lb se tl ts (bI bt) ++ (GW cJ g gA (nI n) (nI ec) ns ++ X))) 1 6 A := by
  refine vx_ofW (cc := cX3_addEdge) (maxL := 3) (ret := (some .int)) (by decide) rfl ?_
  intro p e s m args below meth c s₁ B9 hml htb hv
  obtain ⟨rfl, hP, hK, hD, hTK, hTH⟩ := hv
  have hx := B9.exec
  have hb := B9.bytes
  have hr := B9.returns
  have hts := atoms_spec (ws := wsX3_addEdge) B9.pre
  have hown : s.vm.findClass RX3 = some m.cls := findClass_of_methodNamed B9.named
  have hlocks := B9.notSynchronized
  have hS : va_S A s.heap s.heap [] := va_S.rf
  have hl := lv_entry ([.ref xo, .int (nI a), .int (nI b)]) (n := 3) (Nat.le_of_ble_eq_true rfl)
  rw [lg_entry_eq]
  generalize (lg_sl ([.ref xo, .int (nI a), .int (nI b)]) ++ List.replicate (3 - (lg_sl ([.ref xo, .int (nI a), .int (nI b)])).length) Slot.unset).toArray = ls at hl ⊢
  have hl : lv_has ls 3 [(0, .ref xo), (1, .int (nI a)), (2, .int (nI b))] := hl
  have hiX3 : ∀ w ∈ wsX30, w ∈ wsX3_addEdge := by decide +kernel
  have hf10 := hts (.fieldLink RX3 10 "LandmarkLea" "graph" "LLandmarkLea$Graph;") (by decide +kernel)
  have hf28 := hts (.fieldLink RX3 28 "LandmarkLea" "searches" "LLandmarkLea$Searches;") (by decide +kernel)
  have hf38 := hts (.fieldLink RX3 38 "LandmarkLea" "labelled" "Z") (by decide +kernel)
  refine lv_aload_n hx hb dX3_addEdge_0 rfl (lv_at hl 0 rfl) ?_
  refine lv_iload_n hx hb dX3_addEdge_1 rfl (lv_at hl 1 rfl) ?_
  have hPc := hP.sub (ws' := (XW xo g lb se tl ts (bI bt) ++ (GW cJ g gA (nI n) (nI ec) ns))) [0, 1, 2] rfl
  refine x_rv (W.runV (As := [.int (nI a)]) (rest := []) ⟨hx, hb, hml, hown, hts⟩ (c_requireVertexS l dG cI cJ xo tl ts bt se lb g gA n ec ns hn a (by omega)) (cwV 1 hts gX3_addEdge_X3_requireVertex rfl rfl rfl (by decide +kernel) ⟨Nat.le_of_ble_eq_true rfl, Nat.le_of_ble_eq_true rfl⟩) (RPc.pre hPc hK (va_recv hK.1 hPc (ci := 3) (q0 := 0) rfl rfl)) rfl rfl hl.1 rfl (lv_room (Nat.le_of_ble_eq_true rfl)) dX3_addEdge_2 ⟨Nat.zero_le _, Nat.zero_le _⟩) ?_
  refine lv_aload_n hx hb dX3_addEdge_5 rfl (lv_at hl 0 rfl) ?_
  refine lv_iload_n hx hb dX3_addEdge_6 rfl (lv_at hl 2 rfl) ?_
  have hPc := hP.sub (ws' := (XW xo g lb se tl ts (bI bt) ++ (GW cJ g gA (nI n) (nI ec) ns))) [0, 1, 2] rfl
  refine x_rv (W.runV (As := [.int (nI b)]) (rest := []) ⟨hx, hb, hml, hown, hts⟩ (c_requireVertexS l dG cI cJ xo tl ts bt se lb g gA n ec ns hn b (by omega)) (cwV 1 hts gX3_addEdge_X3_requireVertex rfl rfl rfl (by decide +kernel) ⟨Nat.le_of_ble_eq_true rfl, Nat.le_of_ble_eq_true rfl⟩) (RPc.pre hPc hK (va_recv hK.1 hPc (ci := 3) (q0 := 0) rfl rfl)) rfl rfl hl.1 rfl (lv_room (Nat.le_of_ble_eq_true rfl)) dX3_addEdge_7 ⟨Nat.zero_le _, Nat.zero_le _⟩) ?_
  refine lv_iload_n hx hb dX3_addEdge_10 rfl (lv_at hl 1 rfl) ?_
  refine lv_iload_n hx hb dX3_addEdge_11 rfl (lv_at hl 2 rfl) ?_
  refine x_icmp_eqN (i := a) (j := b) (tgt := 27) hx hb (by omega) (by omega) dX3_addEdge_12 (by decide) (fun c12 => ?_) (fun c12 => ?_)
  · skip
    obtain ⟨sa, hsa⟩ := hTK.2.2.2 (69, "the same vertex, or an edge that is there") (by decide)
    exact vx_throwS (A := A) (rest := []) hx hb hlt hown (by decide +kernel) (by decide +kernel) (hts (.classLink RX3 67 "java/lang/IllegalStateException") (by decide +kernel)) (hts (.initialized "java/lang/IllegalStateException") (by decide +kernel)) hsa (xat_ISE (fun w h => hts w (xin_X3_addEdge_ISE w h)) hTK) xgood_ISE hTH.1 hTH.2 hS (hl.1.trans hml.symm) dX3_addEdge_27 dX3_addEdge_30 dX3_addEdge_31 dX3_addEdge_33 dX3_addEdge_36 (fun x hx => (htb x hx).elim) (Nat.le_of_ble_eq_true rfl) (Nat.le_of_ble_eq_true rfl) (Nat.le_of_ble_eq_true rfl) (Nat.le_of_ble_eq_true rfl) hlocks (fun t hvm hz hk => ⟨(), trivial, ⟨rfl, hP.kept (fun k q hq => hk q.1 (vx_lt hP hq))⟩, hz, fun q h _ => hk q h⟩) (fun z h => nomatch h) (Nat.le_refl _) (Nat.le_refl _)
  · skip
    refine lv_aload_n hx hb dX3_addEdge_15 rfl (lv_at hl 0 rfl) ?_
    refine va_get (D := dG) (ci := 3) (v := .ref g) (C := RX3) (T := TX3) (N := 6) hx hb hts hiX3 hown hK.1 hP 0 rfl rfl 0 (by decide) hf10 (fun _ h9 => h9) rfl dX3_addEdge_16 ?_
    refine lv_iload_n hx hb dX3_addEdge_19 rfl (lv_at hl 1 rfl) ?_
    refine lv_iload_n hx hb dX3_addEdge_20 rfl (lv_at hl 2 rfl) ?_
    have hPc := hP.sub (ws' := (GW cJ g gA (nI n) (nI ec) ns)) [1, 2] rfl
    refine x_ri (W.runV (As := [.int (nI a), .int (nI b)]) (rest := []) ⟨hx, hb, hml, hown, hts⟩ (c_joins l dG cI cJ g gA n ec ns a b (by omega) (by omega)) (cwV 2 hts gX3_addEdge_X0_joins rfl rfl rfl (by decide +kernel) ⟨Nat.le_of_ble_eq_true rfl, Nat.le_of_ble_eq_true rfl⟩) (RPc.pre hPc hK (va_recv hK.1 hPc (ci := 0) (q0 := 0) rfl rfl)) rfl rfl hl.1 rfl (lv_room (Nat.le_of_ble_eq_true rfl)) dX3_addEdge_21 ⟨Nat.zero_le _, Nat.zero_le _⟩) ?_
    refine x_ifeqB (tgt := 37) hx hb dX3_addEdge_24 (by decide) (fun c24 => ?_) (fun c24 => ?_)
    · skip
      exact absurd h9 (fun o => o.elim c12 (fun q => by rw [c24] at q; cases q))
    · skip
      obtain ⟨sa, hsa⟩ := hTK.2.2.2 (69, "the same vertex, or an edge that is there") (by decide)
      exact vx_throwS (A := A) (rest := []) hx hb hlt hown (by decide +kernel) (by decide +kernel) (hts (.classLink RX3 67 "java/lang/IllegalStateException") (by decide +kernel)) (hts (.initialized "java/lang/IllegalStateException") (by decide +kernel)) hsa (xat_ISE (fun w h => hts w (xin_X3_addEdge_ISE w h)) hTK) xgood_ISE hTH.1 hTH.2 hS (hl.1.trans hml.symm) dX3_addEdge_27 dX3_addEdge_30 dX3_addEdge_31 dX3_addEdge_33 dX3_addEdge_36 (fun x hx => (htb x hx).elim) (Nat.le_of_ble_eq_true rfl) (Nat.le_of_ble_eq_true rfl) (Nat.le_of_ble_eq_true rfl) (Nat.le_of_ble_eq_true rfl) hlocks (fun t hvm hz hk => ⟨(), trivial, ⟨rfl, hP.kept (fun k q hq => hk q.1 (vx_lt hP hq))⟩, hz, fun q h _ => hk q h⟩) (fun z h => nomatch h) (Nat.le_refl _) (Nat.le_refl _)

set_option maxHeartbeats 4000000 in
set_option maxRecDepth 100000 in
theorem x_neighbours (l : Launch) (hlt : l.stackTraces = false) (dG : va_G) (cI cJ : ClassId) (A : Nat → Prop) (xo tl ts : Nat) (bt : Bool) (se lb : Nat) (g gA n ec : Nat) (ns : Nat → Int64) (hn : n ≤ 48) (x : Int32) (hx9 : inV x n = false) (X : va_W) : vx_Met l yX3_neighbours wsX3_neighbours ({ frames := 7, cells := 1, slots := 6, locals := 111 } : Room) (XPc dG cI cJ [.ref xo, .int x] (XW xo g lb se tl ts (bI bt) ++ (GW cJ g gA (nI n) (nI ec) ns ++ X)) A) (va_Ql (S := Unit) (fun _ _ => False) (fun _ _ => True) A) (XX dG ("java/lang/IndexOutOfBoundsException") (XW xo g lb se tl ts (bI bt) ++ (GW cJ g gA (nI n) (nI ec) ns ++ X))) 1 6 A := by
  refine vx_ofW (cc := cX3_neighbours) (maxL := 2) (ret := (some .long)) (by decide) rfl ?_
  intro p e s m args below meth c s₁ B9 hml htb hv
  obtain ⟨rfl, hP, hK, hD, hTK, hTH⟩ := hv
  have hx := B9.exec
  have hb := B9.bytes
  have hr := B9.returns
  have hts := atoms_spec (ws := wsX3_neighbours) B9.pre
  have hown : s.vm.findClass RX3 = some m.cls := findClass_of_methodNamed B9.named
  have hlocks := B9.notSynchronized
  have hS : va_S A s.heap s.heap [] := va_S.rf
  have hl := lv_entry ([.ref xo, .int x]) (n := 2) (Nat.le_of_ble_eq_true rfl)
  rw [lg_entry_eq]
  generalize (lg_sl ([.ref xo, .int x]) ++ List.replicate (2 - (lg_sl ([.ref xo, .int x])).length) Slot.unset).toArray = ls at hl ⊢
  have hl : lv_has ls 2 [(0, .ref xo), (1, .int x)] := hl
  have hiX3 : ∀ w ∈ wsX30, w ∈ wsX3_neighbours := by decide +kernel
  have hf10 := hts (.fieldLink RX3 10 "LandmarkLea" "graph" "LLandmarkLea$Graph;") (by decide +kernel)
  refine lv_aload_n hx hb dX3_neighbours_0 rfl (lv_at hl 0 rfl) ?_
  refine lv_iload_n hx hb dX3_neighbours_1 rfl (lv_at hl 1 rfl) ?_
  have hPc : va_P dG vwCl (XW xo g lb se tl ts (bI bt) ++ (GW cJ g gA (nI n) (nI ec) ns ++ X)) s.heap := hP
  have hDc : va_D A (XW xo g lb se tl ts (bI bt) ++ (GW cJ g gA (nI n) (nI ec) ns ++ X)) := hD
  refine vx_callv (vx_runV (As := [.int x]) (rest := []) ⟨hx, hb, hml, hown, hts⟩ (x_requireVertex l hlt dG cI cJ A xo tl ts bt se lb g gA n ec ns hn x hx9 _) (cwV 1 hts gX3_neighbours_X3_requireVertex rfl rfl rfl (by decide +kernel) ⟨Nat.le_of_ble_eq_true rfl, Nat.le_of_ble_eq_true rfl⟩) (XPc.pre hPc hDc hK hTK hTH (va_recv hK.1 hPc (ci := 3) (q0 := 0) rfl rfl)) rfl rfl hl.1 rfl (lv_room (Nat.le_of_ble_eq_true rfl)) dX3_neighbours_2 ⟨Nat.le_of_ble_eq_true rfl, Nat.le_of_ble_eq_true rfl⟩) hS (fun q _ h => h) (fun q h => h) (fun q _ h => h.elim) (fun E ce q9 u t H1 locs1 ht hvm _ hB hz1 hk1 hS hce hcv hcl => ?_) (fun u t H1 locs1 ht hvm hf _ _ _ _ => hf.elim)
  obtain ⟨hE, hP1⟩ := hB
  exact vx_out (fun x hx => (htb x hx).elim) hlocks hce hcv hcl (fun t2 h2 hvm2 => ⟨(), trivial, ⟨hE, by rw [h2, ← ht]; exact hP1⟩, by rw [h2]; exact hz1, fun q h _ => by rw [h2]; exact hk1 q h id⟩) hS.2.2 (Nat.le_refl _) (Nat.le_refl _)

set_option maxHeartbeats 4000000 in
set_option maxRecDepth 100000 in
theorem x_rank (l : Launch) (hlt : l.stackTraces = false) (dG : va_G) (cI cJ : ClassId) (A : Nat → Prop) (xo tl ts : Nat) (bt : Bool) (se lb : Nat) (g gA n ec : Nat) (ns : Nat → Int64) (hn : n ≤ 48) (x : Int32) (w : Nat) (hw : wr x x n bt = w) (hne : ¬ w = 0) (X : va_W) : vx_Met l yX3_rank wsX3_rank ({ frames := 9, cells := 1, slots := 6, locals := 155 } : Room) (XPc dG cI cJ [.ref xo, .int x] (XW xo g lb se tl ts (bI bt) ++ (GW cJ g gA (nI n) (nI ec) ns ++ X)) A) (va_Qi (S := Unit) (fun _ _ => False) (fun _ _ => True) A) (XX dG (XN w) (XW xo g lb se tl ts (bI bt) ++ (GW cJ g gA (nI n) (nI ec) ns ++ X))) 1 6 A := by
  refine vx_ofW (cc := cX3_rank) (maxL := 2) (ret := (some .int)) (by decide) rfl ?_
  intro p e s m args below meth c s₁ B9 hml htb hv
  obtain ⟨rfl, hP, hK, hD, hTK, hTH⟩ := hv
  have hx := B9.exec
  have hb := B9.bytes
  have hr := B9.returns
  have hts := atoms_spec (ws := wsX3_rank) B9.pre
  have hown : s.vm.findClass RX3 = some m.cls := findClass_of_methodNamed B9.named
  have hlocks := B9.notSynchronized
  have hS : va_S A s.heap s.heap [] := va_S.rf
  have hl := lv_entry ([.ref xo, .int x]) (n := 2) (Nat.le_of_ble_eq_true rfl)
  rw [lg_entry_eq]
  generalize (lg_sl ([.ref xo, .int x]) ++ List.replicate (2 - (lg_sl ([.ref xo, .int x])).length) Slot.unset).toArray = ls at hl ⊢
  have hl : lv_has ls 2 [(0, .ref xo), (1, .int x)] := hl
  have hiX3 : ∀ w ∈ wsX30, w ∈ wsX3_rank := by decide +kernel
  have hf19 := hts (.fieldLink RX3 19 "LandmarkLea" "labels" "LLandmarkLea$Labels;") (by decide +kernel)
  refine lv_aload_n hx hb dX3_rank_0 rfl (lv_at hl 0 rfl) ?_
  refine lv_iload_n hx hb dX3_rank_1 rfl (lv_at hl 1 rfl) ?_
  have hPc : va_P dG vwCl (XW xo g lb se tl ts (bI bt) ++ (GW cJ g gA (nI n) (nI ec) ns ++ X)) s.heap := hP
  have hDc : va_D A (XW xo g lb se tl ts (bI bt) ++ (GW cJ g gA (nI n) (nI ec) ns ++ X)) := hD
  refine vx_callv (vx_runV (As := [.int x]) (rest := []) ⟨hx, hb, hml, hown, hts⟩ (x_requireLabelOf l hlt dG cI cJ A xo tl ts bt se lb g gA n ec ns hn x w hw hne _) (cwV 1 hts gX3_rank_X3_requireLabelOf rfl rfl rfl (by decide +kernel) ⟨Nat.le_of_ble_eq_true rfl, Nat.le_of_ble_eq_true rfl⟩) (XPc.pre hPc hDc hK hTK hTH (va_recv hK.1 hPc (ci := 3) (q0 := 0) rfl rfl)) rfl rfl hl.1 rfl (lv_room (Nat.le_of_ble_eq_true rfl)) dX3_rank_2 ⟨Nat.le_of_ble_eq_true rfl, Nat.le_of_ble_eq_true rfl⟩) hS (fun q _ h => h) (fun q h => h) (fun q _ h => h.elim) (fun E ce q9 u t H1 locs1 ht hvm _ hB hz1 hk1 hS hce hcv hcl => ?_) (fun u t H1 locs1 ht hvm hf _ _ _ _ => hf.elim)
  obtain ⟨hE, hP1⟩ := hB
  exact vx_out (fun x hx => (htb x hx).elim) hlocks hce hcv hcl (fun t2 h2 hvm2 => ⟨(), trivial, ⟨hE, by rw [h2, ← ht]; exact hP1⟩, by rw [h2]; exact hz1, fun q h _ => by rw [h2]; exact hk1 q h id⟩) hS.2.2 (Nat.le_refl _) (Nat.le_refl _)

set_option maxHeartbeats 4000000 in
set_option maxRecDepth 100000 in
theorem x_labelSize (l : Launch) (hlt : l.stackTraces = false) (dG : va_G) (cI cJ : ClassId) (A : Nat → Prop) (xo tl ts : Nat) (bt : Bool) (se lb : Nat) (g gA n ec : Nat) (ns : Nat → Int64) (hn : n ≤ 48) (x : Int32) (w : Nat) (hw : wr x x n bt = w) (hne : ¬ w = 0) (X : va_W) : vx_Met l yX3_labelSize wsX3_labelSize ({ frames := 9, cells := 1, slots := 6, locals := 155 } : Room) (XPc dG cI cJ [.ref xo, .int x] (XW xo g lb se tl ts (bI bt) ++ (GW cJ g gA (nI n) (nI ec) ns ++ X)) A) (va_Qi (S := Unit) (fun _ _ => False) (fun _ _ => True) A) (XX dG (XN w) (XW xo g lb se tl ts (bI bt) ++ (GW cJ g gA (nI n) (nI ec) ns ++ X))) 1 6 A := by
  refine vx_ofW (cc := cX3_labelSize) (maxL := 2) (ret := (some .int)) (by decide) rfl ?_
  intro p e s m args below meth c s₁ B9 hml htb hv
  obtain ⟨rfl, hP, hK, hD, hTK, hTH⟩ := hv
  have hx := B9.exec
  have hb := B9.bytes
  have hr := B9.returns
  have hts := atoms_spec (ws := wsX3_labelSize) B9.pre
  have hown : s.vm.findClass RX3 = some m.cls := findClass_of_methodNamed B9.named
  have hlocks := B9.notSynchronized
  have hS : va_S A s.heap s.heap [] := va_S.rf
  have hl := lv_entry ([.ref xo, .int x]) (n := 2) (Nat.le_of_ble_eq_true rfl)
  rw [lg_entry_eq]
  generalize (lg_sl ([.ref xo, .int x]) ++ List.replicate (2 - (lg_sl ([.ref xo, .int x])).length) Slot.unset).toArray = ls at hl ⊢
  have hl : lv_has ls 2 [(0, .ref xo), (1, .int x)] := hl
  have hiX3 : ∀ w ∈ wsX30, w ∈ wsX3_labelSize := by decide +kernel
  have hf19 := hts (.fieldLink RX3 19 "LandmarkLea" "labels" "LLandmarkLea$Labels;") (by decide +kernel)
  refine lv_aload_n hx hb dX3_labelSize_0 rfl (lv_at hl 0 rfl) ?_
  refine lv_iload_n hx hb dX3_labelSize_1 rfl (lv_at hl 1 rfl) ?_
  have hPc : va_P dG vwCl (XW xo g lb se tl ts (bI bt) ++ (GW cJ g gA (nI n) (nI ec) ns ++ X)) s.heap := hP
  have hDc : va_D A (XW xo g lb se tl ts (bI bt) ++ (GW cJ g gA (nI n) (nI ec) ns ++ X)) := hD
  refine vx_callv (vx_runV (As := [.int x]) (rest := []) ⟨hx, hb, hml, hown, hts⟩ (x_requireLabelOf l hlt dG cI cJ A xo tl ts bt se lb g gA n ec ns hn x w hw hne _) (cwV 1 hts gX3_labelSize_X3_requireLabelOf rfl rfl rfl (by decide +kernel) ⟨Nat.le_of_ble_eq_true rfl, Nat.le_of_ble_eq_true rfl⟩) (XPc.pre hPc hDc hK hTK hTH (va_recv hK.1 hPc (ci := 3) (q0 := 0) rfl rfl)) rfl rfl hl.1 rfl (lv_room (Nat.le_of_ble_eq_true rfl)) dX3_labelSize_2 ⟨Nat.le_of_ble_eq_true rfl, Nat.le_of_ble_eq_true rfl⟩) hS (fun q _ h => h) (fun q h => h) (fun q _ h => h.elim) (fun E ce q9 u t H1 locs1 ht hvm _ hB hz1 hk1 hS hce hcv hcl => ?_) (fun u t H1 locs1 ht hvm hf _ _ _ _ => hf.elim)
  obtain ⟨hE, hP1⟩ := hB
  exact vx_out (fun x hx => (htb x hx).elim) hlocks hce hcv hcl (fun t2 h2 hvm2 => ⟨(), trivial, ⟨hE, by rw [h2, ← ht]; exact hP1⟩, by rw [h2]; exact hz1, fun q h _ => by rw [h2]; exact hk1 q h id⟩) hS.2.2 (Nat.le_refl _) (Nat.le_refl _)

set_option maxHeartbeats 4000000 in
set_option maxRecDepth 100000 in
theorem x_entryHub (l : Launch) (hlt : l.stackTraces = false) (dG : va_G) (cI cJ : ClassId) (A : Nat → Prop) (xo tl ts : Nat) (bt : Bool) (se lb : Nat) (g gA n ec : Nat) (ns : Nat → Int64) (hn : n ≤ 48) (x : Int32) (z : Int32) (w : Nat) (hw : wr x x n bt = w) (hne : ¬ w = 0) (X : va_W) : vx_Met l yX3_entryHub wsX3_entryHub ({ frames := 9, cells := 1, slots := 6, locals := 155 } : Room) (XPc dG cI cJ [.ref xo, .int x, .int z] (XW xo g lb se tl ts (bI bt) ++ (GW cJ g gA (nI n) (nI ec) ns ++ X)) A) (va_Qi (S := Unit) (fun _ _ => False) (fun _ _ => True) A) (XX dG (XN w) (XW xo g lb se tl ts (bI bt) ++ (GW cJ g gA (nI n) (nI ec) ns ++ X))) 1 6 A := by
  refine vx_ofW (cc := cX3_entryHub) (maxL := 3) (ret := (some .int)) (by decide) rfl ?_
  intro p e s m args below meth c s₁ B9 hml htb hv
  obtain ⟨rfl, hP, hK, hD, hTK, hTH⟩ := hv
  have hx := B9.exec
  have hb := B9.bytes
  have hr := B9.returns
  have hts := atoms_spec (ws := wsX3_entryHub) B9.pre
  have hown : s.vm.findClass RX3 = some m.cls := findClass_of_methodNamed B9.named
  have hlocks := B9.notSynchronized
  have hS : va_S A s.heap s.heap [] := va_S.rf
  have hl := lv_entry ([.ref xo, .int x, .int z]) (n := 3) (Nat.le_of_ble_eq_true rfl)
  rw [lg_entry_eq]
  generalize (lg_sl ([.ref xo, .int x, .int z]) ++ List.replicate (3 - (lg_sl ([.ref xo, .int x, .int z])).length) Slot.unset).toArray = ls at hl ⊢
  have hl : lv_has ls 3 [(0, .ref xo), (1, .int x), (2, .int z)] := hl
  have hiX3 : ∀ w ∈ wsX30, w ∈ wsX3_entryHub := by decide +kernel
  have hf19 := hts (.fieldLink RX3 19 "LandmarkLea" "labels" "LLandmarkLea$Labels;") (by decide +kernel)
  refine lv_aload_n hx hb dX3_entryHub_0 rfl (lv_at hl 0 rfl) ?_
  refine lv_iload_n hx hb dX3_entryHub_1 rfl (lv_at hl 1 rfl) ?_
  have hPc : va_P dG vwCl (XW xo g lb se tl ts (bI bt) ++ (GW cJ g gA (nI n) (nI ec) ns ++ X)) s.heap := hP
  have hDc : va_D A (XW xo g lb se tl ts (bI bt) ++ (GW cJ g gA (nI n) (nI ec) ns ++ X)) := hD
  refine vx_callv (vx_runV (As := [.int x]) (rest := []) ⟨hx, hb, hml, hown, hts⟩ (x_requireLabelOf l hlt dG cI cJ A xo tl ts bt se lb g gA n ec ns hn x w hw hne _) (cwV 1 hts gX3_entryHub_X3_requireLabelOf rfl rfl rfl (by decide +kernel) ⟨Nat.le_of_ble_eq_true rfl, Nat.le_of_ble_eq_true rfl⟩) (XPc.pre hPc hDc hK hTK hTH (va_recv hK.1 hPc (ci := 3) (q0 := 0) rfl rfl)) rfl rfl hl.1 rfl (lv_room (Nat.le_of_ble_eq_true rfl)) dX3_entryHub_2 ⟨Nat.le_of_ble_eq_true rfl, Nat.le_of_ble_eq_true rfl⟩) hS (fun q _ h => h) (fun q h => h) (fun q _ h => h.elim) (fun E ce q9 u t H1 locs1 ht hvm _ hB hz1 hk1 hS hce hcv hcl => ?_) (fun u t H1 locs1 ht hvm hf _ _ _ _ => hf.elim)
  obtain ⟨hE, hP1⟩ := hB
  exact vx_out (fun x hx => (htb x hx).elim) hlocks hce hcv hcl (fun t2 h2 hvm2 => ⟨(), trivial, ⟨hE, by rw [h2, ← ht]; exact hP1⟩, by rw [h2]; exact hz1, fun q h _ => by rw [h2]; exact hk1 q h id⟩) hS.2.2 (Nat.le_refl _) (Nat.le_refl _)

set_option maxHeartbeats 4000000 in
set_option maxRecDepth 100000 in
theorem x_entryDistance (l : Launch) (hlt : l.stackTraces = false) (dG : va_G) (cI cJ : ClassId) (A : Nat → Prop) (xo tl ts : Nat) (bt : Bool) (se lb : Nat) (g gA n ec : Nat) (ns : Nat → Int64) (hn : n ≤ 48) (x : Int32) (z : Int32) (w : Nat) (hw : wr x x n bt = w) (hne : ¬ w = 0) (X : va_W) : vx_Met l yX3_entryDistance wsX3_entryDistance ({ frames := 9, cells := 1, slots := 6, locals := 155 } : Room) (XPc dG cI cJ [.ref xo, .int x, .int z] (XW xo g lb se tl ts (bI bt) ++ (GW cJ g gA (nI n) (nI ec) ns ++ X)) A) (va_Qi (S := Unit) (fun _ _ => False) (fun _ _ => True) A) (XX dG (XN w) (XW xo g lb se tl ts (bI bt) ++ (GW cJ g gA (nI n) (nI ec) ns ++ X))) 1 6 A := by
  refine vx_ofW (cc := cX3_entryDistance) (maxL := 3) (ret := (some .int)) (by decide) rfl ?_
  intro p e s m args below meth c s₁ B9 hml htb hv
  obtain ⟨rfl, hP, hK, hD, hTK, hTH⟩ := hv
  have hx := B9.exec
  have hb := B9.bytes
  have hr := B9.returns
  have hts := atoms_spec (ws := wsX3_entryDistance) B9.pre
  have hown : s.vm.findClass RX3 = some m.cls := findClass_of_methodNamed B9.named
  have hlocks := B9.notSynchronized
  have hS : va_S A s.heap s.heap [] := va_S.rf
  have hl := lv_entry ([.ref xo, .int x, .int z]) (n := 3) (Nat.le_of_ble_eq_true rfl)
  rw [lg_entry_eq]
  generalize (lg_sl ([.ref xo, .int x, .int z]) ++ List.replicate (3 - (lg_sl ([.ref xo, .int x, .int z])).length) Slot.unset).toArray = ls at hl ⊢
  have hl : lv_has ls 3 [(0, .ref xo), (1, .int x), (2, .int z)] := hl
  have hiX3 : ∀ w ∈ wsX30, w ∈ wsX3_entryDistance := by decide +kernel
  have hf19 := hts (.fieldLink RX3 19 "LandmarkLea" "labels" "LLandmarkLea$Labels;") (by decide +kernel)
  refine lv_aload_n hx hb dX3_entryDistance_0 rfl (lv_at hl 0 rfl) ?_
  refine lv_iload_n hx hb dX3_entryDistance_1 rfl (lv_at hl 1 rfl) ?_
  have hPc : va_P dG vwCl (XW xo g lb se tl ts (bI bt) ++ (GW cJ g gA (nI n) (nI ec) ns ++ X)) s.heap := hP
  have hDc : va_D A (XW xo g lb se tl ts (bI bt) ++ (GW cJ g gA (nI n) (nI ec) ns ++ X)) := hD
  refine vx_callv (vx_runV (As := [.int x]) (rest := []) ⟨hx, hb, hml, hown, hts⟩ (x_requireLabelOf l hlt dG cI cJ A xo tl ts bt se lb g gA n ec ns hn x w hw hne _) (cwV 1 hts gX3_entryDistance_X3_requireLabelOf rfl rfl rfl (by decide +kernel) ⟨Nat.le_of_ble_eq_true rfl, Nat.le_of_ble_eq_true rfl⟩) (XPc.pre hPc hDc hK hTK hTH (va_recv hK.1 hPc (ci := 3) (q0 := 0) rfl rfl)) rfl rfl hl.1 rfl (lv_room (Nat.le_of_ble_eq_true rfl)) dX3_entryDistance_2 ⟨Nat.le_of_ble_eq_true rfl, Nat.le_of_ble_eq_true rfl⟩) hS (fun q _ h => h) (fun q h => h) (fun q _ h => h.elim) (fun E ce q9 u t H1 locs1 ht hvm _ hB hz1 hk1 hS hce hcv hcl => ?_) (fun u t H1 locs1 ht hvm hf _ _ _ _ => hf.elim)
  obtain ⟨hE, hP1⟩ := hB
  exact vx_out (fun x hx => (htb x hx).elim) hlocks hce hcv hcl (fun t2 h2 hvm2 => ⟨(), trivial, ⟨hE, by rw [h2, ← ht]; exact hP1⟩, by rw [h2]; exact hz1, fun q h _ => by rw [h2]; exact hk1 q h id⟩) hS.2.2 (Nat.le_refl _) (Nat.le_refl _)

set_option maxHeartbeats 4000000 in
set_option maxRecDepth 100000 in
theorem x_entryParent (l : Launch) (hlt : l.stackTraces = false) (dG : va_G) (cI cJ : ClassId) (A : Nat → Prop) (xo tl ts : Nat) (bt : Bool) (se lb : Nat) (g gA n ec : Nat) (ns : Nat → Int64) (hn : n ≤ 48) (x : Int32) (z : Int32) (w : Nat) (hw : wr x x n bt = w) (hne : ¬ w = 0) (X : va_W) : vx_Met l yX3_entryParent wsX3_entryParent ({ frames := 9, cells := 1, slots := 6, locals := 155 } : Room) (XPc dG cI cJ [.ref xo, .int x, .int z] (XW xo g lb se tl ts (bI bt) ++ (GW cJ g gA (nI n) (nI ec) ns ++ X)) A) (va_Qi (S := Unit) (fun _ _ => False) (fun _ _ => True) A) (XX dG (XN w) (XW xo g lb se tl ts (bI bt) ++ (GW cJ g gA (nI n) (nI ec) ns ++ X))) 1 6 A := by
  refine vx_ofW (cc := cX3_entryParent) (maxL := 3) (ret := (some .int)) (by decide) rfl ?_
  intro p e s m args below meth c s₁ B9 hml htb hv
  obtain ⟨rfl, hP, hK, hD, hTK, hTH⟩ := hv
  have hx := B9.exec
  have hb := B9.bytes
  have hr := B9.returns
  have hts := atoms_spec (ws := wsX3_entryParent) B9.pre
  have hown : s.vm.findClass RX3 = some m.cls := findClass_of_methodNamed B9.named
  have hlocks := B9.notSynchronized
  have hS : va_S A s.heap s.heap [] := va_S.rf
  have hl := lv_entry ([.ref xo, .int x, .int z]) (n := 3) (Nat.le_of_ble_eq_true rfl)
  rw [lg_entry_eq]
  generalize (lg_sl ([.ref xo, .int x, .int z]) ++ List.replicate (3 - (lg_sl ([.ref xo, .int x, .int z])).length) Slot.unset).toArray = ls at hl ⊢
  have hl : lv_has ls 3 [(0, .ref xo), (1, .int x), (2, .int z)] := hl
  have hiX3 : ∀ w ∈ wsX30, w ∈ wsX3_entryParent := by decide +kernel
  have hf19 := hts (.fieldLink RX3 19 "LandmarkLea" "labels" "LLandmarkLea$Labels;") (by decide +kernel)
  refine lv_aload_n hx hb dX3_entryParent_0 rfl (lv_at hl 0 rfl) ?_
  refine lv_iload_n hx hb dX3_entryParent_1 rfl (lv_at hl 1 rfl) ?_
  have hPc : va_P dG vwCl (XW xo g lb se tl ts (bI bt) ++ (GW cJ g gA (nI n) (nI ec) ns ++ X)) s.heap := hP
  have hDc : va_D A (XW xo g lb se tl ts (bI bt) ++ (GW cJ g gA (nI n) (nI ec) ns ++ X)) := hD
  refine vx_callv (vx_runV (As := [.int x]) (rest := []) ⟨hx, hb, hml, hown, hts⟩ (x_requireLabelOf l hlt dG cI cJ A xo tl ts bt se lb g gA n ec ns hn x w hw hne _) (cwV 1 hts gX3_entryParent_X3_requireLabelOf rfl rfl rfl (by decide +kernel) ⟨Nat.le_of_ble_eq_true rfl, Nat.le_of_ble_eq_true rfl⟩) (XPc.pre hPc hDc hK hTK hTH (va_recv hK.1 hPc (ci := 3) (q0 := 0) rfl rfl)) rfl rfl hl.1 rfl (lv_room (Nat.le_of_ble_eq_true rfl)) dX3_entryParent_2 ⟨Nat.le_of_ble_eq_true rfl, Nat.le_of_ble_eq_true rfl⟩) hS (fun q _ h => h) (fun q h => h) (fun q _ h => h.elim) (fun E ce q9 u t H1 locs1 ht hvm _ hB hz1 hk1 hS hce hcv hcl => ?_) (fun u t H1 locs1 ht hvm hf _ _ _ _ => hf.elim)
  obtain ⟨hE, hP1⟩ := hB
  exact vx_out (fun x hx => (htb x hx).elim) hlocks hce hcv hcl (fun t2 h2 hvm2 => ⟨(), trivial, ⟨hE, by rw [h2, ← ht]; exact hP1⟩, by rw [h2]; exact hz1, fun q h _ => by rw [h2]; exact hk1 q h id⟩) hS.2.2 (Nat.le_refl _) (Nat.le_refl _)

set_option maxHeartbeats 4000000 in
set_option maxRecDepth 100000 in
theorem x_within (l : Launch) (hlt : l.stackTraces = false) (dG : va_G) (cI cJ : ClassId) (A : Nat → Prop) (xo tl ts : Nat) (bt : Bool) (se lb : Nat) (g gA n ec : Nat) (ns : Nat → Int64) (hn : n ≤ 48) (x : Int32) (z : Int32) (w : Nat) (hw : wr x x n bt = w) (hne : ¬ w = 0) (X : va_W) : vx_Met l yX3_within wsX3_within ({ frames := 9, cells := 1, slots := 6, locals := 155 } : Room) (XPc dG cI cJ [.ref xo, .int x, .int z] (XW xo g lb se tl ts (bI bt) ++ (GW cJ g gA (nI n) (nI ec) ns ++ X)) A) (va_Ql (S := Unit) (fun _ _ => False) (fun _ _ => True) A) (XX dG (XN w) (XW xo g lb se tl ts (bI bt) ++ (GW cJ g gA (nI n) (nI ec) ns ++ X))) 1 6 A := by
  refine vx_ofW (cc := cX3_within) (maxL := 7) (ret := (some .long)) (by decide) rfl ?_
  intro p e s m args below meth c s₁ B9 hml htb hv
  obtain ⟨rfl, hP, hK, hD, hTK, hTH⟩ := hv
  have hx := B9.exec
  have hb := B9.bytes
  have hr := B9.returns
  have hts := atoms_spec (ws := wsX3_within) B9.pre
  have hown : s.vm.findClass RX3 = some m.cls := findClass_of_methodNamed B9.named
  have hlocks := B9.notSynchronized
  have hS : va_S A s.heap s.heap [] := va_S.rf
  have hl := lv_entry ([.ref xo, .int x, .int z]) (n := 7) (Nat.le_of_ble_eq_true rfl)
  rw [lg_entry_eq]
  generalize (lg_sl ([.ref xo, .int x, .int z]) ++ List.replicate (7 - (lg_sl ([.ref xo, .int x, .int z])).length) Slot.unset).toArray = ls at hl ⊢
  have hl : lv_has ls 7 [(0, .ref xo), (1, .int x), (2, .int z)] := hl
  have hiX3 : ∀ w ∈ wsX30, w ∈ wsX3_within := by decide +kernel
  have hf10 := hts (.fieldLink RX3 10 "LandmarkLea" "graph" "LLandmarkLea$Graph;") (by decide +kernel)
  have hf19 := hts (.fieldLink RX3 19 "LandmarkLea" "labels" "LLandmarkLea$Labels;") (by decide +kernel)
  refine lv_aload_n hx hb dX3_within_0 rfl (lv_at hl 0 rfl) ?_
  refine lv_iload_n hx hb dX3_within_1 rfl (lv_at hl 1 rfl) ?_
  have hPc : va_P dG vwCl (XW xo g lb se tl ts (bI bt) ++ (GW cJ g gA (nI n) (nI ec) ns ++ X)) s.heap := hP
  have hDc : va_D A (XW xo g lb se tl ts (bI bt) ++ (GW cJ g gA (nI n) (nI ec) ns ++ X)) := hD
  refine vx_callv (vx_runV (As := [.int x]) (rest := []) ⟨hx, hb, hml, hown, hts⟩ (x_requireLabelOf l hlt dG cI cJ A xo tl ts bt se lb g gA n ec ns hn x w hw hne _) (cwV 1 hts gX3_within_X3_requireLabelOf rfl rfl rfl (by decide +kernel) ⟨Nat.le_of_ble_eq_true rfl, Nat.le_of_ble_eq_true rfl⟩) (XPc.pre hPc hDc hK hTK hTH (va_recv hK.1 hPc (ci := 3) (q0 := 0) rfl rfl)) rfl rfl hl.1 rfl (lv_room (Nat.le_of_ble_eq_true rfl)) dX3_within_2 ⟨Nat.le_of_ble_eq_true rfl, Nat.le_of_ble_eq_true rfl⟩) hS (fun q _ h => h) (fun q h => h) (fun q _ h => h.elim) (fun E ce q9 u t H1 locs1 ht hvm _ hB hz1 hk1 hS hce hcv hcl => ?_) (fun u t H1 locs1 ht hvm hf _ _ _ _ => hf.elim)
  obtain ⟨hE, hP1⟩ := hB
  exact vx_out (fun x hx => (htb x hx).elim) hlocks hce hcv hcl (fun t2 h2 hvm2 => ⟨(), trivial, ⟨hE, by rw [h2, ← ht]; exact hP1⟩, by rw [h2]; exact hz1, fun q h _ => by rw [h2]; exact hk1 q h id⟩) hS.2.2 (Nat.le_refl _) (Nat.le_refl _)

set_option maxHeartbeats 4000000 in
set_option maxRecDepth 100000 in
theorem x_eccentricity (l : Launch) (hlt : l.stackTraces = false) (dG : va_G) (cI cJ : ClassId) (A : Nat → Prop) (xo tl ts : Nat) (bt : Bool) (se lb : Nat) (g gA n ec : Nat) (ns : Nat → Int64) (hn : n ≤ 48) (x : Int32) (w : Nat) (hw : wr x x n bt = w) (hne : ¬ w = 0) (X : va_W) : vx_Met l yX3_eccentricity wsX3_eccentricity ({ frames := 9, cells := 1, slots := 6, locals := 155 } : Room) (XPc dG cI cJ [.ref xo, .int x] (XW xo g lb se tl ts (bI bt) ++ (GW cJ g gA (nI n) (nI ec) ns ++ X)) A) (va_Qi (S := Unit) (fun _ _ => False) (fun _ _ => True) A) (XX dG (XN w) (XW xo g lb se tl ts (bI bt) ++ (GW cJ g gA (nI n) (nI ec) ns ++ X))) 1 6 A := by
  refine vx_ofW (cc := cX3_eccentricity) (maxL := 4) (ret := (some .int)) (by decide) rfl ?_
  intro p e s m args below meth c s₁ B9 hml htb hv
  obtain ⟨rfl, hP, hK, hD, hTK, hTH⟩ := hv
  have hx := B9.exec
  have hb := B9.bytes
  have hr := B9.returns
  have hts := atoms_spec (ws := wsX3_eccentricity) B9.pre
  have hown : s.vm.findClass RX3 = some m.cls := findClass_of_methodNamed B9.named
  have hlocks := B9.notSynchronized
  have hS : va_S A s.heap s.heap [] := va_S.rf
  have hl := lv_entry ([.ref xo, .int x]) (n := 4) (Nat.le_of_ble_eq_true rfl)
  rw [lg_entry_eq]
  generalize (lg_sl ([.ref xo, .int x]) ++ List.replicate (4 - (lg_sl ([.ref xo, .int x])).length) Slot.unset).toArray = ls at hl ⊢
  have hl : lv_has ls 4 [(0, .ref xo), (1, .int x)] := hl
  have hiX3 : ∀ w ∈ wsX30, w ∈ wsX3_eccentricity := by decide +kernel
  have hf10 := hts (.fieldLink RX3 10 "LandmarkLea" "graph" "LLandmarkLea$Graph;") (by decide +kernel)
  have hf19 := hts (.fieldLink RX3 19 "LandmarkLea" "labels" "LLandmarkLea$Labels;") (by decide +kernel)
  refine lv_aload_n hx hb dX3_eccentricity_0 rfl (lv_at hl 0 rfl) ?_
  refine lv_iload_n hx hb dX3_eccentricity_1 rfl (lv_at hl 1 rfl) ?_
  have hPc : va_P dG vwCl (XW xo g lb se tl ts (bI bt) ++ (GW cJ g gA (nI n) (nI ec) ns ++ X)) s.heap := hP
  have hDc : va_D A (XW xo g lb se tl ts (bI bt) ++ (GW cJ g gA (nI n) (nI ec) ns ++ X)) := hD
  refine vx_callv (vx_runV (As := [.int x]) (rest := []) ⟨hx, hb, hml, hown, hts⟩ (x_requireLabelOf l hlt dG cI cJ A xo tl ts bt se lb g gA n ec ns hn x w hw hne _) (cwV 1 hts gX3_eccentricity_X3_requireLabelOf rfl rfl rfl (by decide +kernel) ⟨Nat.le_of_ble_eq_true rfl, Nat.le_of_ble_eq_true rfl⟩) (XPc.pre hPc hDc hK hTK hTH (va_recv hK.1 hPc (ci := 3) (q0 := 0) rfl rfl)) rfl rfl hl.1 rfl (lv_room (Nat.le_of_ble_eq_true rfl)) dX3_eccentricity_2 ⟨Nat.le_of_ble_eq_true rfl, Nat.le_of_ble_eq_true rfl⟩) hS (fun q _ h => h) (fun q h => h) (fun q _ h => h.elim) (fun E ce q9 u t H1 locs1 ht hvm _ hB hz1 hk1 hS hce hcv hcl => ?_) (fun u t H1 locs1 ht hvm hf _ _ _ _ => hf.elim)
  obtain ⟨hE, hP1⟩ := hB
  exact vx_out (fun x hx => (htb x hx).elim) hlocks hce hcv hcl (fun t2 h2 hvm2 => ⟨(), trivial, ⟨hE, by rw [h2, ← ht]; exact hP1⟩, by rw [h2]; exact hz1, fun q h _ => by rw [h2]; exact hk1 q h id⟩) hS.2.2 (Nat.le_refl _) (Nat.le_refl _)

set_option maxHeartbeats 4000000 in
set_option maxRecDepth 100000 in
theorem x_distance (l : Launch) (hlt : l.stackTraces = false) (dG : va_G) (cI cJ : ClassId) (A : Nat → Prop) (xo tl ts : Nat) (bt : Bool) (se lb : Nat) (g gA n ec : Nat) (ns : Nat → Int64) (hn : n ≤ 48) (x y : Int32) (w : Nat) (hw : wr x y n bt = w) (hne : ¬ w = 0) (X : va_W) : vx_Met l yX3_distance wsX3_distance ({ frames := 8, cells := 1, slots := 6, locals := 134 } : Room) (XPc dG cI cJ [.ref xo, .int x, .int y] (XW xo g lb se tl ts (bI bt) ++ (GW cJ g gA (nI n) (nI ec) ns ++ X)) A) (va_Qi (S := Unit) (fun _ _ => False) (fun _ _ => True) A) (XX dG (XN w) (XW xo g lb se tl ts (bI bt) ++ (GW cJ g gA (nI n) (nI ec) ns ++ X))) 1 6 A := by
  refine vx_ofW (cc := cX3_distance) (maxL := 3) (ret := (some .int)) (by decide) rfl ?_
  intro p e s m args below meth c s₁ B9 hml htb hv
  obtain ⟨rfl, hP, hK, hD, hTK, hTH⟩ := hv
  have hx := B9.exec
  have hb := B9.bytes
  have hr := B9.returns
  have hts := atoms_spec (ws := wsX3_distance) B9.pre
  have hown : s.vm.findClass RX3 = some m.cls := findClass_of_methodNamed B9.named
  have hlocks := B9.notSynchronized
  have hS : va_S A s.heap s.heap [] := va_S.rf
  have hl := lv_entry ([.ref xo, .int x, .int y]) (n := 3) (Nat.le_of_ble_eq_true rfl)
  rw [lg_entry_eq]
  generalize (lg_sl ([.ref xo, .int x, .int y]) ++ List.replicate (3 - (lg_sl ([.ref xo, .int x, .int y])).length) Slot.unset).toArray = ls at hl ⊢
  have hl : lv_has ls 3 [(0, .ref xo), (1, .int x), (2, .int y)] := hl
  have hiX3 : ∀ w ∈ wsX30, w ∈ wsX3_distance := by decide +kernel
  have hf19 := hts (.fieldLink RX3 19 "LandmarkLea" "labels" "LLandmarkLea$Labels;") (by decide +kernel)
  refine lv_aload_n hx hb dX3_distance_0 rfl (lv_at hl 0 rfl) ?_
  refine lv_iload_n hx hb dX3_distance_1 rfl (lv_at hl 1 rfl) ?_
  refine lv_iload_n hx hb dX3_distance_2 rfl (lv_at hl 2 rfl) ?_
  have hPc : va_P dG vwCl (XW xo g lb se tl ts (bI bt) ++ (GW cJ g gA (nI n) (nI ec) ns ++ X)) s.heap := hP
  have hDc : va_D A (XW xo g lb se tl ts (bI bt) ++ (GW cJ g gA (nI n) (nI ec) ns ++ X)) := hD
  refine vx_callv (vx_runV (As := [.int x, .int y]) (rest := []) ⟨hx, hb, hml, hown, hts⟩ (x_requireLabelsOf l hlt dG cI cJ A xo tl ts bt se lb g gA n ec ns hn x y w hw hne _) (cwV 2 hts gX3_distance_X3_requireLabelsOf rfl rfl rfl (by decide +kernel) ⟨Nat.le_of_ble_eq_true rfl, Nat.le_of_ble_eq_true rfl⟩) (XPc.pre hPc hDc hK hTK hTH (va_recv hK.1 hPc (ci := 3) (q0 := 0) rfl rfl)) rfl rfl hl.1 rfl (lv_room (Nat.le_of_ble_eq_true rfl)) dX3_distance_3 ⟨Nat.le_of_ble_eq_true rfl, Nat.le_of_ble_eq_true rfl⟩) hS (fun q _ h => h) (fun q h => h) (fun q _ h => h.elim) (fun E ce q9 u t H1 locs1 ht hvm _ hB hz1 hk1 hS hce hcv hcl => ?_) (fun u t H1 locs1 ht hvm hf _ _ _ _ => hf.elim)
  obtain ⟨hE, hP1⟩ := hB
  exact vx_out (fun x hx => (htb x hx).elim) hlocks hce hcv hcl (fun t2 h2 hvm2 => ⟨(), trivial, ⟨hE, by rw [h2, ← ht]; exact hP1⟩, by rw [h2]; exact hz1, fun q h _ => by rw [h2]; exact hk1 q h id⟩) hS.2.2 (Nat.le_refl _) (Nat.le_refl _)

set_option maxHeartbeats 4000000 in
set_option maxRecDepth 100000 in
theorem x_hub (l : Launch) (hlt : l.stackTraces = false) (dG : va_G) (cI cJ : ClassId) (A : Nat → Prop) (xo tl ts : Nat) (bt : Bool) (se lb : Nat) (g gA n ec : Nat) (ns : Nat → Int64) (hn : n ≤ 48) (x y : Int32) (w : Nat) (hw : wr x y n bt = w) (hne : ¬ w = 0) (X : va_W) : vx_Met l yX3_hub wsX3_hub ({ frames := 8, cells := 1, slots := 6, locals := 134 } : Room) (XPc dG cI cJ [.ref xo, .int x, .int y] (XW xo g lb se tl ts (bI bt) ++ (GW cJ g gA (nI n) (nI ec) ns ++ X)) A) (va_Qi (S := Unit) (fun _ _ => False) (fun _ _ => True) A) (XX dG (XN w) (XW xo g lb se tl ts (bI bt) ++ (GW cJ g gA (nI n) (nI ec) ns ++ X))) 1 6 A := by
  refine vx_ofW (cc := cX3_hub) (maxL := 3) (ret := (some .int)) (by decide) rfl ?_
  intro p e s m args below meth c s₁ B9 hml htb hv
  obtain ⟨rfl, hP, hK, hD, hTK, hTH⟩ := hv
  have hx := B9.exec
  have hb := B9.bytes
  have hr := B9.returns
  have hts := atoms_spec (ws := wsX3_hub) B9.pre
  have hown : s.vm.findClass RX3 = some m.cls := findClass_of_methodNamed B9.named
  have hlocks := B9.notSynchronized
  have hS : va_S A s.heap s.heap [] := va_S.rf
  have hl := lv_entry ([.ref xo, .int x, .int y]) (n := 3) (Nat.le_of_ble_eq_true rfl)
  rw [lg_entry_eq]
  generalize (lg_sl ([.ref xo, .int x, .int y]) ++ List.replicate (3 - (lg_sl ([.ref xo, .int x, .int y])).length) Slot.unset).toArray = ls at hl ⊢
  have hl : lv_has ls 3 [(0, .ref xo), (1, .int x), (2, .int y)] := hl
  have hiX3 : ∀ w ∈ wsX30, w ∈ wsX3_hub := by decide +kernel
  have hf19 := hts (.fieldLink RX3 19 "LandmarkLea" "labels" "LLandmarkLea$Labels;") (by decide +kernel)
  refine lv_aload_n hx hb dX3_hub_0 rfl (lv_at hl 0 rfl) ?_
  refine lv_iload_n hx hb dX3_hub_1 rfl (lv_at hl 1 rfl) ?_
  refine lv_iload_n hx hb dX3_hub_2 rfl (lv_at hl 2 rfl) ?_
  have hPc : va_P dG vwCl (XW xo g lb se tl ts (bI bt) ++ (GW cJ g gA (nI n) (nI ec) ns ++ X)) s.heap := hP
  have hDc : va_D A (XW xo g lb se tl ts (bI bt) ++ (GW cJ g gA (nI n) (nI ec) ns ++ X)) := hD
  refine vx_callv (vx_runV (As := [.int x, .int y]) (rest := []) ⟨hx, hb, hml, hown, hts⟩ (x_requireLabelsOf l hlt dG cI cJ A xo tl ts bt se lb g gA n ec ns hn x y w hw hne _) (cwV 2 hts gX3_hub_X3_requireLabelsOf rfl rfl rfl (by decide +kernel) ⟨Nat.le_of_ble_eq_true rfl, Nat.le_of_ble_eq_true rfl⟩) (XPc.pre hPc hDc hK hTK hTH (va_recv hK.1 hPc (ci := 3) (q0 := 0) rfl rfl)) rfl rfl hl.1 rfl (lv_room (Nat.le_of_ble_eq_true rfl)) dX3_hub_3 ⟨Nat.le_of_ble_eq_true rfl, Nat.le_of_ble_eq_true rfl⟩) hS (fun q _ h => h) (fun q h => h) (fun q _ h => h.elim) (fun E ce q9 u t H1 locs1 ht hvm _ hB hz1 hk1 hS hce hcv hcl => ?_) (fun u t H1 locs1 ht hvm hf _ _ _ _ => hf.elim)
  obtain ⟨hE, hP1⟩ := hB
  exact vx_out (fun x hx => (htb x hx).elim) hlocks hce hcv hcl (fun t2 h2 hvm2 => ⟨(), trivial, ⟨hE, by rw [h2, ← ht]; exact hP1⟩, by rw [h2]; exact hz1, fun q h _ => by rw [h2]; exact hk1 q h id⟩) hS.2.2 (Nat.le_refl _) (Nat.le_refl _)

set_option maxHeartbeats 4000000 in
set_option maxRecDepth 100000 in
theorem x_pathVertex (l : Launch) (hlt : l.stackTraces = false) (dG : va_G) (cI cJ : ClassId) (A : Nat → Prop) (xo tl ts : Nat) (bt : Bool) (se lb : Nat) (g gA n ec : Nat) (ns : Nat → Int64) (hn : n ≤ 48) (x y : Int32) (z : Int32) (w : Nat) (hw : wr x y n bt = w) (hne : ¬ w = 0) (X : va_W) : vx_Met l yX3_pathVertex wsX3_pathVertex ({ frames := 8, cells := 1, slots := 6, locals := 134 } : Room) (XPc dG cI cJ [.ref xo, .int x, .int y, .int z] (XW xo g lb se tl ts (bI bt) ++ (GW cJ g gA (nI n) (nI ec) ns ++ X)) A) (va_Qi (S := Unit) (fun _ _ => False) (fun _ _ => True) A) (XX dG (XN w) (XW xo g lb se tl ts (bI bt) ++ (GW cJ g gA (nI n) (nI ec) ns ++ X))) 1 6 A := by
  refine vx_ofW (cc := cX3_pathVertex) (maxL := 4) (ret := (some .int)) (by decide) rfl ?_
  intro p e s m args below meth c s₁ B9 hml htb hv
  obtain ⟨rfl, hP, hK, hD, hTK, hTH⟩ := hv
  have hx := B9.exec
  have hb := B9.bytes
  have hr := B9.returns
  have hts := atoms_spec (ws := wsX3_pathVertex) B9.pre
  have hown : s.vm.findClass RX3 = some m.cls := findClass_of_methodNamed B9.named
  have hlocks := B9.notSynchronized
  have hS : va_S A s.heap s.heap [] := va_S.rf
  have hl := lv_entry ([.ref xo, .int x, .int y, .int z]) (n := 4) (Nat.le_of_ble_eq_true rfl)
  rw [lg_entry_eq]
  generalize (lg_sl ([.ref xo, .int x, .int y, .int z]) ++ List.replicate (4 - (lg_sl ([.ref xo, .int x, .int y, .int z])).length) Slot.unset).toArray = ls at hl ⊢
  have hl : lv_has ls 4 [(0, .ref xo), (1, .int x), (2, .int y), (3, .int z)] := hl
  have hiX3 : ∀ w ∈ wsX30, w ∈ wsX3_pathVertex := by decide +kernel
  have hf19 := hts (.fieldLink RX3 19 "LandmarkLea" "labels" "LLandmarkLea$Labels;") (by decide +kernel)
  refine lv_aload_n hx hb dX3_pathVertex_0 rfl (lv_at hl 0 rfl) ?_
  refine lv_iload_n hx hb dX3_pathVertex_1 rfl (lv_at hl 1 rfl) ?_
  refine lv_iload_n hx hb dX3_pathVertex_2 rfl (lv_at hl 2 rfl) ?_
  have hPc : va_P dG vwCl (XW xo g lb se tl ts (bI bt) ++ (GW cJ g gA (nI n) (nI ec) ns ++ X)) s.heap := hP
  have hDc : va_D A (XW xo g lb se tl ts (bI bt) ++ (GW cJ g gA (nI n) (nI ec) ns ++ X)) := hD
  refine vx_callv (vx_runV (As := [.int x, .int y]) (rest := []) ⟨hx, hb, hml, hown, hts⟩ (x_requireLabelsOf l hlt dG cI cJ A xo tl ts bt se lb g gA n ec ns hn x y w hw hne _) (cwV 2 hts gX3_pathVertex_X3_requireLabelsOf rfl rfl rfl (by decide +kernel) ⟨Nat.le_of_ble_eq_true rfl, Nat.le_of_ble_eq_true rfl⟩) (XPc.pre hPc hDc hK hTK hTH (va_recv hK.1 hPc (ci := 3) (q0 := 0) rfl rfl)) rfl rfl hl.1 rfl (lv_room (Nat.le_of_ble_eq_true rfl)) dX3_pathVertex_3 ⟨Nat.le_of_ble_eq_true rfl, Nat.le_of_ble_eq_true rfl⟩) hS (fun q _ h => h) (fun q h => h) (fun q _ h => h.elim) (fun E ce q9 u t H1 locs1 ht hvm _ hB hz1 hk1 hS hce hcv hcl => ?_) (fun u t H1 locs1 ht hvm hf _ _ _ _ => hf.elim)
  obtain ⟨hE, hP1⟩ := hB
  exact vx_out (fun x hx => (htb x hx).elim) hlocks hce hcv hcl (fun t2 h2 hvm2 => ⟨(), trivial, ⟨hE, by rw [h2, ← ht]; exact hP1⟩, by rw [h2]; exact hz1, fun q h _ => by rw [h2]; exact hk1 q h id⟩) hS.2.2 (Nat.le_refl _) (Nat.le_refl _)

