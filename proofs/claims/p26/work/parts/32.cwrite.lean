/-! the class's writers, where they don't throw -/
set_option maxHeartbeats 4000000 in
set_option maxRecDepth 100000 in
theorem c_appendU (l : Launch) (dG : va_G) (cI cJ : ClassId) (A : Nat → Prop) (xo tl ts : Nat) (bt : Bool) (se : Nat) (g gA n ec : Nat) (ns : Nat → Int64) (lb aR aV aH aD aP : Nat) (rk vb : Nat → Int32) (rc : Int32) (hs : Nat → Int64) (D Pp : Nat → Int32) (hn : n < 48) (hbt : bt = false) (X : va_W) : Met l yX3_appendVertex wsX3_appendVertex ({ frames := 1, cells := 0, slots := 0, locals := 21 } : Room) (WPc dG cI cJ [.ref xo] (XW xo g lb se tl ts (bI bt) ++ (GW cJ g gA (nI n) (nI ec) ns ++ (LW cI cJ lb aR aV aH aD aP rk vb rc hs D Pp ++ X))) A) (va_Qi (S := Unit) (fun r _ => r = nI n) (fun _ => WB dG A (XW xo g lb se tl ts (bI bt) ++ (GW cJ g gA (nI (n + 1)) (nI ec) ns ++ (LW cI cJ lb aR aV aH aD aP rk vb rc hs D Pp ++ X)))) A) 0 0 A := by
  refine Met.ofW (cc := cX3_appendVertex) (maxL := 2) (ret := (some .int)) (by decide) rfl ?_
  intro p e s m args below meth c s₁ B9 hml hv
  obtain ⟨rfl, hP, hK, hD⟩ := hv
  have hx := B9.exec
  have hb := B9.bytes
  have hr := B9.returns
  have hts := atoms_spec (ws := wsX3_appendVertex) B9.pre
  have hown : s.vm.findClass RX3 = some m.cls := findClass_of_methodNamed B9.named
  have hlocks := B9.notSynchronized
  have hS : va_S A s.heap s.heap [] := va_S.rf
  have hl := lv_entry ([.ref xo]) (n := 2) (Nat.le_of_ble_eq_true rfl)
  rw [lg_entry_eq]
  generalize (lg_sl ([.ref xo]) ++ List.replicate (2 - (lg_sl ([.ref xo])).length) Slot.unset).toArray = ls at hl ⊢
  have hl : lv_has ls 2 [(0, .ref xo)] := hl
  have hiX3 : ∀ w ∈ wsX30, w ∈ wsX3_appendVertex := by decide +kernel
  have hf10 := hts (.fieldLink RX3 10 "LandmarkLea" "graph" "LLandmarkLea$Graph;") (by decide +kernel)
  have hf19 := hts (.fieldLink RX3 19 "LandmarkLea" "labels" "LLandmarkLea$Labels;") (by decide +kernel)
  have hf38 := hts (.fieldLink RX3 38 "LandmarkLea" "labelled" "Z") (by decide +kernel)
  refine lv_aload_n hx hb dX3_appendVertex_0 rfl (lv_at hl 0 rfl) ?_
  refine va_get (D := dG) (ci := 3) (v := .ref g) (C := RX3) (T := TX3) (N := 6) hx hb hts hiX3 hown hK.1 hP 0 rfl rfl 0 (by decide) hf10 (fun _ h9 => h9) rfl dX3_appendVertex_1 ?_
  have hPc : va_P dG vwCl (GW cJ g gA (nI n) (nI ec) ns ++ (XW xo g lb se tl ts (bI bt) ++ (LW cI cJ lb aR aV aH aD aP rk vb rc hs D Pp ++ X))) s.heap := va_P.perm hP (List.perm_append_comm_assoc _ _ _)
  have hDc : va_D A (GW cJ g gA (nI n) (nI ec) ns ++ (XW xo g lb se tl ts (bI bt) ++ (LW cI cJ lb aR aV aH aD aP rk vb rc hs D Pp ++ X))) := va_D.perm hD (List.perm_append_comm_assoc _ _ _)
  refine va_calli (va_runV (As := []) (rest := []) ⟨hx, hb, hml, hown, hts⟩ (c_grow l dG cI cJ A g gA n ec ns (by omega) _) (cwV 0 hts gX3_appendVertex_X0_grow rfl rfl rfl (by decide +kernel) ⟨Nat.le_of_ble_eq_true rfl, Nat.le_of_ble_eq_true rfl⟩) (WPc.pre hPc hDc hK (va_recv hK.1 hPc (ci := 0) (q0 := 0) rfl rfl)) rfl rfl hl.1 rfl (lv_room (Nat.le_of_ble_eq_true rfl)) dX3_appendVertex_4 ⟨Nat.zero_le _, Nat.zero_le _⟩) hS (fun q _ h => h) (fun q h => h) (fun r9 u9 t H locs ht hvm hw hB hz1 hk1 hS => ?_)
  obtain ⟨hP, hD⟩ := hB
  rw [ht] at hP
  have hP : va_P dG vwCl (GW cJ g gA (nI (n + 1)) (nI ec) ns ++ (XW xo g lb se tl ts (bI bt) ++ (LW cI cJ lb aR aV aH aD aP rk vb rc hs D Pp ++ X))) H := hP
  have hD : va_D A (GW cJ g gA (nI (n + 1)) (nI ec) ns ++ (XW xo g lb se tl ts (bI bt) ++ (LW cI cJ lb aR aV aH aD aP rk vb rc hs D Pp ++ X))) := hD
  have hP : va_P dG vwCl (XW xo g lb se tl ts (bI bt) ++ (GW cJ g gA (nI (n + 1)) (nI ec) ns ++ (LW cI cJ lb aR aV aH aD aP rk vb rc hs D Pp ++ X))) H := va_P.perm hP (List.perm_append_comm_assoc _ _ _)
  have hD : va_D A (XW xo g lb se tl ts (bI bt) ++ (GW cJ g gA (nI (n + 1)) (nI ec) ns ++ (LW cI cJ lb aR aV aH aD aP rk vb rc hs D Pp ++ X))) := va_D.perm hD (List.perm_append_comm_assoc _ _ _)
  rw [show r9 = nI n from hw]
  refine lv_istore_n (lv' := [(1, .int (nI n)), (0, .ref xo)]) hx hb dX3_appendVertex_7 rfl hl (by decide) rfl (fun ls hl => ?_)
  refine lv_aload_n hx hb dX3_appendVertex_8 rfl (lv_at hl 1 rfl) ?_
  refine va_get (D := dG) (ci := 3) (v := .int (bI bt)) (C := RX3) (T := TX3) (N := 6) hx hb hts hiX3 hown hK.1 hP 0 rfl rfl 5 (by decide) hf38 (fun _ h9 => h9) rfl dX3_appendVertex_9 ?_
  refine x_ifeqB (tgt := 41) hx hb dX3_appendVertex_12 (by decide) (fun c12 => ?_) (fun c12 => ?_)
  · skip
    refine lv_iload_n hx hb dX3_appendVertex_41 rfl (lv_at hl 0 rfl) ?_
    exact W.iret (v := (nI n)) hx hb hr (fun t ht hW => ⟨⟨_, (), rfl, rfl, by rw [ht]; exact hP, hD⟩, hS.F ht⟩) hS.2.2 dX3_appendVertex_42
  · skip
    rw [hbt] at c12; cases c12

set_option maxHeartbeats 4000000 in
set_option maxRecDepth 100000 in
theorem c_addVerticesU (l : Launch) (dG : va_G) (cI cJ : ClassId) (A : Nat → Prop) (xo tl ts : Nat) (bt : Bool) (se : Nat) (g gA n ec : Nat) (ns : Nat → Int64) (lb aR aV aH aD aP : Nat) (rk vb : Nat → Int32) (rc : Int32) (hs : Nat → Int64) (D Pp : Nat → Int32) (c0 : Nat) (hc1 : 1 ≤ c0) (hc2 : n + c0 ≤ 48) (hbt : bt = false) (X : va_W) : Met l yX3_addVertices wsX3_addVertices ({ frames := 2, cells := 0, slots := 0, locals := 42 } : Room) (WPc dG cI cJ [.ref xo, .int (nI c0)] (XW xo g lb se tl ts (bI bt) ++ (GW cJ g gA (nI n) (nI ec) ns ++ (LW cI cJ lb aR aV aH aD aP rk vb rc hs D Pp ++ X))) A) (va_Qi (S := Unit) (fun r _ => r = nI (n + c0)) (fun _ => WB dG A (XW xo g lb se tl ts (bI bt) ++ (GW cJ g gA (nI (n + c0)) (nI ec) ns ++ (LW cI cJ lb aR aV aH aD aP rk vb rc hs D Pp ++ X)))) A) 0 0 A := by
  refine Met.ofW (cc := cX3_addVertices) (maxL := 3) (ret := (some .int)) (by decide) rfl ?_
  intro p e s m args below meth c s₁ B9 hml hv
  obtain ⟨rfl, hP, hK, hD⟩ := hv
  have hx := B9.exec
  have hb := B9.bytes
  have hr := B9.returns
  have hts := atoms_spec (ws := wsX3_addVertices) B9.pre
  have hown : s.vm.findClass RX3 = some m.cls := findClass_of_methodNamed B9.named
  have hlocks := B9.notSynchronized
  have hS : va_S A s.heap s.heap [] := va_S.rf
  have hl := lv_entry ([.ref xo, .int (nI c0)]) (n := 3) (Nat.le_of_ble_eq_true rfl)
  rw [lg_entry_eq]
  generalize (lg_sl ([.ref xo, .int (nI c0)]) ++ List.replicate (3 - (lg_sl ([.ref xo, .int (nI c0)])).length) Slot.unset).toArray = ls at hl ⊢
  have hl : lv_has ls 3 [(0, .ref xo), (1, .int (nI c0))] := hl
  have hiX3 : ∀ w ∈ wsX30, w ∈ wsX3_addVertices := by decide +kernel
  have hf10 := hts (.fieldLink RX3 10 "LandmarkLea" "graph" "LLandmarkLea$Graph;") (by decide +kernel)
  refine lv_iload_n hx hb dX3_addVertices_0 rfl (lv_at hl 1 rfl) ?_
  refine lv_iconst (v := (nI 1)) hx hb dX3_addVertices_1 (by decide) ?_
  refine x_icmp_ltN (i := c0) (j := 1) (tgt := 11) hx hb (by omega) (by omega) dX3_addVertices_2 (by decide) (fun c2 => ?_) (fun c2 => ?_)
  · skip
    exact absurd c2 (by omega)
  · skip
    refine lv_iload_n hx hb dX3_addVertices_5 rfl (lv_at hl 1 rfl) ?_
    refine lv_bipush (v := (nI 48)) hx hb dX3_addVertices_6 (by decide) ?_
    refine x_icmp_leN (i := c0) (j := 48) (tgt := 21) hx hb (by omega) (by omega) dX3_addVertices_8 (by decide) (fun c8 => ?_) (fun c8 => ?_)
    · skip
      refine lv_aload_n hx hb dX3_addVertices_21 rfl (lv_at hl 0 rfl) ?_
      refine lv_iload_n hx hb dX3_addVertices_22 rfl (lv_at hl 1 rfl) ?_
      have hPc := hP.sub (ws' := (XW xo g lb se tl ts (bI bt) ++ (GW cJ g gA (nI n) (nI ec) ns ++ (LW cI cJ lb aR aV aH aD aP rk vb rc hs D Pp)))) [0, 1, 2, 3, 4, 5, 6, 7, 8] rfl
      refine x_rv (W.runV (As := [.int (nI c0)]) (rest := []) ⟨hx, hb, hml, hown, hts⟩ (c_requireRoomFor l dG cI cJ xo tl ts bt se g gA n ec ns lb aR aV aH aD aP rk vb rc hs D Pp (by omega) c0 (by omega)) (cwV 1 hts gX3_addVertices_X3_requireRoomFor rfl rfl rfl (by decide +kernel) ⟨Nat.le_of_ble_eq_true rfl, Nat.le_of_ble_eq_true rfl⟩) (RPc.pre hPc hK (va_recv hK.1 hPc (ci := 3) (q0 := 0) rfl rfl)) rfl rfl hl.1 rfl (lv_room (Nat.le_of_ble_eq_true rfl)) dX3_addVertices_23 ⟨Nat.zero_le _, Nat.zero_le _⟩) ?_
      refine lv_iconst (v := (nI 0)) hx hb dX3_addVertices_26 (by decide) ?_
      refine lv_istore_n (lv' := [(2, .int (nI 0)), (0, .ref xo), (1, .int (nI c0))]) hx hb dX3_addVertices_27 rfl hl (by decide) rfl (fun ls hl => ?_)
      have loop : ∀ (QQ : State → Prop) (n1 : Nat) (k : Nat), c0 < k + n1 → k ≤ c0 → (∀ (H : Heap) (locs : List Loc), va_P dG vwCl (XW xo g lb se tl ts (bI bt) ++ (GW cJ g gA (nI (n + c0)) (nI ec) ns ++ (LW cI cJ lb aR aV aH aD aP rk vb rc hs D Pp ++ X))) H → va_D A (XW xo g lb se tl ts (bI bt) ++ (GW cJ g gA (nI (n + c0)) (nI ec) ns ++ (LW cI cJ lb aR aV aH aD aP rk vb rc hs D Pp ++ X))) → va_S A s.heap H locs → ∀ ls : Array Slot, lv_has ls 3 [(0, .ref xo), (1, .int (nI c0)), (2, .int (nI c0))] → W p l e ({ frames := 2, cells := 0, slots := 0, locals := 42 } : Room) s m ([.ref xo, .int (nI c0)] : List Value).toArray below meth c H locs 0 0 QQ (F0 m 44 ls [])) → ∀ (H : Heap) (locs : List Loc), va_P dG vwCl (XW xo g lb se tl ts (bI bt) ++ (GW cJ g gA (nI (n + k)) (nI ec) ns ++ (LW cI cJ lb aR aV aH aD aP rk vb rc hs D Pp ++ X))) H → va_D A (XW xo g lb se tl ts (bI bt) ++ (GW cJ g gA (nI (n + k)) (nI ec) ns ++ (LW cI cJ lb aR aV aH aD aP rk vb rc hs D Pp ++ X))) → va_S A s.heap H locs → ∀ ls : Array Slot, lv_has ls 3 [(0, .ref xo), (1, .int (nI c0)), (2, .int (nI k))] → W p l e ({ frames := 2, cells := 0, slots := 0, locals := 42 } : Room) s m ([.ref xo, .int (nI c0)] : List Value).toArray below meth c H locs 0 0 QQ (F0 m 28 ls []) := by
        intro QQ n1
        induction n1 with
        | zero => intro k h1 h2; exact absurd h1 (by omega)
        | succ n1 ih =>
          intro k h1 h2 kx H locs hP hD hS ls hl
          refine lv_iload_n hx hb dX3_addVertices_28 rfl (lv_at hl 2 rfl) ?_
          refine lv_iload_n hx hb dX3_addVertices_29 rfl (lv_at hl 1 rfl) ?_
          refine x_icmp_geN (i := k) (j := c0) (tgt := 44) hx hb (by omega) (by omega) dX3_addVertices_30 (by decide) (fun c30 => ?_) (fun c30 => ?_)
          · skip
            have ek : k = c0 := by omega
            subst ek
            exact kx  H locs hP hD hS ls (lv_sub hl [0, 1, 2] rfl)
          · skip
            refine lv_aload_n hx hb dX3_addVertices_33 rfl (lv_at hl 0 rfl) ?_
            have hPc : va_P dG vwCl (XW xo g lb se tl ts (bI bt) ++ (GW cJ g gA (nI (n + k)) (nI ec) ns ++ (LW cI cJ lb aR aV aH aD aP rk vb rc hs D Pp ++ X))) H := hP
            have hDc : va_D A (XW xo g lb se tl ts (bI bt) ++ (GW cJ g gA (nI (n + k)) (nI ec) ns ++ (LW cI cJ lb aR aV aH aD aP rk vb rc hs D Pp ++ X))) := hD
            refine va_calli (va_runV (As := []) (rest := []) ⟨hx, hb, hml, hown, hts⟩ (c_appendU l dG cI cJ A xo tl ts bt se g gA (n + k) ec ns lb aR aV aH aD aP rk vb rc hs D Pp (by omega) hbt _) (cwV 0 hts gX3_addVertices_X3_appendVertex rfl rfl rfl (by decide +kernel) ⟨Nat.le_of_ble_eq_true rfl, Nat.le_of_ble_eq_true rfl⟩) (WPc.pre hPc hDc hK (va_recv hK.1 hPc (ci := 3) (q0 := 0) rfl rfl)) rfl rfl hl.1 rfl (lv_room (Nat.le_of_ble_eq_true rfl)) dX3_addVertices_34 ⟨Nat.zero_le _, Nat.zero_le _⟩) hS (fun q _ h => h) (fun q h => h) (fun r9 u9 t H locs ht hvm hw hB hz1 hk1 hS => ?_)
            obtain ⟨hP, hD⟩ := hB
            rw [ht] at hP
            have hP : va_P dG vwCl (XW xo g lb se tl ts (bI bt) ++ (GW cJ g gA (nI (n + (k + 1))) (nI ec) ns ++ (LW cI cJ lb aR aV aH aD aP rk vb rc hs D Pp ++ X))) H := hP
            have hD : va_D A (XW xo g lb se tl ts (bI bt) ++ (GW cJ g gA (nI (n + (k + 1))) (nI ec) ns ++ (LW cI cJ lb aR aV aH aD aP rk vb rc hs D Pp ++ X))) := hD
            refine lv_pop hx hb dX3_addVertices_37 rfl ?_
            refine x_iincN (lv' := [(2, .int (nI (k + 1))), (0, .ref xo), (1, .int (nI c0))]) hx hb dX3_addVertices_38 hl (k := 2) rfl (by decide) rfl (fun ls hl => ?_)
            refine lv_goto (tgt := 28) hx hb dX3_addVertices_41 (by decide) ?_
            exact ih (k + 1) (by omega) (by omega) kx H locs hP hD hS ls (lv_sub hl [1, 2, 0] rfl)
      refine loop _ 49 0 (by omega) (by omega) (fun  H locs hP hD hS ls hl => ?_) s.heap [] hP hD hS ls (lv_sub hl [1, 2, 0] rfl)
      refine lv_aload_n hx hb dX3_addVertices_44 rfl (lv_at hl 0 rfl) ?_
      refine va_get (D := dG) (ci := 3) (v := .ref g) (C := RX3) (T := TX3) (N := 6) hx hb hts hiX3 hown hK.1 hP 0 rfl rfl 0 (by decide) hf10 (fun _ h9 => h9) rfl dX3_addVertices_45 ?_
      have hPc := hP.sub (ws' := (GW cJ g gA (nI (n + c0)) (nI ec) ns)) [1, 2] rfl
      refine x_ri (W.runV (As := []) (rest := []) ⟨hx, hb, hml, hown, hts⟩ (c_size l dG cI cJ g gA (n + c0) ec ns) (cwV 0 hts gX3_addVertices_X0_size rfl rfl rfl (by decide +kernel) ⟨Nat.le_of_ble_eq_true rfl, Nat.le_of_ble_eq_true rfl⟩) (RPc.pre hPc hK (va_recv hK.1 hPc (ci := 0) (q0 := 0) rfl rfl)) rfl rfl hl.1 rfl (lv_room (Nat.le_of_ble_eq_true rfl)) dX3_addVertices_48 ⟨Nat.zero_le _, Nat.zero_le _⟩) ?_
      exact W.iret (v := (nI (n + c0))) hx hb hr (fun t ht hW => ⟨⟨_, (), rfl, rfl, by rw [ht]; exact hP, hD⟩, hS.F ht⟩) hS.2.2 dX3_addVertices_51
    · skip
      exact absurd c8 (by omega)

set_option maxHeartbeats 4000000 in
set_option maxRecDepth 100000 in
theorem c_clear (l : Launch) (dG : va_G) (cI cJ : ClassId) (A : Nat → Prop) (qa qb qc : Nat) (qv qd qp : Nat → Int32) (ql : Int32) (qs : Int64) (vi pr wr : Int32) (xo tl ts : Nat) (bt : Bool) (se : Nat) (g gA n ec : Nat) (ns : Nat → Int64) (lb aR aV aH aD aP : Nat) (rk vb : Nat → Int32) (rc : Int32) (hs : Nat → Int64) (D Pp : Nat → Int32) (X : va_W) : Met l yX3_clear wsX3_clear ({ frames := 1, cells := 0, slots := 0, locals := 21 } : Room) (WPc dG cI cJ [.ref xo] (XW xo g lb se tl ts (bI bt) ++ (SW cI g lb se qa qb qc qv qd qp ql qs vi pr wr ++ (GW cJ g gA (nI n) (nI ec) ns ++ (LW cI cJ lb aR aV aH aD aP rk vb rc hs D Pp ++ X)))) A) (va_Qi (S := Unit) (fun r _ => r = nI ec) (fun _ => WB dG A (XW xo g lb se tl ts (bI false) ++ (SW cI g lb se qa qb qc qv qd qp ql qs (nI 0) (nI 0) (nI 0) ++ (GW cJ g gA (nI n) (nI 0) (cut0 ns 48) ++ (LW cI cJ lb aR aV aH aD aP rk vb (nI 0) (cut0 hs 48) D Pp ++ X))))) A) 0 0 A := by
  refine Met.ofW (cc := cX3_clear) (maxL := 2) (ret := (some .int)) (by decide) rfl ?_
  intro p e s m args below meth c s₁ B9 hml hv
  obtain ⟨rfl, hP, hK, hD⟩ := hv
  have hx := B9.exec
  have hb := B9.bytes
  have hr := B9.returns
  have hts := atoms_spec (ws := wsX3_clear) B9.pre
  have hown : s.vm.findClass RX3 = some m.cls := findClass_of_methodNamed B9.named
  have hlocks := B9.notSynchronized
  have hS : va_S A s.heap s.heap [] := va_S.rf
  have hl := lv_entry ([.ref xo]) (n := 2) (Nat.le_of_ble_eq_true rfl)
  rw [lg_entry_eq]
  generalize (lg_sl ([.ref xo]) ++ List.replicate (2 - (lg_sl ([.ref xo])).length) Slot.unset).toArray = ls at hl ⊢
  have hl : lv_has ls 2 [(0, .ref xo)] := hl
  have hiX3 : ∀ w ∈ wsX30, w ∈ wsX3_clear := by decide +kernel
  have hf10 := hts (.fieldLink RX3 10 "LandmarkLea" "graph" "LLandmarkLea$Graph;") (by decide +kernel)
  have hf19 := hts (.fieldLink RX3 19 "LandmarkLea" "labels" "LLandmarkLea$Labels;") (by decide +kernel)
  have hf28 := hts (.fieldLink RX3 28 "LandmarkLea" "searches" "LLandmarkLea$Searches;") (by decide +kernel)
  have hf38 := hts (.fieldLink RX3 38 "LandmarkLea" "labelled" "Z") (by decide +kernel)
  refine lv_aload_n hx hb dX3_clear_0 rfl (lv_at hl 0 rfl) ?_
  refine va_get (D := dG) (ci := 3) (v := .ref g) (C := RX3) (T := TX3) (N := 6) hx hb hts hiX3 hown hK.1 hP 0 rfl rfl 0 (by decide) hf10 (fun _ h9 => h9) rfl dX3_clear_1 ?_
  have hPc := hP.sub (ws' := (GW cJ g gA (nI n) (nI ec) ns)) [5, 6] rfl
  refine x_ri (W.runV (As := []) (rest := []) ⟨hx, hb, hml, hown, hts⟩ (c_countOfEdges l dG cI cJ g gA n ec ns) (cwV 0 hts gX3_clear_X0_countOfEdges rfl rfl rfl (by decide +kernel) ⟨Nat.le_of_ble_eq_true rfl, Nat.le_of_ble_eq_true rfl⟩) (RPc.pre hPc hK (va_recv hK.1 hPc (ci := 0) (q0 := 0) rfl rfl)) rfl rfl hl.1 rfl (lv_room (Nat.le_of_ble_eq_true rfl)) dX3_clear_4 ⟨Nat.zero_le _, Nat.zero_le _⟩) ?_
  refine lv_istore_n (lv' := [(1, .int (nI ec)), (0, .ref xo)]) hx hb dX3_clear_7 rfl hl (by decide) rfl (fun ls hl => ?_)
  refine lv_aload_n hx hb dX3_clear_8 rfl (lv_at hl 1 rfl) ?_
  refine va_get (D := dG) (ci := 3) (v := .ref g) (C := RX3) (T := TX3) (N := 6) hx hb hts hiX3 hown hK.1 hP 0 rfl rfl 0 (by decide) hf10 (fun _ h9 => h9) rfl dX3_clear_9 ?_
  have hPc : va_P dG vwCl (GW cJ g gA (nI n) (nI ec) ns ++ (XW xo g lb se tl ts (bI bt) ++ (SW cI g lb se qa qb qc qv qd qp ql qs vi pr wr ++ (LW cI cJ lb aR aV aH aD aP rk vb rc hs D Pp ++ X)))) s.heap := va_P.perm hP (List.Perm.trans (List.Perm.append_left _ (List.perm_append_comm_assoc _ _ _)) (List.perm_append_comm_assoc _ _ _))
  have hDc : va_D A (GW cJ g gA (nI n) (nI ec) ns ++ (XW xo g lb se tl ts (bI bt) ++ (SW cI g lb se qa qb qc qv qd qp ql qs vi pr wr ++ (LW cI cJ lb aR aV aH aD aP rk vb rc hs D Pp ++ X)))) := va_D.perm hD (List.Perm.trans (List.Perm.append_left _ (List.perm_append_comm_assoc _ _ _)) (List.perm_append_comm_assoc _ _ _))
  refine va_callv (va_runV (As := []) (rest := []) ⟨hx, hb, hml, hown, hts⟩ (c_cutAll l dG cI cJ A g gA n ec ns _) (cwV 0 hts gX3_clear_X0_cutAll rfl rfl rfl (by decide +kernel) ⟨Nat.le_of_ble_eq_true rfl, Nat.le_of_ble_eq_true rfl⟩) (WPc.pre hPc hDc hK (va_recv hK.1 hPc (ci := 0) (q0 := 0) rfl rfl)) rfl rfl hl.1 rfl (lv_room (Nat.le_of_ble_eq_true rfl)) dX3_clear_12 ⟨Nat.zero_le _, Nat.zero_le _⟩) hS (fun q _ h => h) (fun q h => h) (fun u9 t H locs ht hvm hw hB hz1 hk1 hS => ?_)
  obtain ⟨hP, hD⟩ := hB
  rw [ht] at hP
  have hP : va_P dG vwCl (GW cJ g gA (nI n) (nI 0) (cut0 ns 48) ++ (XW xo g lb se tl ts (bI bt) ++ (SW cI g lb se qa qb qc qv qd qp ql qs vi pr wr ++ (LW cI cJ lb aR aV aH aD aP rk vb rc hs D Pp ++ X)))) H := hP
  have hD : va_D A (GW cJ g gA (nI n) (nI 0) (cut0 ns 48) ++ (XW xo g lb se tl ts (bI bt) ++ (SW cI g lb se qa qb qc qv qd qp ql qs vi pr wr ++ (LW cI cJ lb aR aV aH aD aP rk vb rc hs D Pp ++ X)))) := hD
  have hP : va_P dG vwCl (XW xo g lb se tl ts (bI bt) ++ (SW cI g lb se qa qb qc qv qd qp ql qs vi pr wr ++ (GW cJ g gA (nI n) (nI 0) (cut0 ns 48) ++ (LW cI cJ lb aR aV aH aD aP rk vb rc hs D Pp ++ X)))) H := va_P.perm hP (List.Perm.trans (List.perm_append_comm_assoc _ _ _) (List.Perm.append_left _ (List.perm_append_comm_assoc _ _ _)))
  have hD : va_D A (XW xo g lb se tl ts (bI bt) ++ (SW cI g lb se qa qb qc qv qd qp ql qs vi pr wr ++ (GW cJ g gA (nI n) (nI 0) (cut0 ns 48) ++ (LW cI cJ lb aR aV aH aD aP rk vb rc hs D Pp ++ X)))) := va_D.perm hD (List.Perm.trans (List.perm_append_comm_assoc _ _ _) (List.Perm.append_left _ (List.perm_append_comm_assoc _ _ _)))
  refine lv_aload_n hx hb dX3_clear_15 rfl (lv_at hl 1 rfl) ?_
  refine va_get (D := dG) (ci := 3) (v := .ref lb) (C := RX3) (T := TX3) (N := 6) hx hb hts hiX3 hown hK.1 hP 0 rfl rfl 1 (by decide) hf19 (fun _ h9 => h9) rfl dX3_clear_16 ?_
  have hPc : va_P dG vwCl (LW cI cJ lb aR aV aH aD aP rk vb rc hs D Pp ++ (XW xo g lb se tl ts (bI bt) ++ (SW cI g lb se qa qb qc qv qd qp ql qs vi pr wr ++ (GW cJ g gA (nI n) (nI 0) (cut0 ns 48) ++ X)))) H := va_P.perm hP (List.Perm.trans (List.Perm.trans (List.Perm.append_left _ (List.Perm.append_left _ (List.perm_append_comm_assoc _ _ _))) (List.Perm.append_left _ (List.perm_append_comm_assoc _ _ _))) (List.perm_append_comm_assoc _ _ _))
  have hDc : va_D A (LW cI cJ lb aR aV aH aD aP rk vb rc hs D Pp ++ (XW xo g lb se tl ts (bI bt) ++ (SW cI g lb se qa qb qc qv qd qp ql qs vi pr wr ++ (GW cJ g gA (nI n) (nI 0) (cut0 ns 48) ++ X)))) := va_D.perm hD (List.Perm.trans (List.Perm.trans (List.Perm.append_left _ (List.Perm.append_left _ (List.perm_append_comm_assoc _ _ _))) (List.Perm.append_left _ (List.perm_append_comm_assoc _ _ _))) (List.perm_append_comm_assoc _ _ _))
  refine va_callv (va_runV (As := []) (rest := []) ⟨hx, hb, hml, hown, hts⟩ (c_forget l dG cI cJ A lb aR aV aH aD aP rk vb rc hs D Pp _) (cwV 0 hts gX3_clear_X1_forget rfl rfl rfl (by decide +kernel) ⟨Nat.le_of_ble_eq_true rfl, Nat.le_of_ble_eq_true rfl⟩) (WPc.pre hPc hDc hK (va_recv hK.1 hPc (ci := 1) (q0 := 0) rfl rfl)) rfl rfl hl.1 rfl (lv_room (Nat.le_of_ble_eq_true rfl)) dX3_clear_19 ⟨Nat.zero_le _, Nat.zero_le _⟩) hS (fun q _ h => h) (fun q h => h) (fun u9 t H locs ht hvm hw hB hz1 hk1 hS => ?_)
  obtain ⟨hP, hD⟩ := hB
  rw [ht] at hP
  have hP : va_P dG vwCl (LW cI cJ lb aR aV aH aD aP rk vb (nI 0) (cut0 hs 48) D Pp ++ (XW xo g lb se tl ts (bI bt) ++ (SW cI g lb se qa qb qc qv qd qp ql qs vi pr wr ++ (GW cJ g gA (nI n) (nI 0) (cut0 ns 48) ++ X)))) H := hP
  have hD : va_D A (LW cI cJ lb aR aV aH aD aP rk vb (nI 0) (cut0 hs 48) D Pp ++ (XW xo g lb se tl ts (bI bt) ++ (SW cI g lb se qa qb qc qv qd qp ql qs vi pr wr ++ (GW cJ g gA (nI n) (nI 0) (cut0 ns 48) ++ X)))) := hD
  have hP : va_P dG vwCl (XW xo g lb se tl ts (bI bt) ++ (SW cI g lb se qa qb qc qv qd qp ql qs vi pr wr ++ (GW cJ g gA (nI n) (nI 0) (cut0 ns 48) ++ (LW cI cJ lb aR aV aH aD aP rk vb (nI 0) (cut0 hs 48) D Pp ++ X)))) H := va_P.perm hP (List.Perm.trans (List.Perm.trans (List.perm_append_comm_assoc _ _ _) (List.Perm.append_left _ (List.perm_append_comm_assoc _ _ _))) (List.Perm.append_left _ (List.Perm.append_left _ (List.perm_append_comm_assoc _ _ _))))
  have hD : va_D A (XW xo g lb se tl ts (bI bt) ++ (SW cI g lb se qa qb qc qv qd qp ql qs vi pr wr ++ (GW cJ g gA (nI n) (nI 0) (cut0 ns 48) ++ (LW cI cJ lb aR aV aH aD aP rk vb (nI 0) (cut0 hs 48) D Pp ++ X)))) := va_D.perm hD (List.Perm.trans (List.Perm.trans (List.perm_append_comm_assoc _ _ _) (List.Perm.append_left _ (List.perm_append_comm_assoc _ _ _))) (List.Perm.append_left _ (List.Perm.append_left _ (List.perm_append_comm_assoc _ _ _))))
  refine lv_aload_n hx hb dX3_clear_22 rfl (lv_at hl 1 rfl) ?_
  refine va_get (D := dG) (ci := 3) (v := .ref se) (C := RX3) (T := TX3) (N := 6) hx hb hts hiX3 hown hK.1 hP 0 rfl rfl 2 (by decide) hf28 (fun _ h9 => h9) rfl dX3_clear_23 ?_
  have hPc : va_P dG vwCl (SW cI g lb se qa qb qc qv qd qp ql qs vi pr wr ++ (XW xo g lb se tl ts (bI bt) ++ (GW cJ g gA (nI n) (nI 0) (cut0 ns 48) ++ (LW cI cJ lb aR aV aH aD aP rk vb (nI 0) (cut0 hs 48) D Pp ++ X)))) H := va_P.perm hP (List.perm_append_comm_assoc _ _ _)
  have hDc : va_D A (SW cI g lb se qa qb qc qv qd qp ql qs vi pr wr ++ (XW xo g lb se tl ts (bI bt) ++ (GW cJ g gA (nI n) (nI 0) (cut0 ns 48) ++ (LW cI cJ lb aR aV aH aD aP rk vb (nI 0) (cut0 hs 48) D Pp ++ X)))) := va_D.perm hD (List.perm_append_comm_assoc _ _ _)
  refine va_callv (va_runV (As := []) (rest := []) ⟨hx, hb, hml, hown, hts⟩ (c_forgetCounts l dG cI cJ A g lb se qa qb qc qv qd qp ql qs vi pr wr _) (cwV 0 hts gX3_clear_X2_forgetCounts rfl rfl rfl (by decide +kernel) ⟨Nat.le_of_ble_eq_true rfl, Nat.le_of_ble_eq_true rfl⟩) (WPc.pre hPc hDc hK (va_recv hK.1 hPc (ci := 2) (q0 := 0) rfl rfl)) rfl rfl hl.1 rfl (lv_room (Nat.le_of_ble_eq_true rfl)) dX3_clear_26 ⟨Nat.zero_le _, Nat.zero_le _⟩) hS (fun q _ h => h) (fun q h => h) (fun u9 t H locs ht hvm hw hB hz1 hk1 hS => ?_)
  obtain ⟨hP, hD⟩ := hB
  rw [ht] at hP
  have hP : va_P dG vwCl (SW cI g lb se qa qb qc qv qd qp ql qs (nI 0) (nI 0) (nI 0) ++ (XW xo g lb se tl ts (bI bt) ++ (GW cJ g gA (nI n) (nI 0) (cut0 ns 48) ++ (LW cI cJ lb aR aV aH aD aP rk vb (nI 0) (cut0 hs 48) D Pp ++ X)))) H := hP
  have hD : va_D A (SW cI g lb se qa qb qc qv qd qp ql qs (nI 0) (nI 0) (nI 0) ++ (XW xo g lb se tl ts (bI bt) ++ (GW cJ g gA (nI n) (nI 0) (cut0 ns 48) ++ (LW cI cJ lb aR aV aH aD aP rk vb (nI 0) (cut0 hs 48) D Pp ++ X)))) := hD
  have hP : va_P dG vwCl (XW xo g lb se tl ts (bI bt) ++ (SW cI g lb se qa qb qc qv qd qp ql qs (nI 0) (nI 0) (nI 0) ++ (GW cJ g gA (nI n) (nI 0) (cut0 ns 48) ++ (LW cI cJ lb aR aV aH aD aP rk vb (nI 0) (cut0 hs 48) D Pp ++ X)))) H := va_P.perm hP (List.perm_append_comm_assoc _ _ _)
  have hD : va_D A (XW xo g lb se tl ts (bI bt) ++ (SW cI g lb se qa qb qc qv qd qp ql qs (nI 0) (nI 0) (nI 0) ++ (GW cJ g gA (nI n) (nI 0) (cut0 ns 48) ++ (LW cI cJ lb aR aV aH aD aP rk vb (nI 0) (cut0 hs 48) D Pp ++ X)))) := va_D.perm hD (List.perm_append_comm_assoc _ _ _)
  refine lv_aload_n hx hb dX3_clear_29 rfl (lv_at hl 1 rfl) ?_
  refine lv_iconst (v := (nI 0)) hx hb dX3_clear_30 (by decide) ?_
  refine va_put (D := dG) (ci := 3) (v := .int (nI 0)) (ty := .boolean) (C := RX3) (T := TX3) (N := 6) hx hb hts hiX3 tyX3 tyX3_ok nmX3 hown hK.1 hP hD hS 0 rfl rfl 5 (by decide) hf38 (fun _ h9 => h9) rfl (by decide +kernel) (by decide) (by decide) (Nat.le_of_ble_eq_true rfl) dX3_clear_31 (fun H locs hP hD hS => ?_)
  have hP : va_P dG vwCl (XW xo g lb se tl ts (nI 0) ++ (SW cI g lb se qa qb qc qv qd qp ql qs (nI 0) (nI 0) (nI 0) ++ (GW cJ g gA (nI n) (nI 0) (cut0 ns 48) ++ (LW cI cJ lb aR aV aH aD aP rk vb (nI 0) (cut0 hs 48) D Pp ++ X)))) H := hP
  have hD : va_D A (XW xo g lb se tl ts (nI 0) ++ (SW cI g lb se qa qb qc qv qd qp ql qs (nI 0) (nI 0) (nI 0) ++ (GW cJ g gA (nI n) (nI 0) (cut0 ns 48) ++ (LW cI cJ lb aR aV aH aD aP rk vb (nI 0) (cut0 hs 48) D Pp ++ X)))) := hD
  refine lv_iload_n hx hb dX3_clear_34 rfl (lv_at hl 0 rfl) ?_
  exact W.iret (v := (nI ec)) hx hb hr (fun t ht hW => ⟨⟨_, (), rfl, rfl, by rw [ht]; exact hP, hD⟩, hS.F ht⟩) hS.2.2 dX3_clear_35

set_option maxHeartbeats 4000000 in
set_option maxRecDepth 100000 in
theorem c_build (l : Launch) (dG : va_G) (cI cJ : ClassId) (A : Nat → Prop) (qa qb qc : Nat) (qv qd qp : Nat → Int32) (ql : Int32) (qs : Int64) (vi pr wr : Int32) (xo tl ts : Nat) (bt : Bool) (se : Nat) (g gA n ec : Nat) (ns : Nat → Int64) (lb aR aV aH aD aP : Nat) (rk vb : Nat → Int32) (rc : Int32) (hs : Nat → Int64) (D Pp : Nat → Int32) (hn : n ≤ 48) (dg : Nat → Nat) (hdg : dg = fun v => fb_ct (gb (ns v)) 64) (hd : ∀ v, v < n → dg v < 48) (F : BT) (hF : bl ns n (hbf dg n) n = F) (X : va_W) : Met l yX3_build wsX3_build ({ frames := 6, cells := 0, slots := 0, locals := 143 } : Room) (WPc dG cI cJ [.ref xo] (XW xo g lb se tl ts (bI bt) ++ (SW cI g lb se qa qb qc qv qd qp ql qs vi pr wr ++ (GW cJ g gA (nI n) (nI ec) ns ++ (LW cI cJ lb aR aV aH aD aP rk vb rc hs D Pp ++ X)))) A) (va_Qi (S := (Nat → Int32) × (Nat → Int32) × Int32 × Int64 × (Nat → Int32) × (Nat → Int32) × (Nat → Int32) × (Nat → Int64) × (Nat → Int32) × (Nat → Int32)) (fun r u => r = nI F.2.2.1 ∧ RI dg n 0 0 u.1 u.2.1 ∧ RepL F.1 F.2.1 u.2.2.2.2.2.2.2.1 u.2.2.2.2.2.2.2.2.1 u.2.2.2.2.2.2.2.2.2) (fun u => WB dG A (XW xo g lb se tl ts (bI true) ++ (SW cI g lb se qa qb qc u.2.2.2.2.1 u.2.2.2.2.2.1 u.2.2.2.2.2.2.1 u.2.2.1 u.2.2.2.1 (nI F.2.2.1) (nI F.2.2.2.1) (nI F.2.2.2.2) ++ (GW cJ g gA (nI n) (nI ec) ns ++ (LW cI cJ lb aR aV aH aD aP u.1 u.2.1 (nI n) u.2.2.2.2.2.2.2.1 u.2.2.2.2.2.2.2.2.1 u.2.2.2.2.2.2.2.2.2 ++ X))))) A) 0 0 A := by
  refine Met.ofW (cc := cX3_build) (maxL := 1) (ret := (some .int)) (by decide) rfl ?_
  intro p e s m args below meth c s₁ B9 hml hv
  obtain ⟨rfl, hP, hK, hD⟩ := hv
  have hx := B9.exec
  have hb := B9.bytes
  have hr := B9.returns
  have hts := atoms_spec (ws := wsX3_build) B9.pre
  have hown : s.vm.findClass RX3 = some m.cls := findClass_of_methodNamed B9.named
  have hlocks := B9.notSynchronized
  have hS : va_S A s.heap s.heap [] := va_S.rf
  have hl := lv_entry ([.ref xo]) (n := 1) (Nat.le_of_ble_eq_true rfl)
  rw [lg_entry_eq]
  generalize (lg_sl ([.ref xo]) ++ List.replicate (1 - (lg_sl ([.ref xo])).length) Slot.unset).toArray = ls at hl ⊢
  have hl : lv_has ls 1 [(0, .ref xo)] := hl
  have hiX3 : ∀ w ∈ wsX30, w ∈ wsX3_build := by decide +kernel
  have hf28 := hts (.fieldLink RX3 28 "LandmarkLea" "searches" "LLandmarkLea$Searches;") (by decide +kernel)
  have hf38 := hts (.fieldLink RX3 38 "LandmarkLea" "labelled" "Z") (by decide +kernel)
  refine lv_aload_n hx hb dX3_build_0 rfl (lv_at hl 0 rfl) ?_
  refine lv_iconst (v := (nI 1)) hx hb dX3_build_1 (by decide) ?_
  refine va_put (D := dG) (ci := 3) (v := .int (nI 1)) (ty := .boolean) (C := RX3) (T := TX3) (N := 6) hx hb hts hiX3 tyX3 tyX3_ok nmX3 hown hK.1 hP hD hS 0 rfl rfl 5 (by decide) hf38 (fun _ h9 => h9) rfl (by decide +kernel) (by decide) (by decide) (Nat.le_of_ble_eq_true rfl) dX3_build_2 (fun H locs hP hD hS => ?_)
  have hP : va_P dG vwCl (XW xo g lb se tl ts (nI 1) ++ (SW cI g lb se qa qb qc qv qd qp ql qs vi pr wr ++ (GW cJ g gA (nI n) (nI ec) ns ++ (LW cI cJ lb aR aV aH aD aP rk vb rc hs D Pp ++ X)))) H := hP
  have hD : va_D A (XW xo g lb se tl ts (nI 1) ++ (SW cI g lb se qa qb qc qv qd qp ql qs vi pr wr ++ (GW cJ g gA (nI n) (nI ec) ns ++ (LW cI cJ lb aR aV aH aD aP rk vb rc hs D Pp ++ X)))) := hD
  refine lv_aload_n hx hb dX3_build_5 rfl (lv_at hl 0 rfl) ?_
  refine va_get (D := dG) (ci := 3) (v := .ref se) (C := RX3) (T := TX3) (N := 6) hx hb hts hiX3 hown hK.1 hP 0 rfl rfl 2 (by decide) hf28 (fun _ h9 => h9) rfl dX3_build_6 ?_
  have hPc : va_P dG vwCl (SW cI g lb se qa qb qc qv qd qp ql qs vi pr wr ++ (GW cJ g gA (nI n) (nI ec) ns ++ (LW cI cJ lb aR aV aH aD aP rk vb rc hs D Pp ++ (XW xo g lb se tl ts (nI 1) ++ X)))) H := va_P.perm hP (List.Perm.trans (List.Perm.trans (List.perm_append_comm_assoc _ _ _) (List.Perm.append_left _ (List.perm_append_comm_assoc _ _ _))) (List.Perm.append_left _ (List.Perm.append_left _ (List.perm_append_comm_assoc _ _ _))))
  have hDc : va_D A (SW cI g lb se qa qb qc qv qd qp ql qs vi pr wr ++ (GW cJ g gA (nI n) (nI ec) ns ++ (LW cI cJ lb aR aV aH aD aP rk vb rc hs D Pp ++ (XW xo g lb se tl ts (nI 1) ++ X)))) := va_D.perm hD (List.Perm.trans (List.Perm.trans (List.perm_append_comm_assoc _ _ _) (List.Perm.append_left _ (List.perm_append_comm_assoc _ _ _))) (List.Perm.append_left _ (List.Perm.append_left _ (List.perm_append_comm_assoc _ _ _))))
  refine va_calli (va_runV (As := []) (rest := []) ⟨hx, hb, hml, hown, hts⟩ (c_labelAll l dG cI cJ A g gA lb aR aV aH aD aP se qa qb qc rk vb rc n ec ns hn qv qd qp ql qs vi pr wr hs D Pp dg hdg hd F hF _) (cwV 0 hts gX3_build_X2_labelAll rfl rfl rfl (by decide +kernel) ⟨Nat.le_of_ble_eq_true rfl, Nat.le_of_ble_eq_true rfl⟩) (WPc.pre hPc hDc hK (va_recv hK.1 hPc (ci := 2) (q0 := 0) rfl rfl)) rfl rfl hl.1 rfl (lv_room (Nat.le_of_ble_eq_true rfl)) dX3_build_9 ⟨Nat.zero_le _, Nat.zero_le _⟩) hS (fun q _ h => h) (fun q h => h) (fun r9 u t H locs ht hvm hw hB hz1 hk1 hS => ?_)
  obtain ⟨rk, vb, ql, qs, qv, qd, qp, hs, D, Pp⟩ := u
  obtain ⟨hP, hD⟩ := hB
  rw [ht] at hP
  have hP : va_P dG vwCl (SW cI g lb se qa qb qc qv qd qp ql qs (nI F.2.2.1) (nI F.2.2.2.1) (nI F.2.2.2.2) ++ (GW cJ g gA (nI n) (nI ec) ns ++ (LW cI cJ lb aR aV aH aD aP rk vb (nI n) hs D Pp ++ (XW xo g lb se tl ts (nI 1) ++ X)))) H := hP
  have hD : va_D A (SW cI g lb se qa qb qc qv qd qp ql qs (nI F.2.2.1) (nI F.2.2.2.1) (nI F.2.2.2.2) ++ (GW cJ g gA (nI n) (nI ec) ns ++ (LW cI cJ lb aR aV aH aD aP rk vb (nI n) hs D Pp ++ (XW xo g lb se tl ts (nI 1) ++ X)))) := hD
  have hP : va_P dG vwCl (XW xo g lb se tl ts (nI 1) ++ (SW cI g lb se qa qb qc qv qd qp ql qs (nI F.2.2.1) (nI F.2.2.2.1) (nI F.2.2.2.2) ++ (GW cJ g gA (nI n) (nI ec) ns ++ (LW cI cJ lb aR aV aH aD aP rk vb (nI n) hs D Pp ++ X)))) H := va_P.perm hP (List.Perm.trans (List.Perm.trans (List.Perm.append_left _ (List.Perm.append_left _ (List.perm_append_comm_assoc _ _ _))) (List.Perm.append_left _ (List.perm_append_comm_assoc _ _ _))) (List.perm_append_comm_assoc _ _ _))
  have hD : va_D A (XW xo g lb se tl ts (nI 1) ++ (SW cI g lb se qa qb qc qv qd qp ql qs (nI F.2.2.1) (nI F.2.2.2.1) (nI F.2.2.2.2) ++ (GW cJ g gA (nI n) (nI ec) ns ++ (LW cI cJ lb aR aV aH aD aP rk vb (nI n) hs D Pp ++ X)))) := va_D.perm hD (List.Perm.trans (List.Perm.trans (List.Perm.append_left _ (List.Perm.append_left _ (List.perm_append_comm_assoc _ _ _))) (List.Perm.append_left _ (List.perm_append_comm_assoc _ _ _))) (List.perm_append_comm_assoc _ _ _))
  rw [show r9 = nI F.2.2.1 from hw.1]
  exact W.iret (v := (nI F.2.2.1)) hx hb hr (fun t ht hW => ⟨⟨_, (rk, vb, ql, qs, qv, qd, qp, hs, D, Pp), rfl, ⟨rfl, hw.2⟩, by rw [ht]; exact hP, hD⟩, hS.F ht⟩) hS.2.2 dX3_build_12

