/-! the class's writers, where they don't throw -/
set_option maxHeartbeats 4000000 in
set_option maxRecDepth 100000 in
theorem c_appendU (l : Launch) (dG : va_G) (cI cJ : ClassId) (A : Nat → Prop) (xo tl ts : Nat) (bt : Bool) (se : Nat) (g gA n ec : Nat) (ns : Nat → Int64) (lb aR aV aH aD aP : Nat) (rk vb : Nat → Int32) (rc : Int32) (hs : Nat → Int64) (D Pp : Nat → Int32) (hn : n < 48) (hbt : bt = false) (X : va_W) : Met l yX3_appendVertex wsX3_appendVertex ({ frames := 1, cells := 0, slots := 0, locals := 21 } : Room) (WPc dG cI cJ [.ref xo] (XW xo g lb se tl ts (bI bt) ++ (GW cJ g gA (nI n) (nI ec) ns ++ (LW cI cJ lb aR aV aH aD aP rk vb rc hs D Pp ++ X))) A) (va_Qi (S := Unit) (fun r _ => r = nI n) (fun _ => WB dG A (XW xo g lb se tl ts (bI bt) ++ (GW cJ g gA (nI (n + 1)) (nI ec) ns ++ (LW cI cJ lb aR aV aH aD aP rk vb rc hs D Pp ++ X)))) A) 0 0 A := by
  refine Met.ofW (cc := cX3_appendVertex) (maxL := 2) (ret := (some .int)) (by decide) rfl ?_
  intro p e s m args below meth c s₁ B9 hml hv
  obtain ⟨rfl, hP, hK, hD⟩ := hv
  have hx := B9.exec
  have hb := B9.bytes
  have hr := B9.returns
  have hts := atoms_spec (ws := wsX3_appendVertex) B9.pre
  have hown : s.vm.findClass RX3 = some m.cls := findClass_of_methodNamed B9.named
  have hlocks := B9.notSynchronized
  have hS : va_S A s.heap s.heap [] := va_S.rf
  have hl := lv_entry ([.ref xo]) (n := 2) (Nat.le_of_ble_eq_true rfl)
  rw [lg_entry_eq]
  generalize (lg_sl ([.ref xo]) ++ List.replicate (2 - (lg_sl ([.ref xo])).length) Slot.unset).toArray = ls at hl ⊢
  have hl : lv_has ls 2 [(0, .ref xo)] := hl
  have hiX3 : ∀ w ∈ wsX30, w ∈ wsX3_appendVertex := by decide +kernel
  have hf10 := hts (.fieldLink RX3 10 "LandmarkLea" "graph" "LLandmarkLea$Graph;") (by decide +kernel)
  have hf19 := hts (.fieldLink RX3 19 "LandmarkLea" "labels" "LLandmarkLea$Labels;") (by decide +kernel)
  have hf38 := hts (.fieldLink RX3 38 "LandmarkLea" "labelled" "Z") (by decide +kernel)
  refine lv_aload_n hx hb dX3_appendVertex_0 rfl (lv_at hl 0 rfl) ?_
  refine va_get (D := dG) (ci := 3) (v := .ref g) (C := RX3) (T := TX3) (N := 6) hx hb hts hiX3 hown hK.1 hP 0 rfl rfl 0 (by decide) hf10 (fun _ h9 => h9) rfl dX3_appendVertex_1 ?_
  have hPc : va_P dG vwCl (GW cJ g gA (nI n) (nI ec) ns ++ (XW xo g lb se tl ts (bI bt) ++ (LW cI cJ lb aR aV aH aD aP rk vb rc hs D Pp ++ X))) s.heap := va_P.perm hP (List.perm_append_comm_assoc _ _ _)
  have hDc : va_D A (GW cJ g gA (nI n) (nI ec) ns ++ (XW xo g lb se tl ts (bI bt) ++ (LW cI cJ lb aR aV aH aD aP rk vb rc hs D Pp ++ X))) := va_D.perm hD (List.perm_append_comm_assoc _ _ _)
  refine va_calli (va_runV (As := []) (rest := []) ⟨hx, hb, hml, hown, hts⟩ (c_grow l dG cI cJ A g gA n ec ns (by omega) _) (cwV 0 hts gX3_appendVertex_X0_grow rfl rfl rfl (by decide +kernel) ⟨Nat.le_of_ble_eq_true rfl, Nat.le_of_ble_eq_true rfl⟩) (WPc.pre hPc hDc hK (va_recv hK.1 hPc (ci := 0) (q0 := 0) rfl rfl)) rfl rfl hl.1 rfl (lv_room (Nat.le_of_ble_eq_true rfl)) dX3_appendVertex_4 ⟨Nat.zero_le _, Nat.zero_le _⟩) hS (fun q _ h => h) (fun q h => h) (fun r9 u9 t H locs ht hvm hw hB hz1 hk1 hS => ?_)
  obtain ⟨hP, hD⟩ := hB
  rw [ht] at hP
  have hP : va_P dG vwCl (GW cJ g gA (nI (n + 1)) (nI ec) ns ++ (XW xo g lb se tl ts (bI bt) ++ (LW cI cJ lb aR aV aH aD aP rk vb rc hs D Pp ++ X))) H := hP
  have hD : va_D A (GW cJ g gA (nI (n + 1)) (nI ec) ns ++ (XW xo g lb se tl ts (bI bt) ++ (LW cI cJ lb aR aV aH aD aP rk vb rc hs D Pp ++ X))) := hD
  have hP : va_P dG vwCl (XW xo g lb se tl ts (bI bt) ++ (GW cJ g gA (nI (n + 1)) (nI ec) ns ++ (LW cI cJ lb aR aV aH aD aP rk vb rc hs D Pp ++ X))) H := va_P.perm hP (List.perm_append_comm_assoc _ _ _)
  have hD : va_D A (XW xo g lb se tl ts (bI bt) ++ (GW cJ g gA (nI (n + 1)) (nI ec) ns ++ (LW cI cJ lb aR aV aH aD aP rk vb rc hs D Pp ++ X))) := va_D.perm hD (List.perm_append_comm_assoc _ _ _)
  rw [show r9 = nI n from hw]
  refine lv_istore_n (lv' := [(1, .int (nI n)), (0, .ref xo)]) hx hb dX3_appendVertex_7 rfl hl (by decide) rfl (fun ls hl => ?_)
  refine lv_aload_n hx hb dX3_appendVertex_8 rfl (lv_at hl 1 rfl) ?_
  refine va_get (D := dG) (ci := 3) (v := .int (bI bt)) (C := RX3) (T := TX3) (N := 6) hx hb hts hiX3 hown hK.1 hP 0 rfl rfl 5 (by decide) hf38 (fun _ h9 => h9) rfl dX3_appendVertex_9 ?_
  refine x_ifeqB (tgt := 41) hx hb dX3_appendVertex_12 (by decide) (fun c12 => ?_) (fun c12 => ?_)
  · skip
    refine lv_iload_n hx hb dX3_appendVertex_41 rfl (lv_at hl 0 rfl) ?_
    exact W.iret (v := (nI n)) hx hb hr (fun t ht hW => ⟨⟨_, (), rfl, rfl, by rw [ht]; exact hP, hD⟩, hS.F ht⟩) hS.2.2 dX3_appendVertex_42
  · skip
    rw [hbt] at c12; cases c12

set_option maxHeartbeats 4000000 in
set_option maxRecDepth 100000 in
theorem c_appendB (l : Launch) (dG : va_G) (cI cJ : ClassId) (A : Nat → Prop) (xo tl ts : Nat) (bt : Bool) (se : Nat) (g gA n ec : Nat) (ns : Nat → Int64) (lb aR aV aH aD aP : Nat) (rk vb : Nat → Int32) (rc : Int32) (hs : Nat → Int64) (D Pp : Nat → Int32) (hn : n < 48) (L P : Nat → Nat → Option Nat) (hR : RepL L P hs D Pp) (hbt : bt = true) (hrc : rc = nI n) (X : va_W) : Met l yX3_appendVertex wsX3_appendVertex ({ frames := 2, cells := 0, slots := 0, locals := 44 } : Room) (WPc dG cI cJ [.ref xo] (XW xo g lb se tl ts (bI bt) ++ (GW cJ g gA (nI n) (nI ec) ns ++ (LW cI cJ lb aR aV aH aD aP rk vb rc hs D Pp ++ X))) A) (va_Qi (S := (Nat → Int64) × (Nat → Int32) × (Nat → Int32)) (fun r u => r = nI n ∧ RepL (up2 L n n (some 0)) (up2 P n n none) u.1 u.2.1 u.2.2) (fun u => WB dG A (XW xo g lb se tl ts (bI bt) ++ (GW cJ g gA (nI (n + 1)) (nI ec) ns ++ (LW cI cJ lb aR aV aH aD aP (upd rk n (nI n)) (upd vb n (nI n)) (nI (n + 1)) u.1 u.2.1 u.2.2 ++ X)))) A) 0 0 A := by
  refine Met.ofW (cc := cX3_appendVertex) (maxL := 2) (ret := (some .int)) (by decide) rfl ?_
  intro p e s m args below meth c s₁ B9 hml hv
  obtain ⟨rfl, hP, hK, hD⟩ := hv
  have hx := B9.exec
  have hb := B9.bytes
  have hr := B9.returns
  have hts := atoms_spec (ws := wsX3_appendVertex) B9.pre
  have hown : s.vm.findClass RX3 = some m.cls := findClass_of_methodNamed B9.named
  have hlocks := B9.notSynchronized
  have hS : va_S A s.heap s.heap [] := va_S.rf
  have hl := lv_entry ([.ref xo]) (n := 2) (Nat.le_of_ble_eq_true rfl)
  rw [lg_entry_eq]
  generalize (lg_sl ([.ref xo]) ++ List.replicate (2 - (lg_sl ([.ref xo])).length) Slot.unset).toArray = ls at hl ⊢
  have hl : lv_has ls 2 [(0, .ref xo)] := hl
  have hiX3 : ∀ w ∈ wsX30, w ∈ wsX3_appendVertex := by decide +kernel
  have hf10 := hts (.fieldLink RX3 10 "LandmarkLea" "graph" "LLandmarkLea$Graph;") (by decide +kernel)
  have hf19 := hts (.fieldLink RX3 19 "LandmarkLea" "labels" "LLandmarkLea$Labels;") (by decide +kernel)
  have hf38 := hts (.fieldLink RX3 38 "LandmarkLea" "labelled" "Z") (by decide +kernel)
  subst hrc
  refine lv_aload_n hx hb dX3_appendVertex_0 rfl (lv_at hl 0 rfl) ?_
  refine va_get (D := dG) (ci := 3) (v := .ref g) (C := RX3) (T := TX3) (N := 6) hx hb hts hiX3 hown hK.1 hP 0 rfl rfl 0 (by decide) hf10 (fun _ h9 => h9) rfl dX3_appendVertex_1 ?_
  have hPc : va_P dG vwCl (GW cJ g gA (nI n) (nI ec) ns ++ (XW xo g lb se tl ts (bI bt) ++ (LW cI cJ lb aR aV aH aD aP rk vb (nI n) hs D Pp ++ X))) s.heap := va_P.perm hP (List.perm_append_comm_assoc _ _ _)
  have hDc : va_D A (GW cJ g gA (nI n) (nI ec) ns ++ (XW xo g lb se tl ts (bI bt) ++ (LW cI cJ lb aR aV aH aD aP rk vb (nI n) hs D Pp ++ X))) := va_D.perm hD (List.perm_append_comm_assoc _ _ _)
  refine va_calli (va_runV (As := []) (rest := []) ⟨hx, hb, hml, hown, hts⟩ (c_grow l dG cI cJ A g gA n ec ns (by omega) _) (cwV 0 hts gX3_appendVertex_X0_grow rfl rfl rfl (by decide +kernel) ⟨Nat.le_of_ble_eq_true rfl, Nat.le_of_ble_eq_true rfl⟩) (WPc.pre hPc hDc hK (va_recv hK.1 hPc (ci := 0) (q0 := 0) rfl rfl)) rfl rfl hl.1 rfl (lv_room (Nat.le_of_ble_eq_true rfl)) dX3_appendVertex_4 ⟨Nat.zero_le _, Nat.zero_le _⟩) hS (fun q _ h => h) (fun q h => h) (fun r9 u9 t H locs ht hvm hw hB hz1 hk1 hS => ?_)
  obtain ⟨hP, hD⟩ := hB
  rw [ht] at hP
  have hP : va_P dG vwCl (GW cJ g gA (nI (n + 1)) (nI ec) ns ++ (XW xo g lb se tl ts (bI bt) ++ (LW cI cJ lb aR aV aH aD aP rk vb (nI n) hs D Pp ++ X))) H := hP
  have hD : va_D A (GW cJ g gA (nI (n + 1)) (nI ec) ns ++ (XW xo g lb se tl ts (bI bt) ++ (LW cI cJ lb aR aV aH aD aP rk vb (nI n) hs D Pp ++ X))) := hD
  have hP : va_P dG vwCl (XW xo g lb se tl ts (bI bt) ++ (GW cJ g gA (nI (n + 1)) (nI ec) ns ++ (LW cI cJ lb aR aV aH aD aP rk vb (nI n) hs D Pp ++ X))) H := va_P.perm hP (List.perm_append_comm_assoc _ _ _)
  have hD : va_D A (XW xo g lb se tl ts (bI bt) ++ (GW cJ g gA (nI (n + 1)) (nI ec) ns ++ (LW cI cJ lb aR aV aH aD aP rk vb (nI n) hs D Pp ++ X))) := va_D.perm hD (List.perm_append_comm_assoc _ _ _)
  rw [show r9 = nI n from hw]
  refine lv_istore_n (lv' := [(1, .int (nI n)), (0, .ref xo)]) hx hb dX3_appendVertex_7 rfl hl (by decide) rfl (fun ls hl => ?_)
  refine lv_aload_n hx hb dX3_appendVertex_8 rfl (lv_at hl 1 rfl) ?_
  refine va_get (D := dG) (ci := 3) (v := .int (bI bt)) (C := RX3) (T := TX3) (N := 6) hx hb hts hiX3 hown hK.1 hP 0 rfl rfl 5 (by decide) hf38 (fun _ h9 => h9) rfl dX3_appendVertex_9 ?_
  refine x_ifeqB (tgt := 41) hx hb dX3_appendVertex_12 (by decide) (fun c12 => ?_) (fun c12 => ?_)
  · skip
    rw [hbt] at c12; cases c12
  · skip
    refine lv_aload_n hx hb dX3_appendVertex_15 rfl (lv_at hl 1 rfl) ?_
    refine va_get (D := dG) (ci := 3) (v := .ref lb) (C := RX3) (T := TX3) (N := 6) hx hb hts hiX3 hown hK.1 hP 0 rfl rfl 1 (by decide) hf19 (fun _ h9 => h9) rfl dX3_appendVertex_16 ?_
    refine lv_iload_n hx hb dX3_appendVertex_19 rfl (lv_at hl 0 rfl) ?_
    have hPc : va_P dG vwCl (LW cI cJ lb aR aV aH aD aP rk vb (nI n) hs D Pp ++ (XW xo g lb se tl ts (bI bt) ++ (GW cJ g gA (nI (n + 1)) (nI ec) ns ++ X))) H := va_P.perm hP (List.Perm.trans (List.Perm.append_left _ (List.perm_append_comm_assoc _ _ _)) (List.perm_append_comm_assoc _ _ _))
    have hDc : va_D A (LW cI cJ lb aR aV aH aD aP rk vb (nI n) hs D Pp ++ (XW xo g lb se tl ts (bI bt) ++ (GW cJ g gA (nI (n + 1)) (nI ec) ns ++ X))) := va_D.perm hD (List.Perm.trans (List.Perm.append_left _ (List.perm_append_comm_assoc _ _ _)) (List.perm_append_comm_assoc _ _ _))
    refine va_callv (va_runV (As := [.int (nI n)]) (rest := []) ⟨hx, hb, hml, hown, hts⟩ (c_rankNext l dG cI cJ A lb aR aV aH aD aP rk vb hs D Pp n n hn hn _) (cwV 1 hts gX3_appendVertex_X1_rankNext rfl rfl rfl (by decide +kernel) ⟨Nat.le_of_ble_eq_true rfl, Nat.le_of_ble_eq_true rfl⟩) (WPc.pre hPc hDc hK (va_recv hK.1 hPc (ci := 1) (q0 := 0) rfl rfl)) rfl rfl hl.1 rfl (lv_room (Nat.le_of_ble_eq_true rfl)) dX3_appendVertex_20 ⟨Nat.zero_le _, Nat.zero_le _⟩) hS (fun q _ h => h) (fun q h => h) (fun u9 t H locs ht hvm hw hB hz1 hk1 hS => ?_)
    obtain ⟨hP, hD⟩ := hB
    rw [ht] at hP
    have hP : va_P dG vwCl (LW cI cJ lb aR aV aH aD aP (upd rk n (nI n)) (upd vb n (nI n)) (nI (n + 1)) hs D Pp ++ (XW xo g lb se tl ts (bI bt) ++ (GW cJ g gA (nI (n + 1)) (nI ec) ns ++ X))) H := hP
    have hD : va_D A (LW cI cJ lb aR aV aH aD aP (upd rk n (nI n)) (upd vb n (nI n)) (nI (n + 1)) hs D Pp ++ (XW xo g lb se tl ts (bI bt) ++ (GW cJ g gA (nI (n + 1)) (nI ec) ns ++ X))) := hD
    have hP : va_P dG vwCl (XW xo g lb se tl ts (bI bt) ++ (GW cJ g gA (nI (n + 1)) (nI ec) ns ++ (LW cI cJ lb aR aV aH aD aP (upd rk n (nI n)) (upd vb n (nI n)) (nI (n + 1)) hs D Pp ++ X))) H := va_P.perm hP (List.Perm.trans (List.perm_append_comm_assoc _ _ _) (List.Perm.append_left _ (List.perm_append_comm_assoc _ _ _)))
    have hD : va_D A (XW xo g lb se tl ts (bI bt) ++ (GW cJ g gA (nI (n + 1)) (nI ec) ns ++ (LW cI cJ lb aR aV aH aD aP (upd rk n (nI n)) (upd vb n (nI n)) (nI (n + 1)) hs D Pp ++ X))) := va_D.perm hD (List.Perm.trans (List.perm_append_comm_assoc _ _ _) (List.Perm.append_left _ (List.perm_append_comm_assoc _ _ _)))
    refine lv_aload_n hx hb dX3_appendVertex_23 rfl (lv_at hl 1 rfl) ?_
    refine va_get (D := dG) (ci := 3) (v := .ref lb) (C := RX3) (T := TX3) (N := 6) hx hb hts hiX3 hown hK.1 hP 0 rfl rfl 1 (by decide) hf19 (fun _ h9 => h9) rfl dX3_appendVertex_24 ?_
    refine lv_aload_n hx hb dX3_appendVertex_27 rfl (lv_at hl 1 rfl) ?_
    refine va_get (D := dG) (ci := 3) (v := .ref lb) (C := RX3) (T := TX3) (N := 6) hx hb hts hiX3 hown hK.1 hP 0 rfl rfl 1 (by decide) hf19 (fun _ h9 => h9) rfl dX3_appendVertex_28 ?_
    refine lv_iload_n hx hb dX3_appendVertex_31 rfl (lv_at hl 0 rfl) ?_
    have hPc := hP.sub (ws' := (LW cI cJ lb aR aV aH aD aP (upd rk n (nI n)) (upd vb n (nI n)) (nI (n + 1)) hs D Pp)) [3, 4, 5, 6, 7, 8] rfl
    refine x_ri (W.runV (As := [.int (nI n)]) (rest := [.ref lb]) ⟨hx, hb, hml, hown, hts⟩ (c_rankOf l dG cI cJ lb aR aV aH aD aP (upd rk n (nI n)) (upd vb n (nI n)) (nI (n + 1)) hs D Pp n hn) (cwV 1 hts gX3_appendVertex_X1_rankOf rfl rfl rfl (by decide +kernel) ⟨Nat.le_of_ble_eq_true rfl, Nat.le_of_ble_eq_true rfl⟩) (RPc.pre hPc hK (va_recv hK.1 hPc (ci := 1) (q0 := 0) rfl rfl)) rfl rfl hl.1 rfl (lv_room (Nat.le_of_ble_eq_true rfl)) dX3_appendVertex_32 ⟨Nat.zero_le _, Nat.zero_le _⟩) ?_
    rw [show (upd rk n (nI n)) n = nI n from pk_us]
    refine lv_iload_n hx hb dX3_appendVertex_35 rfl (lv_at hl 0 rfl) ?_
    refine lv_iconst (v := (nI 0)) hx hb dX3_appendVertex_36 (by decide) ?_
    refine lv_iconst (v := (-1)) hx hb dX3_appendVertex_37 (by decide) ?_
    have hPc : va_P dG vwCl (LW cI cJ lb aR aV aH aD aP (upd rk n (nI n)) (upd vb n (nI n)) (nI (n + 1)) hs D Pp ++ (XW xo g lb se tl ts (bI bt) ++ (GW cJ g gA (nI (n + 1)) (nI ec) ns ++ X))) H := va_P.perm hP (List.Perm.trans (List.Perm.append_left _ (List.perm_append_comm_assoc _ _ _)) (List.perm_append_comm_assoc _ _ _))
    have hDc : va_D A (LW cI cJ lb aR aV aH aD aP (upd rk n (nI n)) (upd vb n (nI n)) (nI (n + 1)) hs D Pp ++ (XW xo g lb se tl ts (bI bt) ++ (GW cJ g gA (nI (n + 1)) (nI ec) ns ++ X))) := va_D.perm hD (List.Perm.trans (List.Perm.append_left _ (List.perm_append_comm_assoc _ _ _)) (List.perm_append_comm_assoc _ _ _))
    refine va_callv (va_runV (As := [.int (nI n), .int (nI n), .int (nI 0), .int (-1)]) (rest := []) ⟨hx, hb, hml, hown, hts⟩ (c_put l dG cI cJ A lb aR aV aH aD aP (upd rk n (nI n)) (upd vb n (nI n)) (nI (n + 1)) hs D Pp n n 0 none hn hn _) (cwV 4 hts gX3_appendVertex_X1_put rfl rfl rfl (by decide +kernel) ⟨Nat.le_of_ble_eq_true rfl, Nat.le_of_ble_eq_true rfl⟩) (WPc.pre hPc hDc hK (va_recv hK.1 hPc (ci := 1) (q0 := 0) rfl rfl)) rfl rfl hl.1 rfl (lv_room (Nat.le_of_ble_eq_true rfl)) dX3_appendVertex_38 ⟨Nat.zero_le _, Nat.zero_le _⟩) hS (fun q _ h => h) (fun q h => h) (fun u9 t H locs ht hvm hw hB hz1 hk1 hS => ?_)
    obtain ⟨hP, hD⟩ := hB
    rw [ht] at hP
    have hP : va_P dG vwCl (LW cI cJ lb aR aV aH aD aP (upd rk n (nI n)) (upd vb n (nI n)) (nI (n + 1)) (vp_updL hs n (hs n ||| ((1 : Int64) <<< ((nI n).toInt64 &&& 63)))) (upd D (n * 48 + n) (nI 0)) (upd Pp (n * 48 + n) (eN none)) ++ (XW xo g lb se tl ts (bI bt) ++ (GW cJ g gA (nI (n + 1)) (nI ec) ns ++ X))) H := hP
    have hD : va_D A (LW cI cJ lb aR aV aH aD aP (upd rk n (nI n)) (upd vb n (nI n)) (nI (n + 1)) (vp_updL hs n (hs n ||| ((1 : Int64) <<< ((nI n).toInt64 &&& 63)))) (upd D (n * 48 + n) (nI 0)) (upd Pp (n * 48 + n) (eN none)) ++ (XW xo g lb se tl ts (bI bt) ++ (GW cJ g gA (nI (n + 1)) (nI ec) ns ++ X))) := hD
    have hP : va_P dG vwCl (XW xo g lb se tl ts (bI bt) ++ (GW cJ g gA (nI (n + 1)) (nI ec) ns ++ (LW cI cJ lb aR aV aH aD aP (upd rk n (nI n)) (upd vb n (nI n)) (nI (n + 1)) (vp_updL hs n (hs n ||| ((1 : Int64) <<< ((nI n).toInt64 &&& 63)))) (upd D (n * 48 + n) (nI 0)) (upd Pp (n * 48 + n) (eN none)) ++ X))) H := va_P.perm hP (List.Perm.trans (List.perm_append_comm_assoc _ _ _) (List.Perm.append_left _ (List.perm_append_comm_assoc _ _ _)))
    have hD : va_D A (XW xo g lb se tl ts (bI bt) ++ (GW cJ g gA (nI (n + 1)) (nI ec) ns ++ (LW cI cJ lb aR aV aH aD aP (upd rk n (nI n)) (upd vb n (nI n)) (nI (n + 1)) (vp_updL hs n (hs n ||| ((1 : Int64) <<< ((nI n).toInt64 &&& 63)))) (upd D (n * 48 + n) (nI 0)) (upd Pp (n * 48 + n) (eN none)) ++ X))) := va_D.perm hD (List.Perm.trans (List.perm_append_comm_assoc _ _ _) (List.Perm.append_left _ (List.perm_append_comm_assoc _ _ _)))
    refine lv_iload_n hx hb dX3_appendVertex_41 rfl (lv_at hl 0 rfl) ?_
    exact W.iret (v := (nI n)) hx hb hr (fun t ht hW => ⟨⟨_, (vp_updL hs n (hs n ||| ((1 : Int64) <<< ((nI n).toInt64 &&& 63))), upd D (n * 48 + n) (nI 0), upd Pp (n * 48 + n) (eN none)), rfl, ⟨rfl, hR.put hn hn⟩, by rw [ht]; exact hP, hD⟩, hS.F ht⟩) hS.2.2 dX3_appendVertex_42

set_option maxHeartbeats 4000000 in
set_option maxRecDepth 100000 in
theorem c_addVertexU (l : Launch) (dG : va_G) (cI cJ : ClassId) (A : Nat → Prop) (xo tl ts : Nat) (bt : Bool) (se : Nat) (g gA n ec : Nat) (ns : Nat → Int64) (lb aR aV aH aD aP : Nat) (rk vb : Nat → Int32) (rc : Int32) (hs : Nat → Int64) (D Pp : Nat → Int32) (hn : n < 48) (hbt : bt = false) (X : va_W) : Met l yX3_addVertex wsX3_addVertex ({ frames := 2, cells := 0, slots := 0, locals := 42 } : Room) (WPc dG cI cJ [.ref xo] (XW xo g lb se tl ts (bI bt) ++ (GW cJ g gA (nI n) (nI ec) ns ++ (LW cI cJ lb aR aV aH aD aP rk vb rc hs D Pp ++ X))) A) (va_Qi (S := Unit) (fun r _ => r = nI n) (fun _ => WB dG A (XW xo g lb se tl ts (bI bt) ++ (GW cJ g gA (nI (n + 1)) (nI ec) ns ++ (LW cI cJ lb aR aV aH aD aP rk vb rc hs D Pp ++ X)))) A) 0 0 A := by
  refine Met.ofW (cc := cX3_addVertex) (maxL := 1) (ret := (some .int)) (by decide) rfl ?_
  intro p e s m args below meth c s₁ B9 hml hv
  obtain ⟨rfl, hP, hK, hD⟩ := hv
  have hx := B9.exec
  have hb := B9.bytes
  have hr := B9.returns
  have hts := atoms_spec (ws := wsX3_addVertex) B9.pre
  have hown : s.vm.findClass RX3 = some m.cls := findClass_of_methodNamed B9.named
  have hlocks := B9.notSynchronized
  have hS : va_S A s.heap s.heap [] := va_S.rf
  have hl := lv_entry ([.ref xo]) (n := 1) (Nat.le_of_ble_eq_true rfl)
  rw [lg_entry_eq]
  generalize (lg_sl ([.ref xo]) ++ List.replicate (1 - (lg_sl ([.ref xo])).length) Slot.unset).toArray = ls at hl ⊢
  have hl : lv_has ls 1 [(0, .ref xo)] := hl
  refine lv_aload_n hx hb dX3_addVertex_0 rfl (lv_at hl 0 rfl) ?_
  refine lv_iconst (v := (nI 1)) hx hb dX3_addVertex_1 (by decide) ?_
  have hPc := hP.sub (ws' := (XW xo g lb se tl ts (bI bt) ++ (GW cJ g gA (nI n) (nI ec) ns ++ (LW cI cJ lb aR aV aH aD aP rk vb rc hs D Pp)))) [0, 1, 2, 3, 4, 5, 6, 7, 8] rfl
  refine x_rv (W.runV (As := [.int (nI 1)]) (rest := []) ⟨hx, hb, hml, hown, hts⟩ (c_requireRoomFor l dG cI cJ xo tl ts bt se g gA n ec ns lb aR aV aH aD aP rk vb rc hs D Pp (by omega) 1 (by omega)) (cwV 1 hts gX3_addVertex_X3_requireRoomFor rfl rfl rfl (by decide +kernel) ⟨Nat.le_of_ble_eq_true rfl, Nat.le_of_ble_eq_true rfl⟩) (RPc.pre hPc hK (va_recv hK.1 hPc (ci := 3) (q0 := 0) rfl rfl)) rfl rfl hl.1 rfl (lv_room (Nat.le_of_ble_eq_true rfl)) dX3_addVertex_2 ⟨Nat.zero_le _, Nat.zero_le _⟩) ?_
  refine lv_aload_n hx hb dX3_addVertex_5 rfl (lv_at hl 0 rfl) ?_
  have hPc : va_P dG vwCl (XW xo g lb se tl ts (bI bt) ++ (GW cJ g gA (nI n) (nI ec) ns ++ (LW cI cJ lb aR aV aH aD aP rk vb rc hs D Pp ++ X))) s.heap := hP
  have hDc : va_D A (XW xo g lb se tl ts (bI bt) ++ (GW cJ g gA (nI n) (nI ec) ns ++ (LW cI cJ lb aR aV aH aD aP rk vb rc hs D Pp ++ X))) := hD
  refine va_calli (va_runV (As := []) (rest := []) ⟨hx, hb, hml, hown, hts⟩ (c_appendU l dG cI cJ A xo tl ts bt se g gA n ec ns lb aR aV aH aD aP rk vb rc hs D Pp (by omega) hbt _) (cwV 0 hts gX3_addVertex_X3_appendVertex rfl rfl rfl (by decide +kernel) ⟨Nat.le_of_ble_eq_true rfl, Nat.le_of_ble_eq_true rfl⟩) (WPc.pre hPc hDc hK (va_recv hK.1 hPc (ci := 3) (q0 := 0) rfl rfl)) rfl rfl hl.1 rfl (lv_room (Nat.le_of_ble_eq_true rfl)) dX3_addVertex_6 ⟨Nat.zero_le _, Nat.zero_le _⟩) hS (fun q _ h => h) (fun q h => h) (fun r9 u9 t H locs ht hvm hw hB hz1 hk1 hS => ?_)
  obtain ⟨hP, hD⟩ := hB
  rw [ht] at hP
  have hP : va_P dG vwCl (XW xo g lb se tl ts (bI bt) ++ (GW cJ g gA (nI (n + 1)) (nI ec) ns ++ (LW cI cJ lb aR aV aH aD aP rk vb rc hs D Pp ++ X))) H := hP
  have hD : va_D A (XW xo g lb se tl ts (bI bt) ++ (GW cJ g gA (nI (n + 1)) (nI ec) ns ++ (LW cI cJ lb aR aV aH aD aP rk vb rc hs D Pp ++ X))) := hD
  rw [show r9 = nI n from hw]
  exact W.iret (v := (nI n)) hx hb hr (fun t ht hW => ⟨⟨_, (), rfl, rfl, by rw [ht]; exact hP, hD⟩, hS.F ht⟩) hS.2.2 dX3_addVertex_9

set_option maxHeartbeats 4000000 in
set_option maxRecDepth 100000 in
theorem c_addVertexB (l : Launch) (dG : va_G) (cI cJ : ClassId) (A : Nat → Prop) (xo tl ts : Nat) (bt : Bool) (se : Nat) (g gA n ec : Nat) (ns : Nat → Int64) (lb aR aV aH aD aP : Nat) (rk vb : Nat → Int32) (rc : Int32) (hs : Nat → Int64) (D Pp : Nat → Int32) (hn : n < 48) (L P : Nat → Nat → Option Nat) (hR : RepL L P hs D Pp) (hbt : bt = true) (hrc : rc = nI n) (X : va_W) : Met l yX3_addVertex wsX3_addVertex ({ frames := 3, cells := 0, slots := 0, locals := 65 } : Room) (WPc dG cI cJ [.ref xo] (XW xo g lb se tl ts (bI bt) ++ (GW cJ g gA (nI n) (nI ec) ns ++ (LW cI cJ lb aR aV aH aD aP rk vb rc hs D Pp ++ X))) A) (va_Qi (S := (Nat → Int64) × (Nat → Int32) × (Nat → Int32)) (fun r u => r = nI n ∧ RepL (up2 L n n (some 0)) (up2 P n n none) u.1 u.2.1 u.2.2) (fun u => WB dG A (XW xo g lb se tl ts (bI bt) ++ (GW cJ g gA (nI (n + 1)) (nI ec) ns ++ (LW cI cJ lb aR aV aH aD aP (upd rk n (nI n)) (upd vb n (nI n)) (nI (n + 1)) u.1 u.2.1 u.2.2 ++ X)))) A) 0 0 A := by
  refine Met.ofW (cc := cX3_addVertex) (maxL := 1) (ret := (some .int)) (by decide) rfl ?_
  intro p e s m args below meth c s₁ B9 hml hv
  obtain ⟨rfl, hP, hK, hD⟩ := hv
  have hx := B9.exec
  have hb := B9.bytes
  have hr := B9.returns
  have hts := atoms_spec (ws := wsX3_addVertex) B9.pre
  have hown : s.vm.findClass RX3 = some m.cls := findClass_of_methodNamed B9.named
  have hlocks := B9.notSynchronized
  have hS : va_S A s.heap s.heap [] := va_S.rf
  have hl := lv_entry ([.ref xo]) (n := 1) (Nat.le_of_ble_eq_true rfl)
  rw [lg_entry_eq]
  generalize (lg_sl ([.ref xo]) ++ List.replicate (1 - (lg_sl ([.ref xo])).length) Slot.unset).toArray = ls at hl ⊢
  have hl : lv_has ls 1 [(0, .ref xo)] := hl
  refine lv_aload_n hx hb dX3_addVertex_0 rfl (lv_at hl 0 rfl) ?_
  refine lv_iconst (v := (nI 1)) hx hb dX3_addVertex_1 (by decide) ?_
  have hPc := hP.sub (ws' := (XW xo g lb se tl ts (bI bt) ++ (GW cJ g gA (nI n) (nI ec) ns ++ (LW cI cJ lb aR aV aH aD aP rk vb rc hs D Pp)))) [0, 1, 2, 3, 4, 5, 6, 7, 8] rfl
  refine x_rv (W.runV (As := [.int (nI 1)]) (rest := []) ⟨hx, hb, hml, hown, hts⟩ (c_requireRoomFor l dG cI cJ xo tl ts bt se g gA n ec ns lb aR aV aH aD aP rk vb rc hs D Pp (by omega) 1 (by omega)) (cwV 1 hts gX3_addVertex_X3_requireRoomFor rfl rfl rfl (by decide +kernel) ⟨Nat.le_of_ble_eq_true rfl, Nat.le_of_ble_eq_true rfl⟩) (RPc.pre hPc hK (va_recv hK.1 hPc (ci := 3) (q0 := 0) rfl rfl)) rfl rfl hl.1 rfl (lv_room (Nat.le_of_ble_eq_true rfl)) dX3_addVertex_2 ⟨Nat.zero_le _, Nat.zero_le _⟩) ?_
  refine lv_aload_n hx hb dX3_addVertex_5 rfl (lv_at hl 0 rfl) ?_
  have hPc : va_P dG vwCl (XW xo g lb se tl ts (bI bt) ++ (GW cJ g gA (nI n) (nI ec) ns ++ (LW cI cJ lb aR aV aH aD aP rk vb rc hs D Pp ++ X))) s.heap := hP
  have hDc : va_D A (XW xo g lb se tl ts (bI bt) ++ (GW cJ g gA (nI n) (nI ec) ns ++ (LW cI cJ lb aR aV aH aD aP rk vb rc hs D Pp ++ X))) := hD
  refine va_calli (va_runV (As := []) (rest := []) ⟨hx, hb, hml, hown, hts⟩ (c_appendB l dG cI cJ A xo tl ts bt se g gA n ec ns lb aR aV aH aD aP rk vb rc hs D Pp (by omega) L P hR hbt hrc _) (cwV 0 hts gX3_addVertex_X3_appendVertex rfl rfl rfl (by decide +kernel) ⟨Nat.le_of_ble_eq_true rfl, Nat.le_of_ble_eq_true rfl⟩) (WPc.pre hPc hDc hK (va_recv hK.1 hPc (ci := 3) (q0 := 0) rfl rfl)) rfl rfl hl.1 rfl (lv_room (Nat.le_of_ble_eq_true rfl)) dX3_addVertex_6 ⟨Nat.zero_le _, Nat.zero_le _⟩) hS (fun q _ h => h) (fun q h => h) (fun r9 u t H locs ht hvm hw hB hz1 hk1 hS => ?_)
  obtain ⟨hs1, D1, Pp1⟩ := u
  obtain ⟨hP, hD⟩ := hB
  rw [ht] at hP
  have hP : va_P dG vwCl (XW xo g lb se tl ts (bI bt) ++ (GW cJ g gA (nI (n + 1)) (nI ec) ns ++ (LW cI cJ lb aR aV aH aD aP (upd rk n (nI n)) (upd vb n (nI n)) (nI (n + 1)) hs1 D1 Pp1 ++ X))) H := hP
  have hD : va_D A (XW xo g lb se tl ts (bI bt) ++ (GW cJ g gA (nI (n + 1)) (nI ec) ns ++ (LW cI cJ lb aR aV aH aD aP (upd rk n (nI n)) (upd vb n (nI n)) (nI (n + 1)) hs1 D1 Pp1 ++ X))) := hD
  rw [show r9 = nI n from hw.1]
  exact W.iret (v := (nI n)) hx hb hr (fun t ht hW => ⟨⟨_, (hs1, D1, Pp1), rfl, ⟨rfl, hw.2⟩, by rw [ht]; exact hP, hD⟩, hS.F ht⟩) hS.2.2 dX3_addVertex_9

set_option maxHeartbeats 4000000 in
set_option maxRecDepth 100000 in
theorem c_addVerticesU (l : Launch) (dG : va_G) (cI cJ : ClassId) (A : Nat → Prop) (xo tl ts : Nat) (bt : Bool) (se : Nat) (g gA n ec : Nat) (ns : Nat → Int64) (lb aR aV aH aD aP : Nat) (rk vb : Nat → Int32) (rc : Int32) (hs : Nat → Int64) (D Pp : Nat → Int32) (c0 : Nat) (hc1 : 1 ≤ c0) (hc2 : n + c0 ≤ 48) (hbt : bt = false) (X : va_W) : Met l yX3_addVertices wsX3_addVertices ({ frames := 2, cells := 0, slots := 0, locals := 42 } : Room) (WPc dG cI cJ [.ref xo, .int (nI c0)] (XW xo g lb se tl ts (bI bt) ++ (GW cJ g gA (nI n) (nI ec) ns ++ (LW cI cJ lb aR aV aH aD aP rk vb rc hs D Pp ++ X))) A) (va_Qi (S := Unit) (fun r _ => r = nI (n + c0)) (fun _ => WB dG A (XW xo g lb se tl ts (bI bt) ++ (GW cJ g gA (nI (n + c0)) (nI ec) ns ++ (LW cI cJ lb aR aV aH aD aP rk vb rc hs D Pp ++ X)))) A) 0 0 A := by
  refine Met.ofW (cc := cX3_addVertices) (maxL := 3) (ret := (some .int)) (by decide) rfl ?_
  intro p e s m args below meth c s₁ B9 hml hv
  obtain ⟨rfl, hP, hK, hD⟩ := hv
  have hx := B9.exec
  have hb := B9.bytes
  have hr := B9.returns
  have hts := atoms_spec (ws := wsX3_addVertices) B9.pre
  have hown : s.vm.findClass RX3 = some m.cls := findClass_of_methodNamed B9.named
  have hlocks := B9.notSynchronized
  have hS : va_S A s.heap s.heap [] := va_S.rf
  have hl := lv_entry ([.ref xo, .int (nI c0)]) (n := 3) (Nat.le_of_ble_eq_true rfl)
  rw [lg_entry_eq]
  generalize (lg_sl ([.ref xo, .int (nI c0)]) ++ List.replicate (3 - (lg_sl ([.ref xo, .int (nI c0)])).length) Slot.unset).toArray = ls at hl ⊢
  have hl : lv_has ls 3 [(0, .ref xo), (1, .int (nI c0))] := hl
  have hiX3 : ∀ w ∈ wsX30, w ∈ wsX3_addVertices := by decide +kernel
  have hf10 := hts (.fieldLink RX3 10 "LandmarkLea" "graph" "LLandmarkLea$Graph;") (by decide +kernel)
  refine lv_iload_n hx hb dX3_addVertices_0 rfl (lv_at hl 1 rfl) ?_
  refine lv_iconst (v := (nI 1)) hx hb dX3_addVertices_1 (by decide) ?_
  refine x_icmp_ltN (i := c0) (j := 1) (tgt := 11) hx hb (by omega) (by omega) dX3_addVertices_2 (by decide) (fun c2 => ?_) (fun c2 => ?_)
  · skip
    exact absurd c2 (by omega)
  · skip
    refine lv_iload_n hx hb dX3_addVertices_5 rfl (lv_at hl 1 rfl) ?_
    refine lv_bipush (v := (nI 48)) hx hb dX3_addVertices_6 (by decide) ?_
    refine x_icmp_leN (i := c0) (j := 48) (tgt := 21) hx hb (by omega) (by omega) dX3_addVertices_8 (by decide) (fun c8 => ?_) (fun c8 => ?_)
    · skip
      refine lv_aload_n hx hb dX3_addVertices_21 rfl (lv_at hl 0 rfl) ?_
      refine lv_iload_n hx hb dX3_addVertices_22 rfl (lv_at hl 1 rfl) ?_
      have hPc := hP.sub (ws' := (XW xo g lb se tl ts (bI bt) ++ (GW cJ g gA (nI n) (nI ec) ns ++ (LW cI cJ lb aR aV aH aD aP rk vb rc hs D Pp)))) [0, 1, 2, 3, 4, 5, 6, 7, 8] rfl
      refine x_rv (W.runV (As := [.int (nI c0)]) (rest := []) ⟨hx, hb, hml, hown, hts⟩ (c_requireRoomFor l dG cI cJ xo tl ts bt se g gA n ec ns lb aR aV aH aD aP rk vb rc hs D Pp (by omega) c0 (by omega)) (cwV 1 hts gX3_addVertices_X3_requireRoomFor rfl rfl rfl (by decide +kernel) ⟨Nat.le_of_ble_eq_true rfl, Nat.le_of_ble_eq_true rfl⟩) (RPc.pre hPc hK (va_recv hK.1 hPc (ci := 3) (q0 := 0) rfl rfl)) rfl rfl hl.1 rfl (lv_room (Nat.le_of_ble_eq_true rfl)) dX3_addVertices_23 ⟨Nat.zero_le _, Nat.zero_le _⟩) ?_
      refine lv_iconst (v := (nI 0)) hx hb dX3_addVertices_26 (by decide) ?_
      refine lv_istore_n (lv' := [(2, .int (nI 0)), (0, .ref xo), (1, .int (nI c0))]) hx hb dX3_addVertices_27 rfl hl (by decide) rfl (fun ls hl => ?_)
      have loop : ∀ (QQ : State → Prop) (n1 : Nat) (k : Nat), c0 < k + n1 → k ≤ c0 → (∀ (H : Heap) (locs : List Loc), va_P dG vwCl (XW xo g lb se tl ts (bI bt) ++ (GW cJ g gA (nI (n + c0)) (nI ec) ns ++ (LW cI cJ lb aR aV aH aD aP rk vb rc hs D Pp ++ X))) H → va_D A (XW xo g lb se tl ts (bI bt) ++ (GW cJ g gA (nI (n + c0)) (nI ec) ns ++ (LW cI cJ lb aR aV aH aD aP rk vb rc hs D Pp ++ X))) → va_S A s.heap H locs → ∀ ls : Array Slot, lv_has ls 3 [(0, .ref xo), (1, .int (nI c0)), (2, .int (nI c0))] → W p l e ({ frames := 2, cells := 0, slots := 0, locals := 42 } : Room) s m ([.ref xo, .int (nI c0)] : List Value).toArray below meth c H locs 0 0 QQ (F0 m 44 ls [])) → ∀ (H : Heap) (locs : List Loc), va_P dG vwCl (XW xo g lb se tl ts (bI bt) ++ (GW cJ g gA (nI (n + k)) (nI ec) ns ++ (LW cI cJ lb aR aV aH aD aP rk vb rc hs D Pp ++ X))) H → va_D A (XW xo g lb se tl ts (bI bt) ++ (GW cJ g gA (nI (n + k)) (nI ec) ns ++ (LW cI cJ lb aR aV aH aD aP rk vb rc hs D Pp ++ X))) → va_S A s.heap H locs → ∀ ls : Array Slot, lv_has ls 3 [(0, .ref xo), (1, .int (nI c0)), (2, .int (nI k))] → W p l e ({ frames := 2, cells := 0, slots := 0, locals := 42 } : Room) s m ([.ref xo, .int (nI c0)] : List Value).toArray below meth c H locs 0 0 QQ (F0 m 28 ls []) := by
        intro QQ n1
        induction n1 with
        | zero => intro k h1 h2; exact absurd h1 (by omega)
        | succ n1 ih =>
          intro k h1 h2 kx H locs hP hD hS ls hl
          refine lv_iload_n hx hb dX3_addVertices_28 rfl (lv_at hl 2 rfl) ?_
          refine lv_iload_n hx hb dX3_addVertices_29 rfl (lv_at hl 1 rfl) ?_
          refine x_icmp_geN (i := k) (j := c0) (tgt := 44) hx hb (by omega) (by omega) dX3_addVertices_30 (by decide) (fun c30 => ?_) (fun c30 => ?_)
          · skip
            have ek : k = c0 := by omega
            subst ek
            exact kx  H locs hP hD hS ls (lv_sub hl [0, 1, 2] rfl)
          · skip
            refine lv_aload_n hx hb dX3_addVertices_33 rfl (lv_at hl 0 rfl) ?_
            have hPc : va_P dG vwCl (XW xo g lb se tl ts (bI bt) ++ (GW cJ g gA (nI (n + k)) (nI ec) ns ++ (LW cI cJ lb aR aV aH aD aP rk vb rc hs D Pp ++ X))) H := hP
            have hDc : va_D A (XW xo g lb se tl ts (bI bt) ++ (GW cJ g gA (nI (n + k)) (nI ec) ns ++ (LW cI cJ lb aR aV aH aD aP rk vb rc hs D Pp ++ X))) := hD
            refine va_calli (va_runV (As := []) (rest := []) ⟨hx, hb, hml, hown, hts⟩ (c_appendU l dG cI cJ A xo tl ts bt se g gA (n + k) ec ns lb aR aV aH aD aP rk vb rc hs D Pp (by omega) hbt _) (cwV 0 hts gX3_addVertices_X3_appendVertex rfl rfl rfl (by decide +kernel) ⟨Nat.le_of_ble_eq_true rfl, Nat.le_of_ble_eq_true rfl⟩) (WPc.pre hPc hDc hK (va_recv hK.1 hPc (ci := 3) (q0 := 0) rfl rfl)) rfl rfl hl.1 rfl (lv_room (Nat.le_of_ble_eq_true rfl)) dX3_addVertices_34 ⟨Nat.zero_le _, Nat.zero_le _⟩) hS (fun q _ h => h) (fun q h => h) (fun r9 u9 t H locs ht hvm hw hB hz1 hk1 hS => ?_)
            obtain ⟨hP, hD⟩ := hB
            rw [ht] at hP
            have hP : va_P dG vwCl (XW xo g lb se tl ts (bI bt) ++ (GW cJ g gA (nI (n + (k + 1))) (nI ec) ns ++ (LW cI cJ lb aR aV aH aD aP rk vb rc hs D Pp ++ X))) H := hP
            have hD : va_D A (XW xo g lb se tl ts (bI bt) ++ (GW cJ g gA (nI (n + (k + 1))) (nI ec) ns ++ (LW cI cJ lb aR aV aH aD aP rk vb rc hs D Pp ++ X))) := hD
            refine lv_pop hx hb dX3_addVertices_37 rfl ?_
            refine x_iincN (lv' := [(2, .int (nI (k + 1))), (0, .ref xo), (1, .int (nI c0))]) hx hb dX3_addVertices_38 hl (k := 2) rfl (by decide) rfl (fun ls hl => ?_)
            refine lv_goto (tgt := 28) hx hb dX3_addVertices_41 (by decide) ?_
            exact ih (k + 1) (by omega) (by omega) kx H locs hP hD hS ls (lv_sub hl [1, 2, 0] rfl)
      refine loop _ 49 0 (by omega) (by omega) (fun  H locs hP hD hS ls hl => ?_) s.heap [] hP hD hS ls (lv_sub hl [1, 2, 0] rfl)
      refine lv_aload_n hx hb dX3_addVertices_44 rfl (lv_at hl 0 rfl) ?_
      refine va_get (D := dG) (ci := 3) (v := .ref g) (C := RX3) (T := TX3) (N := 6) hx hb hts hiX3 hown hK.1 hP 0 rfl rfl 0 (by decide) hf10 (fun _ h9 => h9) rfl dX3_addVertices_45 ?_
      have hPc := hP.sub (ws' := (GW cJ g gA (nI (n + c0)) (nI ec) ns)) [1, 2] rfl
      refine x_ri (W.runV (As := []) (rest := []) ⟨hx, hb, hml, hown, hts⟩ (c_size l dG cI cJ g gA (n + c0) ec ns) (cwV 0 hts gX3_addVertices_X0_size rfl rfl rfl (by decide +kernel) ⟨Nat.le_of_ble_eq_true rfl, Nat.le_of_ble_eq_true rfl⟩) (RPc.pre hPc hK (va_recv hK.1 hPc (ci := 0) (q0 := 0) rfl rfl)) rfl rfl hl.1 rfl (lv_room (Nat.le_of_ble_eq_true rfl)) dX3_addVertices_48 ⟨Nat.zero_le _, Nat.zero_le _⟩) ?_
      exact W.iret (v := (nI (n + c0))) hx hb hr (fun t ht hW => ⟨⟨_, (), rfl, rfl, by rw [ht]; exact hP, hD⟩, hS.F ht⟩) hS.2.2 dX3_addVertices_51
    · skip
      exact absurd c8 (by omega)

set_option maxHeartbeats 4000000 in
set_option maxRecDepth 100000 in
theorem c_addVerticesB (l : Launch) (dG : va_G) (cI cJ : ClassId) (A : Nat → Prop) (xo tl ts : Nat) (bt : Bool) (se : Nat) (g gA n ec : Nat) (ns : Nat → Int64) (lb aR aV aH aD aP : Nat) (rk vb : Nat → Int32) (rc : Int32) (hs : Nat → Int64) (D Pp : Nat → Int32) (L P : Nat → Nat → Option Nat) (hR : RepL L P hs D Pp) (c0 : Nat) (hc1 : 1 ≤ c0) (hc2 : n + c0 ≤ 48) (hbt : bt = true) (hrc : rc = nI n) (X : va_W) : Met l yX3_addVertices wsX3_addVertices ({ frames := 3, cells := 0, slots := 0, locals := 65 } : Room) (WPc dG cI cJ [.ref xo, .int (nI c0)] (XW xo g lb se tl ts (bI bt) ++ (GW cJ g gA (nI n) (nI ec) ns ++ (LW cI cJ lb aR aV aH aD aP rk vb rc hs D Pp ++ X))) A) (va_Qi (S := (Nat → Int64) × (Nat → Int32) × (Nat → Int32)) (fun r u => r = nI (n + c0) ∧ RepL (adL L n c0) (adP P n c0) u.1 u.2.1 u.2.2) (fun u => WB dG A (XW xo g lb se tl ts (bI bt) ++ (GW cJ g gA (nI (n + c0)) (nI ec) ns ++ (LW cI cJ lb aR aV aH aD aP (adH rk n c0) (adH vb n c0) (nI (n + c0)) u.1 u.2.1 u.2.2 ++ X)))) A) 0 0 A := by
  refine Met.ofW (cc := cX3_addVertices) (maxL := 3) (ret := (some .int)) (by decide) rfl ?_
  intro p e s m args below meth c s₁ B9 hml hv
  obtain ⟨rfl, hP, hK, hD⟩ := hv
  have hx := B9.exec
  have hb := B9.bytes
  have hr := B9.returns
  have hts := atoms_spec (ws := wsX3_addVertices) B9.pre
  have hown : s.vm.findClass RX3 = some m.cls := findClass_of_methodNamed B9.named
  have hlocks := B9.notSynchronized
  have hS : va_S A s.heap s.heap [] := va_S.rf
  have hl := lv_entry ([.ref xo, .int (nI c0)]) (n := 3) (Nat.le_of_ble_eq_true rfl)
  rw [lg_entry_eq]
  generalize (lg_sl ([.ref xo, .int (nI c0)]) ++ List.replicate (3 - (lg_sl ([.ref xo, .int (nI c0)])).length) Slot.unset).toArray = ls at hl ⊢
  have hl : lv_has ls 3 [(0, .ref xo), (1, .int (nI c0))] := hl
  have hiX3 : ∀ w ∈ wsX30, w ∈ wsX3_addVertices := by decide +kernel
  have hf10 := hts (.fieldLink RX3 10 "LandmarkLea" "graph" "LLandmarkLea$Graph;") (by decide +kernel)
  subst hrc
  refine lv_iload_n hx hb dX3_addVertices_0 rfl (lv_at hl 1 rfl) ?_
  refine lv_iconst (v := (nI 1)) hx hb dX3_addVertices_1 (by decide) ?_
  refine x_icmp_ltN (i := c0) (j := 1) (tgt := 11) hx hb (by omega) (by omega) dX3_addVertices_2 (by decide) (fun c2 => ?_) (fun c2 => ?_)
  · skip
    exact absurd c2 (by omega)
  · skip
    refine lv_iload_n hx hb dX3_addVertices_5 rfl (lv_at hl 1 rfl) ?_
    refine lv_bipush (v := (nI 48)) hx hb dX3_addVertices_6 (by decide) ?_
    refine x_icmp_leN (i := c0) (j := 48) (tgt := 21) hx hb (by omega) (by omega) dX3_addVertices_8 (by decide) (fun c8 => ?_) (fun c8 => ?_)
    · skip
      refine lv_aload_n hx hb dX3_addVertices_21 rfl (lv_at hl 0 rfl) ?_
      refine lv_iload_n hx hb dX3_addVertices_22 rfl (lv_at hl 1 rfl) ?_
      have hPc := hP.sub (ws' := (XW xo g lb se tl ts (bI bt) ++ (GW cJ g gA (nI n) (nI ec) ns ++ (LW cI cJ lb aR aV aH aD aP rk vb (nI n) hs D Pp)))) [0, 1, 2, 3, 4, 5, 6, 7, 8] rfl
      refine x_rv (W.runV (As := [.int (nI c0)]) (rest := []) ⟨hx, hb, hml, hown, hts⟩ (c_requireRoomFor l dG cI cJ xo tl ts bt se g gA n ec ns lb aR aV aH aD aP rk vb (nI n) hs D Pp (by omega) c0 (by omega)) (cwV 1 hts gX3_addVertices_X3_requireRoomFor rfl rfl rfl (by decide +kernel) ⟨Nat.le_of_ble_eq_true rfl, Nat.le_of_ble_eq_true rfl⟩) (RPc.pre hPc hK (va_recv hK.1 hPc (ci := 3) (q0 := 0) rfl rfl)) rfl rfl hl.1 rfl (lv_room (Nat.le_of_ble_eq_true rfl)) dX3_addVertices_23 ⟨Nat.zero_le _, Nat.zero_le _⟩) ?_
      refine lv_iconst (v := (nI 0)) hx hb dX3_addVertices_26 (by decide) ?_
      refine lv_istore_n (lv' := [(2, .int (nI 0)), (0, .ref xo), (1, .int (nI c0))]) hx hb dX3_addVertices_27 rfl hl (by decide) rfl (fun ls hl => ?_)
      have loop : ∀ (QQ : State → Prop) (n1 : Nat) (k : Nat) (hs : Nat → Int64) (D Pp : Nat → Int32), c0 < k + n1 → k ≤ c0 → RepL (adL L n k) (adP P n k) hs D Pp → (∀ (hs : Nat → Int64) (D Pp : Nat → Int32) (_ : RepL (adL L n c0) (adP P n c0) hs D Pp), ∀ (H : Heap) (locs : List Loc), va_P dG vwCl (XW xo g lb se tl ts (bI bt) ++ (GW cJ g gA (nI (n + c0)) (nI ec) ns ++ (LW cI cJ lb aR aV aH aD aP (adH rk n c0) (adH vb n c0) (nI (n + c0)) hs D Pp ++ X))) H → va_D A (XW xo g lb se tl ts (bI bt) ++ (GW cJ g gA (nI (n + c0)) (nI ec) ns ++ (LW cI cJ lb aR aV aH aD aP (adH rk n c0) (adH vb n c0) (nI (n + c0)) hs D Pp ++ X))) → va_S A s.heap H locs → ∀ ls : Array Slot, lv_has ls 3 [(0, .ref xo), (1, .int (nI c0)), (2, .int (nI c0))] → W p l e ({ frames := 3, cells := 0, slots := 0, locals := 65 } : Room) s m ([.ref xo, .int (nI c0)] : List Value).toArray below meth c H locs 0 0 QQ (F0 m 44 ls [])) → ∀ (H : Heap) (locs : List Loc), va_P dG vwCl (XW xo g lb se tl ts (bI bt) ++ (GW cJ g gA (nI (n + k)) (nI ec) ns ++ (LW cI cJ lb aR aV aH aD aP (adH rk n k) (adH vb n k) (nI (n + k)) hs D Pp ++ X))) H → va_D A (XW xo g lb se tl ts (bI bt) ++ (GW cJ g gA (nI (n + k)) (nI ec) ns ++ (LW cI cJ lb aR aV aH aD aP (adH rk n k) (adH vb n k) (nI (n + k)) hs D Pp ++ X))) → va_S A s.heap H locs → ∀ ls : Array Slot, lv_has ls 3 [(0, .ref xo), (1, .int (nI c0)), (2, .int (nI k))] → W p l e ({ frames := 3, cells := 0, slots := 0, locals := 65 } : Room) s m ([.ref xo, .int (nI c0)] : List Value).toArray below meth c H locs 0 0 QQ (F0 m 28 ls []) := by
        intro QQ n1
        induction n1 with
        | zero => intro k hs D Pp h1 h2 hRk; exact absurd h1 (by omega)
        | succ n1 ih =>
          intro k hs D Pp h1 h2 hRk kx H locs hP hD hS ls hl
          refine lv_iload_n hx hb dX3_addVertices_28 rfl (lv_at hl 2 rfl) ?_
          refine lv_iload_n hx hb dX3_addVertices_29 rfl (lv_at hl 1 rfl) ?_
          refine x_icmp_geN (i := k) (j := c0) (tgt := 44) hx hb (by omega) (by omega) dX3_addVertices_30 (by decide) (fun c30 => ?_) (fun c30 => ?_)
          · skip
            have ek : k = c0 := by omega
            subst ek
            exact kx (hs) (D) (Pp) (hRk) H locs hP hD hS ls (lv_sub hl [0, 1, 2] rfl)
          · skip
            refine lv_aload_n hx hb dX3_addVertices_33 rfl (lv_at hl 0 rfl) ?_
            have hPc : va_P dG vwCl (XW xo g lb se tl ts (bI bt) ++ (GW cJ g gA (nI (n + k)) (nI ec) ns ++ (LW cI cJ lb aR aV aH aD aP (adH rk n k) (adH vb n k) (nI (n + k)) hs D Pp ++ X))) H := hP
            have hDc : va_D A (XW xo g lb se tl ts (bI bt) ++ (GW cJ g gA (nI (n + k)) (nI ec) ns ++ (LW cI cJ lb aR aV aH aD aP (adH rk n k) (adH vb n k) (nI (n + k)) hs D Pp ++ X))) := hD
            refine va_calli (va_runV (As := []) (rest := []) ⟨hx, hb, hml, hown, hts⟩ (c_appendB l dG cI cJ A xo tl ts bt se g gA (n + k) ec ns lb aR aV aH aD aP (adH rk n k) (adH vb n k) (nI (n + k)) hs D Pp (by omega) (adL L n k) (adP P n k) hRk hbt rfl _) (cwV 0 hts gX3_addVertices_X3_appendVertex rfl rfl rfl (by decide +kernel) ⟨Nat.le_of_ble_eq_true rfl, Nat.le_of_ble_eq_true rfl⟩) (WPc.pre hPc hDc hK (va_recv hK.1 hPc (ci := 3) (q0 := 0) rfl rfl)) rfl rfl hl.1 rfl (lv_room (Nat.le_of_ble_eq_true rfl)) dX3_addVertices_34 ⟨Nat.zero_le _, Nat.zero_le _⟩) hS (fun q _ h => h) (fun q h => h) (fun r9 u t H locs ht hvm hw hB hz1 hk1 hS => ?_)
            obtain ⟨hs1, D1, Pp1⟩ := u
            obtain ⟨hP, hD⟩ := hB
            rw [ht] at hP
            have hP : va_P dG vwCl (XW xo g lb se tl ts (bI bt) ++ (GW cJ g gA (nI (n + (k + 1))) (nI ec) ns ++ (LW cI cJ lb aR aV aH aD aP (adH rk n (k + 1)) (adH vb n (k + 1)) (nI (n + (k + 1))) hs1 D1 Pp1 ++ X))) H := hP
            have hD : va_D A (XW xo g lb se tl ts (bI bt) ++ (GW cJ g gA (nI (n + (k + 1))) (nI ec) ns ++ (LW cI cJ lb aR aV aH aD aP (adH rk n (k + 1)) (adH vb n (k + 1)) (nI (n + (k + 1))) hs1 D1 Pp1 ++ X))) := hD
            refine lv_pop hx hb dX3_addVertices_37 rfl ?_
            refine x_iincN (lv' := [(2, .int (nI (k + 1))), (0, .ref xo), (1, .int (nI c0))]) hx hb dX3_addVertices_38 hl (k := 2) rfl (by decide) rfl (fun ls hl => ?_)
            refine lv_goto (tgt := 28) hx hb dX3_addVertices_41 (by decide) ?_
            exact ih (k + 1) hs1 D1 Pp1 (by omega) (by omega) (hw.2) kx H locs hP hD hS ls (lv_sub hl [1, 2, 0] rfl)
      refine loop _ 49 0 hs D Pp (by omega) (by omega) (hR) (fun hs D Pp hRk H locs hP hD hS ls hl => ?_) s.heap [] hP hD hS ls (lv_sub hl [1, 2, 0] rfl)
      refine lv_aload_n hx hb dX3_addVertices_44 rfl (lv_at hl 0 rfl) ?_
      refine va_get (D := dG) (ci := 3) (v := .ref g) (C := RX3) (T := TX3) (N := 6) hx hb hts hiX3 hown hK.1 hP 0 rfl rfl 0 (by decide) hf10 (fun _ h9 => h9) rfl dX3_addVertices_45 ?_
      have hPc := hP.sub (ws' := (GW cJ g gA (nI (n + c0)) (nI ec) ns)) [1, 2] rfl
      refine x_ri (W.runV (As := []) (rest := []) ⟨hx, hb, hml, hown, hts⟩ (c_size l dG cI cJ g gA (n + c0) ec ns) (cwV 0 hts gX3_addVertices_X0_size rfl rfl rfl (by decide +kernel) ⟨Nat.le_of_ble_eq_true rfl, Nat.le_of_ble_eq_true rfl⟩) (RPc.pre hPc hK (va_recv hK.1 hPc (ci := 0) (q0 := 0) rfl rfl)) rfl rfl hl.1 rfl (lv_room (Nat.le_of_ble_eq_true rfl)) dX3_addVertices_48 ⟨Nat.zero_le _, Nat.zero_le _⟩) ?_
      exact W.iret (v := (nI (n + c0))) hx hb hr (fun t ht hW => ⟨⟨_, (hs, D, Pp), rfl, ⟨rfl, hRk⟩, by rw [ht]; exact hP, hD⟩, hS.F ht⟩) hS.2.2 dX3_addVertices_51
    · skip
      exact absurd c8 (by omega)

set_option maxHeartbeats 4000000 in
set_option maxRecDepth 100000 in
theorem c_addEdgeU (l : Launch) (dG : va_G) (cI cJ : ClassId) (A : Nat → Prop) (xo tl ts : Nat) (bt : Bool) (se : Nat) (g gA n ec : Nat) (ns : Nat → Int64) (lb aR aV aH aD aP : Nat) (rk vb : Nat → Int32) (rc : Int32) (hs : Nat → Int64) (D Pp : Nat → Int32) (hn : n ≤ 48) (a b : Nat) (ha : a < n) (hb0n : b < n) (hne2 : a ≠ b) (hed : gb (ns a) b = false) (hbt : bt = false) (X : va_W) : Met l yX3_addEdge wsX3_addEdge ({ frames := 6, cells := 0, slots := 0, locals := 147 } : Room) (WPc dG cI cJ [.ref xo, .int (nI a), .int (nI b)] (XW xo g lb se tl ts (bI bt) ++ (GW cJ g gA (nI n) (nI ec) ns ++ (LW cI cJ lb aR aV aH aD aP rk vb rc hs D Pp ++ X))) A) (va_Qi (S := Unit) (fun r _ => r = nI 0) (fun _ => WB dG A (XW xo g lb se tl ts (bI bt) ++ (GW cJ g gA (nI n) (nI (ec + 1)) (jn ns a b) ++ (LW cI cJ lb aR aV aH aD aP rk vb rc hs D Pp ++ X)))) A) 0 0 A := by
  refine Met.ofW (cc := cX3_addEdge) (maxL := 3) (ret := (some .int)) (by decide) rfl ?_
  intro p e s m args below meth c s₁ B9 hml hv
  obtain ⟨rfl, hP, hK, hD⟩ := hv
  have hx := B9.exec
  have hb := B9.bytes
  have hr := B9.returns
  have hts := atoms_spec (ws := wsX3_addEdge) B9.pre
  have hown : s.vm.findClass RX3 = some m.cls := findClass_of_methodNamed B9.named
  have hlocks := B9.notSynchronized
  have hS : va_S A s.heap s.heap [] := va_S.rf
  have hl := lv_entry ([.ref xo, .int (nI a), .int (nI b)]) (n := 3) (Nat.le_of_ble_eq_true rfl)
  rw [lg_entry_eq]
  generalize (lg_sl ([.ref xo, .int (nI a), .int (nI b)]) ++ List.replicate (3 - (lg_sl ([.ref xo, .int (nI a), .int (nI b)])).length) Slot.unset).toArray = ls at hl ⊢
  have hl : lv_has ls 3 [(0, .ref xo), (1, .int (nI a)), (2, .int (nI b))] := hl
  have hiX3 : ∀ w ∈ wsX30, w ∈ wsX3_addEdge := by decide +kernel
  have hf10 := hts (.fieldLink RX3 10 "LandmarkLea" "graph" "LLandmarkLea$Graph;") (by decide +kernel)
  have hf28 := hts (.fieldLink RX3 28 "LandmarkLea" "searches" "LLandmarkLea$Searches;") (by decide +kernel)
  have hf38 := hts (.fieldLink RX3 38 "LandmarkLea" "labelled" "Z") (by decide +kernel)
  refine lv_aload_n hx hb dX3_addEdge_0 rfl (lv_at hl 0 rfl) ?_
  refine lv_iload_n hx hb dX3_addEdge_1 rfl (lv_at hl 1 rfl) ?_
  have hPc := hP.sub (ws' := (XW xo g lb se tl ts (bI bt) ++ (GW cJ g gA (nI n) (nI ec) ns ++ (LW cI cJ lb aR aV aH aD aP rk vb rc hs D Pp)))) [0, 1, 2, 3, 4, 5, 6, 7, 8] rfl
  refine x_rv (W.runV (As := [.int (nI a)]) (rest := []) ⟨hx, hb, hml, hown, hts⟩ (c_requireVertex l dG cI cJ xo tl ts bt se g gA n ec ns lb aR aV aH aD aP rk vb rc hs D Pp hn a ha) (cwV 1 hts gX3_addEdge_X3_requireVertex rfl rfl rfl (by decide +kernel) ⟨Nat.le_of_ble_eq_true rfl, Nat.le_of_ble_eq_true rfl⟩) (RPc.pre hPc hK (va_recv hK.1 hPc (ci := 3) (q0 := 0) rfl rfl)) rfl rfl hl.1 rfl (lv_room (Nat.le_of_ble_eq_true rfl)) dX3_addEdge_2 ⟨Nat.zero_le _, Nat.zero_le _⟩) ?_
  refine lv_aload_n hx hb dX3_addEdge_5 rfl (lv_at hl 0 rfl) ?_
  refine lv_iload_n hx hb dX3_addEdge_6 rfl (lv_at hl 2 rfl) ?_
  have hPc := hP.sub (ws' := (XW xo g lb se tl ts (bI bt) ++ (GW cJ g gA (nI n) (nI ec) ns ++ (LW cI cJ lb aR aV aH aD aP rk vb rc hs D Pp)))) [0, 1, 2, 3, 4, 5, 6, 7, 8] rfl
  refine x_rv (W.runV (As := [.int (nI b)]) (rest := []) ⟨hx, hb, hml, hown, hts⟩ (c_requireVertex l dG cI cJ xo tl ts bt se g gA n ec ns lb aR aV aH aD aP rk vb rc hs D Pp hn b hb0n) (cwV 1 hts gX3_addEdge_X3_requireVertex rfl rfl rfl (by decide +kernel) ⟨Nat.le_of_ble_eq_true rfl, Nat.le_of_ble_eq_true rfl⟩) (RPc.pre hPc hK (va_recv hK.1 hPc (ci := 3) (q0 := 0) rfl rfl)) rfl rfl hl.1 rfl (lv_room (Nat.le_of_ble_eq_true rfl)) dX3_addEdge_7 ⟨Nat.zero_le _, Nat.zero_le _⟩) ?_
  refine lv_iload_n hx hb dX3_addEdge_10 rfl (lv_at hl 1 rfl) ?_
  refine lv_iload_n hx hb dX3_addEdge_11 rfl (lv_at hl 2 rfl) ?_
  refine x_icmp_eqN (i := a) (j := b) (tgt := 27) hx hb (by omega) (by omega) dX3_addEdge_12 (by decide) (fun c12 => ?_) (fun c12 => ?_)
  · skip
    exact absurd c12 hne2
  · skip
    refine lv_aload_n hx hb dX3_addEdge_15 rfl (lv_at hl 0 rfl) ?_
    refine va_get (D := dG) (ci := 3) (v := .ref g) (C := RX3) (T := TX3) (N := 6) hx hb hts hiX3 hown hK.1 hP 0 rfl rfl 0 (by decide) hf10 (fun _ h9 => h9) rfl dX3_addEdge_16 ?_
    refine lv_iload_n hx hb dX3_addEdge_19 rfl (lv_at hl 1 rfl) ?_
    refine lv_iload_n hx hb dX3_addEdge_20 rfl (lv_at hl 2 rfl) ?_
    have hPc := hP.sub (ws' := (GW cJ g gA (nI n) (nI ec) ns)) [1, 2] rfl
    refine x_ri (W.runV (As := [.int (nI a), .int (nI b)]) (rest := []) ⟨hx, hb, hml, hown, hts⟩ (c_joins l dG cI cJ g gA n ec ns a b (by omega) (by omega)) (cwV 2 hts gX3_addEdge_X0_joins rfl rfl rfl (by decide +kernel) ⟨Nat.le_of_ble_eq_true rfl, Nat.le_of_ble_eq_true rfl⟩) (RPc.pre hPc hK (va_recv hK.1 hPc (ci := 0) (q0 := 0) rfl rfl)) rfl rfl hl.1 rfl (lv_room (Nat.le_of_ble_eq_true rfl)) dX3_addEdge_21 ⟨Nat.zero_le _, Nat.zero_le _⟩) ?_
    refine x_ifeqB (tgt := 37) hx hb dX3_addEdge_24 (by decide) (fun c24 => ?_) (fun c24 => ?_)
    · skip
      refine lv_aload_n hx hb dX3_addEdge_37 rfl (lv_at hl 0 rfl) ?_
      refine va_get (D := dG) (ci := 3) (v := .ref g) (C := RX3) (T := TX3) (N := 6) hx hb hts hiX3 hown hK.1 hP 0 rfl rfl 0 (by decide) hf10 (fun _ h9 => h9) rfl dX3_addEdge_38 ?_
      refine lv_iload_n hx hb dX3_addEdge_41 rfl (lv_at hl 1 rfl) ?_
      refine lv_iload_n hx hb dX3_addEdge_42 rfl (lv_at hl 2 rfl) ?_
      have hPc : va_P dG vwCl (GW cJ g gA (nI n) (nI ec) ns ++ (XW xo g lb se tl ts (bI bt) ++ (LW cI cJ lb aR aV aH aD aP rk vb rc hs D Pp ++ X))) s.heap := va_P.perm hP (List.perm_append_comm_assoc _ _ _)
      have hDc : va_D A (GW cJ g gA (nI n) (nI ec) ns ++ (XW xo g lb se tl ts (bI bt) ++ (LW cI cJ lb aR aV aH aD aP rk vb rc hs D Pp ++ X))) := va_D.perm hD (List.perm_append_comm_assoc _ _ _)
      refine va_callv (va_runV (As := [.int (nI a), .int (nI b)]) (rest := []) ⟨hx, hb, hml, hown, hts⟩ (c_join l dG cI cJ A g gA n ec ns a b (by omega) (by omega) _) (cwV 2 hts gX3_addEdge_X0_join rfl rfl rfl (by decide +kernel) ⟨Nat.le_of_ble_eq_true rfl, Nat.le_of_ble_eq_true rfl⟩) (WPc.pre hPc hDc hK (va_recv hK.1 hPc (ci := 0) (q0 := 0) rfl rfl)) rfl rfl hl.1 rfl (lv_room (Nat.le_of_ble_eq_true rfl)) dX3_addEdge_43 ⟨Nat.zero_le _, Nat.zero_le _⟩) hS (fun q _ h => h) (fun q h => h) (fun u9 t H locs ht hvm hw hB hz1 hk1 hS => ?_)
      obtain ⟨hP, hD⟩ := hB
      rw [ht] at hP
      have hP : va_P dG vwCl (GW cJ g gA (nI n) (nI (ec + 1)) (jn ns a b) ++ (XW xo g lb se tl ts (bI bt) ++ (LW cI cJ lb aR aV aH aD aP rk vb rc hs D Pp ++ X))) H := hP
      have hD : va_D A (GW cJ g gA (nI n) (nI (ec + 1)) (jn ns a b) ++ (XW xo g lb se tl ts (bI bt) ++ (LW cI cJ lb aR aV aH aD aP rk vb rc hs D Pp ++ X))) := hD
      have hP : va_P dG vwCl (XW xo g lb se tl ts (bI bt) ++ (GW cJ g gA (nI n) (nI (ec + 1)) (jn ns a b) ++ (LW cI cJ lb aR aV aH aD aP rk vb rc hs D Pp ++ X))) H := va_P.perm hP (List.perm_append_comm_assoc _ _ _)
      have hD : va_D A (XW xo g lb se tl ts (bI bt) ++ (GW cJ g gA (nI n) (nI (ec + 1)) (jn ns a b) ++ (LW cI cJ lb aR aV aH aD aP rk vb rc hs D Pp ++ X))) := va_D.perm hD (List.perm_append_comm_assoc _ _ _)
      refine lv_aload_n hx hb dX3_addEdge_46 rfl (lv_at hl 0 rfl) ?_
      refine va_get (D := dG) (ci := 3) (v := .int (bI bt)) (C := RX3) (T := TX3) (N := 6) hx hb hts hiX3 hown hK.1 hP 0 rfl rfl 5 (by decide) hf38 (fun _ h9 => h9) rfl dX3_addEdge_47 ?_
      refine x_ifeqB (tgt := 65) hx hb dX3_addEdge_50 (by decide) (fun c50 => ?_) (fun c50 => ?_)
      · skip
        refine lv_iconst (v := (nI 0)) hx hb dX3_addEdge_65 (by decide) ?_
        exact W.iret (v := (nI 0)) hx hb hr (fun t ht hW => ⟨⟨_, (), rfl, rfl, by rw [ht]; exact hP, hD⟩, hS.F ht⟩) hS.2.2 dX3_addEdge_66
      · skip
        rw [hbt] at c50; cases c50
    · skip
      rw [hed] at c24; cases c24

set_option maxHeartbeats 4000000 in
set_option maxRecDepth 100000 in
theorem c_addEdgeB (l : Launch) (dG : va_G) (cI cJ : ClassId) (A : Nat → Prop) (qa qb qc : Nat) (qv qd qp : Nat → Int32) (ql : Int32) (qs : Int64) (vi pr wr : Int32) (xo tl ts : Nat) (bt : Bool) (se : Nat) (g gA n ec : Nat) (ns : Nat → Int64) (lb aR aV aH aD aP : Nat) (rk vb : Nat → Int32) (rc : Int32) (hs : Nat → Int64) (D Pp : Nat → Int32) (hn : n ≤ 48) (L P : Nat → Nat → Option Nat) (hR : RepL L P hs D Pp) (a b : Nat) (ha : a < n) (hb0n : b < n) (hne2 : a ≠ b) (hed : gb (ns a) b = false) (hbt : bt = true) (B : Nat) (hL : LBd L B) (hB3 : B + 4704 ≤ 2 ^ 30) (hb0 : Nat → Nat) (hhb : ∀ k, k < n → hb0 k < n ∧ vb k = nI (hb0 k)) (F : BT) (hF : ex (jn ns a b) n hb0 a b L P n = F) (X : va_W) : Met l yX3_addEdge wsX3_addEdge ({ frames := 6, cells := 0, slots := 0, locals := 147 } : Room) (WPc dG cI cJ [.ref xo, .int (nI a), .int (nI b)] (XW xo g lb se tl ts (bI bt) ++ (SW cI g lb se qa qb qc qv qd qp ql qs vi pr wr ++ (GW cJ g gA (nI n) (nI ec) ns ++ (LW cI cJ lb aR aV aH aD aP rk vb rc hs D Pp ++ X)))) A) (va_Qi (S := Int32 × Int64 × (Nat → Int32) × (Nat → Int32) × (Nat → Int32) × (Nat → Int64) × (Nat → Int32) × (Nat → Int32)) (fun r u => r = nI F.2.2.1 ∧ RepL F.1 F.2.1 u.2.2.2.2.2.1 u.2.2.2.2.2.2.1 u.2.2.2.2.2.2.2) (fun u => WB dG A (XW xo g lb se tl ts (bI bt) ++ (SW cI g lb se qa qb qc u.2.2.1 u.2.2.2.1 u.2.2.2.2.1 u.1 u.2.1 (nI F.2.2.1) (nI F.2.2.2.1) (nI F.2.2.2.2) ++ (GW cJ g gA (nI n) (nI (ec + 1)) (jn ns a b) ++ (LW cI cJ lb aR aV aH aD aP rk vb rc u.2.2.2.2.2.1 u.2.2.2.2.2.2.1 u.2.2.2.2.2.2.2 ++ X))))) A) 0 0 A := by
  refine Met.ofW (cc := cX3_addEdge) (maxL := 3) (ret := (some .int)) (by decide) rfl ?_
  intro p e s m args below meth c s₁ B9 hml hv
  obtain ⟨rfl, hP, hK, hD⟩ := hv
  have hx := B9.exec
  have hb := B9.bytes
  have hr := B9.returns
  have hts := atoms_spec (ws := wsX3_addEdge) B9.pre
  have hown : s.vm.findClass RX3 = some m.cls := findClass_of_methodNamed B9.named
  have hlocks := B9.notSynchronized
  have hS : va_S A s.heap s.heap [] := va_S.rf
  have hl := lv_entry ([.ref xo, .int (nI a), .int (nI b)]) (n := 3) (Nat.le_of_ble_eq_true rfl)
  rw [lg_entry_eq]
  generalize (lg_sl ([.ref xo, .int (nI a), .int (nI b)]) ++ List.replicate (3 - (lg_sl ([.ref xo, .int (nI a), .int (nI b)])).length) Slot.unset).toArray = ls at hl ⊢
  have hl : lv_has ls 3 [(0, .ref xo), (1, .int (nI a)), (2, .int (nI b))] := hl
  have hiX3 : ∀ w ∈ wsX30, w ∈ wsX3_addEdge := by decide +kernel
  have hf10 := hts (.fieldLink RX3 10 "LandmarkLea" "graph" "LLandmarkLea$Graph;") (by decide +kernel)
  have hf28 := hts (.fieldLink RX3 28 "LandmarkLea" "searches" "LLandmarkLea$Searches;") (by decide +kernel)
  have hf38 := hts (.fieldLink RX3 38 "LandmarkLea" "labelled" "Z") (by decide +kernel)
  refine lv_aload_n hx hb dX3_addEdge_0 rfl (lv_at hl 0 rfl) ?_
  refine lv_iload_n hx hb dX3_addEdge_1 rfl (lv_at hl 1 rfl) ?_
  have hPc := hP.sub (ws' := (XW xo g lb se tl ts (bI bt) ++ (GW cJ g gA (nI n) (nI ec) ns ++ (LW cI cJ lb aR aV aH aD aP rk vb rc hs D Pp)))) [0, 5, 6, 7, 8, 9, 10, 11, 12] rfl
  refine x_rv (W.runV (As := [.int (nI a)]) (rest := []) ⟨hx, hb, hml, hown, hts⟩ (c_requireVertex l dG cI cJ xo tl ts bt se g gA n ec ns lb aR aV aH aD aP rk vb rc hs D Pp hn a ha) (cwV 1 hts gX3_addEdge_X3_requireVertex rfl rfl rfl (by decide +kernel) ⟨Nat.le_of_ble_eq_true rfl, Nat.le_of_ble_eq_true rfl⟩) (RPc.pre hPc hK (va_recv hK.1 hPc (ci := 3) (q0 := 0) rfl rfl)) rfl rfl hl.1 rfl (lv_room (Nat.le_of_ble_eq_true rfl)) dX3_addEdge_2 ⟨Nat.zero_le _, Nat.zero_le _⟩) ?_
  refine lv_aload_n hx hb dX3_addEdge_5 rfl (lv_at hl 0 rfl) ?_
  refine lv_iload_n hx hb dX3_addEdge_6 rfl (lv_at hl 2 rfl) ?_
  have hPc := hP.sub (ws' := (XW xo g lb se tl ts (bI bt) ++ (GW cJ g gA (nI n) (nI ec) ns ++ (LW cI cJ lb aR aV aH aD aP rk vb rc hs D Pp)))) [0, 5, 6, 7, 8, 9, 10, 11, 12] rfl
  refine x_rv (W.runV (As := [.int (nI b)]) (rest := []) ⟨hx, hb, hml, hown, hts⟩ (c_requireVertex l dG cI cJ xo tl ts bt se g gA n ec ns lb aR aV aH aD aP rk vb rc hs D Pp hn b hb0n) (cwV 1 hts gX3_addEdge_X3_requireVertex rfl rfl rfl (by decide +kernel) ⟨Nat.le_of_ble_eq_true rfl, Nat.le_of_ble_eq_true rfl⟩) (RPc.pre hPc hK (va_recv hK.1 hPc (ci := 3) (q0 := 0) rfl rfl)) rfl rfl hl.1 rfl (lv_room (Nat.le_of_ble_eq_true rfl)) dX3_addEdge_7 ⟨Nat.zero_le _, Nat.zero_le _⟩) ?_
  refine lv_iload_n hx hb dX3_addEdge_10 rfl (lv_at hl 1 rfl) ?_
  refine lv_iload_n hx hb dX3_addEdge_11 rfl (lv_at hl 2 rfl) ?_
  refine x_icmp_eqN (i := a) (j := b) (tgt := 27) hx hb (by omega) (by omega) dX3_addEdge_12 (by decide) (fun c12 => ?_) (fun c12 => ?_)
  · skip
    exact absurd c12 hne2
  · skip
    refine lv_aload_n hx hb dX3_addEdge_15 rfl (lv_at hl 0 rfl) ?_
    refine va_get (D := dG) (ci := 3) (v := .ref g) (C := RX3) (T := TX3) (N := 6) hx hb hts hiX3 hown hK.1 hP 0 rfl rfl 0 (by decide) hf10 (fun _ h9 => h9) rfl dX3_addEdge_16 ?_
    refine lv_iload_n hx hb dX3_addEdge_19 rfl (lv_at hl 1 rfl) ?_
    refine lv_iload_n hx hb dX3_addEdge_20 rfl (lv_at hl 2 rfl) ?_
    have hPc := hP.sub (ws' := (GW cJ g gA (nI n) (nI ec) ns)) [5, 6] rfl
    refine x_ri (W.runV (As := [.int (nI a), .int (nI b)]) (rest := []) ⟨hx, hb, hml, hown, hts⟩ (c_joins l dG cI cJ g gA n ec ns a b (by omega) (by omega)) (cwV 2 hts gX3_addEdge_X0_joins rfl rfl rfl (by decide +kernel) ⟨Nat.le_of_ble_eq_true rfl, Nat.le_of_ble_eq_true rfl⟩) (RPc.pre hPc hK (va_recv hK.1 hPc (ci := 0) (q0 := 0) rfl rfl)) rfl rfl hl.1 rfl (lv_room (Nat.le_of_ble_eq_true rfl)) dX3_addEdge_21 ⟨Nat.zero_le _, Nat.zero_le _⟩) ?_
    refine x_ifeqB (tgt := 37) hx hb dX3_addEdge_24 (by decide) (fun c24 => ?_) (fun c24 => ?_)
    · skip
      refine lv_aload_n hx hb dX3_addEdge_37 rfl (lv_at hl 0 rfl) ?_
      refine va_get (D := dG) (ci := 3) (v := .ref g) (C := RX3) (T := TX3) (N := 6) hx hb hts hiX3 hown hK.1 hP 0 rfl rfl 0 (by decide) hf10 (fun _ h9 => h9) rfl dX3_addEdge_38 ?_
      refine lv_iload_n hx hb dX3_addEdge_41 rfl (lv_at hl 1 rfl) ?_
      refine lv_iload_n hx hb dX3_addEdge_42 rfl (lv_at hl 2 rfl) ?_
      have hPc : va_P dG vwCl (GW cJ g gA (nI n) (nI ec) ns ++ (XW xo g lb se tl ts (bI bt) ++ (SW cI g lb se qa qb qc qv qd qp ql qs vi pr wr ++ (LW cI cJ lb aR aV aH aD aP rk vb rc hs D Pp ++ X)))) s.heap := va_P.perm hP (List.Perm.trans (List.Perm.append_left _ (List.perm_append_comm_assoc _ _ _)) (List.perm_append_comm_assoc _ _ _))
      have hDc : va_D A (GW cJ g gA (nI n) (nI ec) ns ++ (XW xo g lb se tl ts (bI bt) ++ (SW cI g lb se qa qb qc qv qd qp ql qs vi pr wr ++ (LW cI cJ lb aR aV aH aD aP rk vb rc hs D Pp ++ X)))) := va_D.perm hD (List.Perm.trans (List.Perm.append_left _ (List.perm_append_comm_assoc _ _ _)) (List.perm_append_comm_assoc _ _ _))
      refine va_callv (va_runV (As := [.int (nI a), .int (nI b)]) (rest := []) ⟨hx, hb, hml, hown, hts⟩ (c_join l dG cI cJ A g gA n ec ns a b (by omega) (by omega) _) (cwV 2 hts gX3_addEdge_X0_join rfl rfl rfl (by decide +kernel) ⟨Nat.le_of_ble_eq_true rfl, Nat.le_of_ble_eq_true rfl⟩) (WPc.pre hPc hDc hK (va_recv hK.1 hPc (ci := 0) (q0 := 0) rfl rfl)) rfl rfl hl.1 rfl (lv_room (Nat.le_of_ble_eq_true rfl)) dX3_addEdge_43 ⟨Nat.zero_le _, Nat.zero_le _⟩) hS (fun q _ h => h) (fun q h => h) (fun u9 t H locs ht hvm hw hB hz1 hk1 hS => ?_)
      obtain ⟨hP, hD⟩ := hB
      rw [ht] at hP
      have hP : va_P dG vwCl (GW cJ g gA (nI n) (nI (ec + 1)) (jn ns a b) ++ (XW xo g lb se tl ts (bI bt) ++ (SW cI g lb se qa qb qc qv qd qp ql qs vi pr wr ++ (LW cI cJ lb aR aV aH aD aP rk vb rc hs D Pp ++ X)))) H := hP
      have hD : va_D A (GW cJ g gA (nI n) (nI (ec + 1)) (jn ns a b) ++ (XW xo g lb se tl ts (bI bt) ++ (SW cI g lb se qa qb qc qv qd qp ql qs vi pr wr ++ (LW cI cJ lb aR aV aH aD aP rk vb rc hs D Pp ++ X)))) := hD
      have hP : va_P dG vwCl (XW xo g lb se tl ts (bI bt) ++ (SW cI g lb se qa qb qc qv qd qp ql qs vi pr wr ++ (GW cJ g gA (nI n) (nI (ec + 1)) (jn ns a b) ++ (LW cI cJ lb aR aV aH aD aP rk vb rc hs D Pp ++ X)))) H := va_P.perm hP (List.Perm.trans (List.perm_append_comm_assoc _ _ _) (List.Perm.append_left _ (List.perm_append_comm_assoc _ _ _)))
      have hD : va_D A (XW xo g lb se tl ts (bI bt) ++ (SW cI g lb se qa qb qc qv qd qp ql qs vi pr wr ++ (GW cJ g gA (nI n) (nI (ec + 1)) (jn ns a b) ++ (LW cI cJ lb aR aV aH aD aP rk vb rc hs D Pp ++ X)))) := va_D.perm hD (List.Perm.trans (List.perm_append_comm_assoc _ _ _) (List.Perm.append_left _ (List.perm_append_comm_assoc _ _ _)))
      refine lv_aload_n hx hb dX3_addEdge_46 rfl (lv_at hl 0 rfl) ?_
      refine va_get (D := dG) (ci := 3) (v := .int (bI bt)) (C := RX3) (T := TX3) (N := 6) hx hb hts hiX3 hown hK.1 hP 0 rfl rfl 5 (by decide) hf38 (fun _ h9 => h9) rfl dX3_addEdge_47 ?_
      refine x_ifeqB (tgt := 65) hx hb dX3_addEdge_50 (by decide) (fun c50 => ?_) (fun c50 => ?_)
      · skip
        rw [hbt] at c50; cases c50
      · skip
        refine lv_aload_n hx hb dX3_addEdge_53 rfl (lv_at hl 0 rfl) ?_
        refine va_get (D := dG) (ci := 3) (v := .ref se) (C := RX3) (T := TX3) (N := 6) hx hb hts hiX3 hown hK.1 hP 0 rfl rfl 2 (by decide) hf28 (fun _ h9 => h9) rfl dX3_addEdge_54 ?_
        refine lv_iload_n hx hb dX3_addEdge_57 rfl (lv_at hl 1 rfl) ?_
        refine lv_iload_n hx hb dX3_addEdge_58 rfl (lv_at hl 2 rfl) ?_
        have hPc : va_P dG vwCl (SW cI g lb se qa qb qc qv qd qp ql qs vi pr wr ++ (GW cJ g gA (nI n) (nI (ec + 1)) (jn ns a b) ++ (LW cI cJ lb aR aV aH aD aP rk vb rc hs D Pp ++ (XW xo g lb se tl ts (bI bt) ++ X)))) H := va_P.perm hP (List.Perm.trans (List.Perm.trans (List.perm_append_comm_assoc _ _ _) (List.Perm.append_left _ (List.perm_append_comm_assoc _ _ _))) (List.Perm.append_left _ (List.Perm.append_left _ (List.perm_append_comm_assoc _ _ _))))
        have hDc : va_D A (SW cI g lb se qa qb qc qv qd qp ql qs vi pr wr ++ (GW cJ g gA (nI n) (nI (ec + 1)) (jn ns a b) ++ (LW cI cJ lb aR aV aH aD aP rk vb rc hs D Pp ++ (XW xo g lb se tl ts (bI bt) ++ X)))) := va_D.perm hD (List.Perm.trans (List.Perm.trans (List.perm_append_comm_assoc _ _ _) (List.Perm.append_left _ (List.perm_append_comm_assoc _ _ _))) (List.Perm.append_left _ (List.Perm.append_left _ (List.perm_append_comm_assoc _ _ _))))
        refine va_calli (va_runV (As := [.int (nI a), .int (nI b)]) (rest := []) ⟨hx, hb, hml, hown, hts⟩ (c_extend l dG cI cJ A g gA lb aR aV aH aD aP se qa qb qc rk vb rc n (ec + 1) (jn ns a b) hn qv qd qp ql qs vi pr wr hs D Pp L P B hR hL hB3 hb0 hhb a b ha hb0n F hF _) (cwV 2 hts gX3_addEdge_X2_extend rfl rfl rfl (by decide +kernel) ⟨Nat.le_of_ble_eq_true rfl, Nat.le_of_ble_eq_true rfl⟩) (WPc.pre hPc hDc hK (va_recv hK.1 hPc (ci := 2) (q0 := 0) rfl rfl)) rfl rfl hl.1 rfl (lv_room (Nat.le_of_ble_eq_true rfl)) dX3_addEdge_59 ⟨Nat.zero_le _, Nat.zero_le _⟩) hS (fun q _ h => h) (fun q h => h) (fun r9 u t H locs ht hvm hw hB hz1 hk1 hS => ?_)
        obtain ⟨ql, qs, qv, qd, qp, hs, D, Pp⟩ := u
        obtain ⟨hP, hD⟩ := hB
        rw [ht] at hP
        have hP : va_P dG vwCl (SW cI g lb se qa qb qc qv qd qp ql qs (nI F.2.2.1) (nI F.2.2.2.1) (nI F.2.2.2.2) ++ (GW cJ g gA (nI n) (nI (ec + 1)) (jn ns a b) ++ (LW cI cJ lb aR aV aH aD aP rk vb rc hs D Pp ++ (XW xo g lb se tl ts (bI bt) ++ X)))) H := hP
        have hD : va_D A (SW cI g lb se qa qb qc qv qd qp ql qs (nI F.2.2.1) (nI F.2.2.2.1) (nI F.2.2.2.2) ++ (GW cJ g gA (nI n) (nI (ec + 1)) (jn ns a b) ++ (LW cI cJ lb aR aV aH aD aP rk vb rc hs D Pp ++ (XW xo g lb se tl ts (bI bt) ++ X)))) := hD
        have hP : va_P dG vwCl (XW xo g lb se tl ts (bI bt) ++ (SW cI g lb se qa qb qc qv qd qp ql qs (nI F.2.2.1) (nI F.2.2.2.1) (nI F.2.2.2.2) ++ (GW cJ g gA (nI n) (nI (ec + 1)) (jn ns a b) ++ (LW cI cJ lb aR aV aH aD aP rk vb rc hs D Pp ++ X)))) H := va_P.perm hP (List.Perm.trans (List.Perm.trans (List.Perm.append_left _ (List.Perm.append_left _ (List.perm_append_comm_assoc _ _ _))) (List.Perm.append_left _ (List.perm_append_comm_assoc _ _ _))) (List.perm_append_comm_assoc _ _ _))
        have hD : va_D A (XW xo g lb se tl ts (bI bt) ++ (SW cI g lb se qa qb qc qv qd qp ql qs (nI F.2.2.1) (nI F.2.2.2.1) (nI F.2.2.2.2) ++ (GW cJ g gA (nI n) (nI (ec + 1)) (jn ns a b) ++ (LW cI cJ lb aR aV aH aD aP rk vb rc hs D Pp ++ X)))) := va_D.perm hD (List.Perm.trans (List.Perm.trans (List.Perm.append_left _ (List.Perm.append_left _ (List.perm_append_comm_assoc _ _ _))) (List.Perm.append_left _ (List.perm_append_comm_assoc _ _ _))) (List.perm_append_comm_assoc _ _ _))
        rw [show r9 = nI F.2.2.1 from hw.1]
        refine lv_goto (tgt := 66) hx hb dX3_addEdge_62 (by decide) ?_
        exact W.iret (v := (nI F.2.2.1)) hx hb hr (fun t ht hW => ⟨⟨_, (ql, qs, qv, qd, qp, hs, D, Pp), rfl, ⟨rfl, hw.2⟩, by rw [ht]; exact hP, hD⟩, hS.F ht⟩) hS.2.2 dX3_addEdge_66
    · skip
      rw [hed] at c24; cases c24

set_option maxHeartbeats 4000000 in
set_option maxRecDepth 100000 in
theorem c_clear (l : Launch) (dG : va_G) (cI cJ : ClassId) (A : Nat → Prop) (qa qb qc : Nat) (qv qd qp : Nat → Int32) (ql : Int32) (qs : Int64) (vi pr wr : Int32) (xo tl ts : Nat) (bt : Bool) (se : Nat) (g gA n ec : Nat) (ns : Nat → Int64) (lb aR aV aH aD aP : Nat) (rk vb : Nat → Int32) (rc : Int32) (hs : Nat → Int64) (D Pp : Nat → Int32) (X : va_W) : Met l yX3_clear wsX3_clear ({ frames := 1, cells := 0, slots := 0, locals := 21 } : Room) (WPc dG cI cJ [.ref xo] (XW xo g lb se tl ts (bI bt) ++ (SW cI g lb se qa qb qc qv qd qp ql qs vi pr wr ++ (GW cJ g gA (nI n) (nI ec) ns ++ (LW cI cJ lb aR aV aH aD aP rk vb rc hs D Pp ++ X)))) A) (va_Qi (S := Unit) (fun r _ => r = nI ec) (fun _ => WB dG A (XW xo g lb se tl ts (bI false) ++ (SW cI g lb se qa qb qc qv qd qp ql qs (nI 0) (nI 0) (nI 0) ++ (GW cJ g gA (nI n) (nI 0) (cut0 ns 48) ++ (LW cI cJ lb aR aV aH aD aP rk vb (nI 0) (cut0 hs 48) D Pp ++ X))))) A) 0 0 A := by
  refine Met.ofW (cc := cX3_clear) (maxL := 2) (ret := (some .int)) (by decide) rfl ?_
  intro p e s m args below meth c s₁ B9 hml hv
  obtain ⟨rfl, hP, hK, hD⟩ := hv
  have hx := B9.exec
  have hb := B9.bytes
  have hr := B9.returns
  have hts := atoms_spec (ws := wsX3_clear) B9.pre
  have hown : s.vm.findClass RX3 = some m.cls := findClass_of_methodNamed B9.named
  have hlocks := B9.notSynchronized
  have hS : va_S A s.heap s.heap [] := va_S.rf
  have hl := lv_entry ([.ref xo]) (n := 2) (Nat.le_of_ble_eq_true rfl)
  rw [lg_entry_eq]
  generalize (lg_sl ([.ref xo]) ++ List.replicate (2 - (lg_sl ([.ref xo])).length) Slot.unset).toArray = ls at hl ⊢
  have hl : lv_has ls 2 [(0, .ref xo)] := hl
  have hiX3 : ∀ w ∈ wsX30, w ∈ wsX3_clear := by decide +kernel
  have hf10 := hts (.fieldLink RX3 10 "LandmarkLea" "graph" "LLandmarkLea$Graph;") (by decide +kernel)
  have hf19 := hts (.fieldLink RX3 19 "LandmarkLea" "labels" "LLandmarkLea$Labels;") (by decide +kernel)
  have hf28 := hts (.fieldLink RX3 28 "LandmarkLea" "searches" "LLandmarkLea$Searches;") (by decide +kernel)
  have hf38 := hts (.fieldLink RX3 38 "LandmarkLea" "labelled" "Z") (by decide +kernel)
  refine lv_aload_n hx hb dX3_clear_0 rfl (lv_at hl 0 rfl) ?_
  refine va_get (D := dG) (ci := 3) (v := .ref g) (C := RX3) (T := TX3) (N := 6) hx hb hts hiX3 hown hK.1 hP 0 rfl rfl 0 (by decide) hf10 (fun _ h9 => h9) rfl dX3_clear_1 ?_
  have hPc := hP.sub (ws' := (GW cJ g gA (nI n) (nI ec) ns)) [5, 6] rfl
  refine x_ri (W.runV (As := []) (rest := []) ⟨hx, hb, hml, hown, hts⟩ (c_countOfEdges l dG cI cJ g gA n ec ns) (cwV 0 hts gX3_clear_X0_countOfEdges rfl rfl rfl (by decide +kernel) ⟨Nat.le_of_ble_eq_true rfl, Nat.le_of_ble_eq_true rfl⟩) (RPc.pre hPc hK (va_recv hK.1 hPc (ci := 0) (q0 := 0) rfl rfl)) rfl rfl hl.1 rfl (lv_room (Nat.le_of_ble_eq_true rfl)) dX3_clear_4 ⟨Nat.zero_le _, Nat.zero_le _⟩) ?_
  refine lv_istore_n (lv' := [(1, .int (nI ec)), (0, .ref xo)]) hx hb dX3_clear_7 rfl hl (by decide) rfl (fun ls hl => ?_)
  refine lv_aload_n hx hb dX3_clear_8 rfl (lv_at hl 1 rfl) ?_
  refine va_get (D := dG) (ci := 3) (v := .ref g) (C := RX3) (T := TX3) (N := 6) hx hb hts hiX3 hown hK.1 hP 0 rfl rfl 0 (by decide) hf10 (fun _ h9 => h9) rfl dX3_clear_9 ?_
  have hPc : va_P dG vwCl (GW cJ g gA (nI n) (nI ec) ns ++ (XW xo g lb se tl ts (bI bt) ++ (SW cI g lb se qa qb qc qv qd qp ql qs vi pr wr ++ (LW cI cJ lb aR aV aH aD aP rk vb rc hs D Pp ++ X)))) s.heap := va_P.perm hP (List.Perm.trans (List.Perm.append_left _ (List.perm_append_comm_assoc _ _ _)) (List.perm_append_comm_assoc _ _ _))
  have hDc : va_D A (GW cJ g gA (nI n) (nI ec) ns ++ (XW xo g lb se tl ts (bI bt) ++ (SW cI g lb se qa qb qc qv qd qp ql qs vi pr wr ++ (LW cI cJ lb aR aV aH aD aP rk vb rc hs D Pp ++ X)))) := va_D.perm hD (List.Perm.trans (List.Perm.append_left _ (List.perm_append_comm_assoc _ _ _)) (List.perm_append_comm_assoc _ _ _))
  refine va_callv (va_runV (As := []) (rest := []) ⟨hx, hb, hml, hown, hts⟩ (c_cutAll l dG cI cJ A g gA n ec ns _) (cwV 0 hts gX3_clear_X0_cutAll rfl rfl rfl (by decide +kernel) ⟨Nat.le_of_ble_eq_true rfl, Nat.le_of_ble_eq_true rfl⟩) (WPc.pre hPc hDc hK (va_recv hK.1 hPc (ci := 0) (q0 := 0) rfl rfl)) rfl rfl hl.1 rfl (lv_room (Nat.le_of_ble_eq_true rfl)) dX3_clear_12 ⟨Nat.zero_le _, Nat.zero_le _⟩) hS (fun q _ h => h) (fun q h => h) (fun u9 t H locs ht hvm hw hB hz1 hk1 hS => ?_)
  obtain ⟨hP, hD⟩ := hB
  rw [ht] at hP
  have hP : va_P dG vwCl (GW cJ g gA (nI n) (nI 0) (cut0 ns 48) ++ (XW xo g lb se tl ts (bI bt) ++ (SW cI g lb se qa qb qc qv qd qp ql qs vi pr wr ++ (LW cI cJ lb aR aV aH aD aP rk vb rc hs D Pp ++ X)))) H := hP
  have hD : va_D A (GW cJ g gA (nI n) (nI 0) (cut0 ns 48) ++ (XW xo g lb se tl ts (bI bt) ++ (SW cI g lb se qa qb qc qv qd qp ql qs vi pr wr ++ (LW cI cJ lb aR aV aH aD aP rk vb rc hs D Pp ++ X)))) := hD
  have hP : va_P dG vwCl (XW xo g lb se tl ts (bI bt) ++ (SW cI g lb se qa qb qc qv qd qp ql qs vi pr wr ++ (GW cJ g gA (nI n) (nI 0) (cut0 ns 48) ++ (LW cI cJ lb aR aV aH aD aP rk vb rc hs D Pp ++ X)))) H := va_P.perm hP (List.Perm.trans (List.perm_append_comm_assoc _ _ _) (List.Perm.append_left _ (List.perm_append_comm_assoc _ _ _)))
  have hD : va_D A (XW xo g lb se tl ts (bI bt) ++ (SW cI g lb se qa qb qc qv qd qp ql qs vi pr wr ++ (GW cJ g gA (nI n) (nI 0) (cut0 ns 48) ++ (LW cI cJ lb aR aV aH aD aP rk vb rc hs D Pp ++ X)))) := va_D.perm hD (List.Perm.trans (List.perm_append_comm_assoc _ _ _) (List.Perm.append_left _ (List.perm_append_comm_assoc _ _ _)))
  refine lv_aload_n hx hb dX3_clear_15 rfl (lv_at hl 1 rfl) ?_
  refine va_get (D := dG) (ci := 3) (v := .ref lb) (C := RX3) (T := TX3) (N := 6) hx hb hts hiX3 hown hK.1 hP 0 rfl rfl 1 (by decide) hf19 (fun _ h9 => h9) rfl dX3_clear_16 ?_
  have hPc : va_P dG vwCl (LW cI cJ lb aR aV aH aD aP rk vb rc hs D Pp ++ (XW xo g lb se tl ts (bI bt) ++ (SW cI g lb se qa qb qc qv qd qp ql qs vi pr wr ++ (GW cJ g gA (nI n) (nI 0) (cut0 ns 48) ++ X)))) H := va_P.perm hP (List.Perm.trans (List.Perm.trans (List.Perm.append_left _ (List.Perm.append_left _ (List.perm_append_comm_assoc _ _ _))) (List.Perm.append_left _ (List.perm_append_comm_assoc _ _ _))) (List.perm_append_comm_assoc _ _ _))
  have hDc : va_D A (LW cI cJ lb aR aV aH aD aP rk vb rc hs D Pp ++ (XW xo g lb se tl ts (bI bt) ++ (SW cI g lb se qa qb qc qv qd qp ql qs vi pr wr ++ (GW cJ g gA (nI n) (nI 0) (cut0 ns 48) ++ X)))) := va_D.perm hD (List.Perm.trans (List.Perm.trans (List.Perm.append_left _ (List.Perm.append_left _ (List.perm_append_comm_assoc _ _ _))) (List.Perm.append_left _ (List.perm_append_comm_assoc _ _ _))) (List.perm_append_comm_assoc _ _ _))
  refine va_callv (va_runV (As := []) (rest := []) ⟨hx, hb, hml, hown, hts⟩ (c_forget l dG cI cJ A lb aR aV aH aD aP rk vb rc hs D Pp _) (cwV 0 hts gX3_clear_X1_forget rfl rfl rfl (by decide +kernel) ⟨Nat.le_of_ble_eq_true rfl, Nat.le_of_ble_eq_true rfl⟩) (WPc.pre hPc hDc hK (va_recv hK.1 hPc (ci := 1) (q0 := 0) rfl rfl)) rfl rfl hl.1 rfl (lv_room (Nat.le_of_ble_eq_true rfl)) dX3_clear_19 ⟨Nat.zero_le _, Nat.zero_le _⟩) hS (fun q _ h => h) (fun q h => h) (fun u9 t H locs ht hvm hw hB hz1 hk1 hS => ?_)
  obtain ⟨hP, hD⟩ := hB
  rw [ht] at hP
  have hP : va_P dG vwCl (LW cI cJ lb aR aV aH aD aP rk vb (nI 0) (cut0 hs 48) D Pp ++ (XW xo g lb se tl ts (bI bt) ++ (SW cI g lb se qa qb qc qv qd qp ql qs vi pr wr ++ (GW cJ g gA (nI n) (nI 0) (cut0 ns 48) ++ X)))) H := hP
  have hD : va_D A (LW cI cJ lb aR aV aH aD aP rk vb (nI 0) (cut0 hs 48) D Pp ++ (XW xo g lb se tl ts (bI bt) ++ (SW cI g lb se qa qb qc qv qd qp ql qs vi pr wr ++ (GW cJ g gA (nI n) (nI 0) (cut0 ns 48) ++ X)))) := hD
  have hP : va_P dG vwCl (XW xo g lb se tl ts (bI bt) ++ (SW cI g lb se qa qb qc qv qd qp ql qs vi pr wr ++ (GW cJ g gA (nI n) (nI 0) (cut0 ns 48) ++ (LW cI cJ lb aR aV aH aD aP rk vb (nI 0) (cut0 hs 48) D Pp ++ X)))) H := va_P.perm hP (List.Perm.trans (List.Perm.trans (List.perm_append_comm_assoc _ _ _) (List.Perm.append_left _ (List.perm_append_comm_assoc _ _ _))) (List.Perm.append_left _ (List.Perm.append_left _ (List.perm_append_comm_assoc _ _ _))))
  have hD : va_D A (XW xo g lb se tl ts (bI bt) ++ (SW cI g lb se qa qb qc qv qd qp ql qs vi pr wr ++ (GW cJ g gA (nI n) (nI 0) (cut0 ns 48) ++ (LW cI cJ lb aR aV aH aD aP rk vb (nI 0) (cut0 hs 48) D Pp ++ X)))) := va_D.perm hD (List.Perm.trans (List.Perm.trans (List.perm_append_comm_assoc _ _ _) (List.Perm.append_left _ (List.perm_append_comm_assoc _ _ _))) (List.Perm.append_left _ (List.Perm.append_left _ (List.perm_append_comm_assoc _ _ _))))
  refine lv_aload_n hx hb dX3_clear_22 rfl (lv_at hl 1 rfl) ?_
  refine va_get (D := dG) (ci := 3) (v := .ref se) (C := RX3) (T := TX3) (N := 6) hx hb hts hiX3 hown hK.1 hP 0 rfl rfl 2 (by decide) hf28 (fun _ h9 => h9) rfl dX3_clear_23 ?_
  have hPc : va_P dG vwCl (SW cI g lb se qa qb qc qv qd qp ql qs vi pr wr ++ (XW xo g lb se tl ts (bI bt) ++ (GW cJ g gA (nI n) (nI 0) (cut0 ns 48) ++ (LW cI cJ lb aR aV aH aD aP rk vb (nI 0) (cut0 hs 48) D Pp ++ X)))) H := va_P.perm hP (List.perm_append_comm_assoc _ _ _)
  have hDc : va_D A (SW cI g lb se qa qb qc qv qd qp ql qs vi pr wr ++ (XW xo g lb se tl ts (bI bt) ++ (GW cJ g gA (nI n) (nI 0) (cut0 ns 48) ++ (LW cI cJ lb aR aV aH aD aP rk vb (nI 0) (cut0 hs 48) D Pp ++ X)))) := va_D.perm hD (List.perm_append_comm_assoc _ _ _)
  refine va_callv (va_runV (As := []) (rest := []) ⟨hx, hb, hml, hown, hts⟩ (c_forgetCounts l dG cI cJ A g lb se qa qb qc qv qd qp ql qs vi pr wr _) (cwV 0 hts gX3_clear_X2_forgetCounts rfl rfl rfl (by decide +kernel) ⟨Nat.le_of_ble_eq_true rfl, Nat.le_of_ble_eq_true rfl⟩) (WPc.pre hPc hDc hK (va_recv hK.1 hPc (ci := 2) (q0 := 0) rfl rfl)) rfl rfl hl.1 rfl (lv_room (Nat.le_of_ble_eq_true rfl)) dX3_clear_26 ⟨Nat.zero_le _, Nat.zero_le _⟩) hS (fun q _ h => h) (fun q h => h) (fun u9 t H locs ht hvm hw hB hz1 hk1 hS => ?_)
  obtain ⟨hP, hD⟩ := hB
  rw [ht] at hP
  have hP : va_P dG vwCl (SW cI g lb se qa qb qc qv qd qp ql qs (nI 0) (nI 0) (nI 0) ++ (XW xo g lb se tl ts (bI bt) ++ (GW cJ g gA (nI n) (nI 0) (cut0 ns 48) ++ (LW cI cJ lb aR aV aH aD aP rk vb (nI 0) (cut0 hs 48) D Pp ++ X)))) H := hP
  have hD : va_D A (SW cI g lb se qa qb qc qv qd qp ql qs (nI 0) (nI 0) (nI 0) ++ (XW xo g lb se tl ts (bI bt) ++ (GW cJ g gA (nI n) (nI 0) (cut0 ns 48) ++ (LW cI cJ lb aR aV aH aD aP rk vb (nI 0) (cut0 hs 48) D Pp ++ X)))) := hD
  have hP : va_P dG vwCl (XW xo g lb se tl ts (bI bt) ++ (SW cI g lb se qa qb qc qv qd qp ql qs (nI 0) (nI 0) (nI 0) ++ (GW cJ g gA (nI n) (nI 0) (cut0 ns 48) ++ (LW cI cJ lb aR aV aH aD aP rk vb (nI 0) (cut0 hs 48) D Pp ++ X)))) H := va_P.perm hP (List.perm_append_comm_assoc _ _ _)
  have hD : va_D A (XW xo g lb se tl ts (bI bt) ++ (SW cI g lb se qa qb qc qv qd qp ql qs (nI 0) (nI 0) (nI 0) ++ (GW cJ g gA (nI n) (nI 0) (cut0 ns 48) ++ (LW cI cJ lb aR aV aH aD aP rk vb (nI 0) (cut0 hs 48) D Pp ++ X)))) := va_D.perm hD (List.perm_append_comm_assoc _ _ _)
  refine lv_aload_n hx hb dX3_clear_29 rfl (lv_at hl 1 rfl) ?_
  refine lv_iconst (v := (nI 0)) hx hb dX3_clear_30 (by decide) ?_
  refine va_put (D := dG) (ci := 3) (v := .int (nI 0)) (ty := .boolean) (C := RX3) (T := TX3) (N := 6) hx hb hts hiX3 tyX3 tyX3_ok nmX3 hown hK.1 hP hD hS 0 rfl rfl 5 (by decide) hf38 (fun _ h9 => h9) rfl (by decide +kernel) (by decide) (by decide) (Nat.le_of_ble_eq_true rfl) dX3_clear_31 (fun H locs hP hD hS => ?_)
  have hP : va_P dG vwCl (XW xo g lb se tl ts (nI 0) ++ (SW cI g lb se qa qb qc qv qd qp ql qs (nI 0) (nI 0) (nI 0) ++ (GW cJ g gA (nI n) (nI 0) (cut0 ns 48) ++ (LW cI cJ lb aR aV aH aD aP rk vb (nI 0) (cut0 hs 48) D Pp ++ X)))) H := hP
  have hD : va_D A (XW xo g lb se tl ts (nI 0) ++ (SW cI g lb se qa qb qc qv qd qp ql qs (nI 0) (nI 0) (nI 0) ++ (GW cJ g gA (nI n) (nI 0) (cut0 ns 48) ++ (LW cI cJ lb aR aV aH aD aP rk vb (nI 0) (cut0 hs 48) D Pp ++ X)))) := hD
  refine lv_iload_n hx hb dX3_clear_34 rfl (lv_at hl 0 rfl) ?_
  exact W.iret (v := (nI ec)) hx hb hr (fun t ht hW => ⟨⟨_, (), rfl, rfl, by rw [ht]; exact hP, hD⟩, hS.F ht⟩) hS.2.2 dX3_clear_35

set_option maxHeartbeats 4000000 in
set_option maxRecDepth 100000 in
theorem c_build (l : Launch) (dG : va_G) (cI cJ : ClassId) (A : Nat → Prop) (qa qb qc : Nat) (qv qd qp : Nat → Int32) (ql : Int32) (qs : Int64) (vi pr wr : Int32) (xo tl ts : Nat) (bt : Bool) (se : Nat) (g gA n ec : Nat) (ns : Nat → Int64) (lb aR aV aH aD aP : Nat) (rk vb : Nat → Int32) (rc : Int32) (hs : Nat → Int64) (D Pp : Nat → Int32) (hn : n ≤ 48) (dg : Nat → Nat) (hdg : dg = fun v => fb_ct (gb (ns v)) 64) (hd : ∀ v, v < n → dg v < 48) (F : BT) (hF : bl ns n (hbf dg n) n = F) (X : va_W) : Met l yX3_build wsX3_build ({ frames := 6, cells := 0, slots := 0, locals := 143 } : Room) (WPc dG cI cJ [.ref xo] (XW xo g lb se tl ts (bI bt) ++ (SW cI g lb se qa qb qc qv qd qp ql qs vi pr wr ++ (GW cJ g gA (nI n) (nI ec) ns ++ (LW cI cJ lb aR aV aH aD aP rk vb rc hs D Pp ++ X)))) A) (va_Qi (S := (Nat → Int32) × (Nat → Int32) × Int32 × Int64 × (Nat → Int32) × (Nat → Int32) × (Nat → Int32) × (Nat → Int64) × (Nat → Int32) × (Nat → Int32)) (fun r u => r = nI F.2.2.1 ∧ RI dg n 0 0 u.1 u.2.1 ∧ RepL F.1 F.2.1 u.2.2.2.2.2.2.2.1 u.2.2.2.2.2.2.2.2.1 u.2.2.2.2.2.2.2.2.2) (fun u => WB dG A (XW xo g lb se tl ts (bI true) ++ (SW cI g lb se qa qb qc u.2.2.2.2.1 u.2.2.2.2.2.1 u.2.2.2.2.2.2.1 u.2.2.1 u.2.2.2.1 (nI F.2.2.1) (nI F.2.2.2.1) (nI F.2.2.2.2) ++ (GW cJ g gA (nI n) (nI ec) ns ++ (LW cI cJ lb aR aV aH aD aP u.1 u.2.1 (nI n) u.2.2.2.2.2.2.2.1 u.2.2.2.2.2.2.2.2.1 u.2.2.2.2.2.2.2.2.2 ++ X))))) A) 0 0 A := by
  refine Met.ofW (cc := cX3_build) (maxL := 1) (ret := (some .int)) (by decide) rfl ?_
  intro p e s m args below meth c s₁ B9 hml hv
  obtain ⟨rfl, hP, hK, hD⟩ := hv
  have hx := B9.exec
  have hb := B9.bytes
  have hr := B9.returns
  have hts := atoms_spec (ws := wsX3_build) B9.pre
  have hown : s.vm.findClass RX3 = some m.cls := findClass_of_methodNamed B9.named
  have hlocks := B9.notSynchronized
  have hS : va_S A s.heap s.heap [] := va_S.rf
  have hl := lv_entry ([.ref xo]) (n := 1) (Nat.le_of_ble_eq_true rfl)
  rw [lg_entry_eq]
  generalize (lg_sl ([.ref xo]) ++ List.replicate (1 - (lg_sl ([.ref xo])).length) Slot.unset).toArray = ls at hl ⊢
  have hl : lv_has ls 1 [(0, .ref xo)] := hl
  have hiX3 : ∀ w ∈ wsX30, w ∈ wsX3_build := by decide +kernel
  have hf28 := hts (.fieldLink RX3 28 "LandmarkLea" "searches" "LLandmarkLea$Searches;") (by decide +kernel)
  have hf38 := hts (.fieldLink RX3 38 "LandmarkLea" "labelled" "Z") (by decide +kernel)
  refine lv_aload_n hx hb dX3_build_0 rfl (lv_at hl 0 rfl) ?_
  refine lv_iconst (v := (nI 1)) hx hb dX3_build_1 (by decide) ?_
  refine va_put (D := dG) (ci := 3) (v := .int (nI 1)) (ty := .boolean) (C := RX3) (T := TX3) (N := 6) hx hb hts hiX3 tyX3 tyX3_ok nmX3 hown hK.1 hP hD hS 0 rfl rfl 5 (by decide) hf38 (fun _ h9 => h9) rfl (by decide +kernel) (by decide) (by decide) (Nat.le_of_ble_eq_true rfl) dX3_build_2 (fun H locs hP hD hS => ?_)
  have hP : va_P dG vwCl (XW xo g lb se tl ts (nI 1) ++ (SW cI g lb se qa qb qc qv qd qp ql qs vi pr wr ++ (GW cJ g gA (nI n) (nI ec) ns ++ (LW cI cJ lb aR aV aH aD aP rk vb rc hs D Pp ++ X)))) H := hP
  have hD : va_D A (XW xo g lb se tl ts (nI 1) ++ (SW cI g lb se qa qb qc qv qd qp ql qs vi pr wr ++ (GW cJ g gA (nI n) (nI ec) ns ++ (LW cI cJ lb aR aV aH aD aP rk vb rc hs D Pp ++ X)))) := hD
  refine lv_aload_n hx hb dX3_build_5 rfl (lv_at hl 0 rfl) ?_
  refine va_get (D := dG) (ci := 3) (v := .ref se) (C := RX3) (T := TX3) (N := 6) hx hb hts hiX3 hown hK.1 hP 0 rfl rfl 2 (by decide) hf28 (fun _ h9 => h9) rfl dX3_build_6 ?_
  have hPc : va_P dG vwCl (SW cI g lb se qa qb qc qv qd qp ql qs vi pr wr ++ (GW cJ g gA (nI n) (nI ec) ns ++ (LW cI cJ lb aR aV aH aD aP rk vb rc hs D Pp ++ (XW xo g lb se tl ts (nI 1) ++ X)))) H := va_P.perm hP (List.Perm.trans (List.Perm.trans (List.perm_append_comm_assoc _ _ _) (List.Perm.append_left _ (List.perm_append_comm_assoc _ _ _))) (List.Perm.append_left _ (List.Perm.append_left _ (List.perm_append_comm_assoc _ _ _))))
  have hDc : va_D A (SW cI g lb se qa qb qc qv qd qp ql qs vi pr wr ++ (GW cJ g gA (nI n) (nI ec) ns ++ (LW cI cJ lb aR aV aH aD aP rk vb rc hs D Pp ++ (XW xo g lb se tl ts (nI 1) ++ X)))) := va_D.perm hD (List.Perm.trans (List.Perm.trans (List.perm_append_comm_assoc _ _ _) (List.Perm.append_left _ (List.perm_append_comm_assoc _ _ _))) (List.Perm.append_left _ (List.Perm.append_left _ (List.perm_append_comm_assoc _ _ _))))
  refine va_calli (va_runV (As := []) (rest := []) ⟨hx, hb, hml, hown, hts⟩ (c_labelAll l dG cI cJ A g gA lb aR aV aH aD aP se qa qb qc rk vb rc n ec ns hn qv qd qp ql qs vi pr wr hs D Pp dg hdg hd F hF _) (cwV 0 hts gX3_build_X2_labelAll rfl rfl rfl (by decide +kernel) ⟨Nat.le_of_ble_eq_true rfl, Nat.le_of_ble_eq_true rfl⟩) (WPc.pre hPc hDc hK (va_recv hK.1 hPc (ci := 2) (q0 := 0) rfl rfl)) rfl rfl hl.1 rfl (lv_room (Nat.le_of_ble_eq_true rfl)) dX3_build_9 ⟨Nat.zero_le _, Nat.zero_le _⟩) hS (fun q _ h => h) (fun q h => h) (fun r9 u t H locs ht hvm hw hB hz1 hk1 hS => ?_)
  obtain ⟨rk, vb, ql, qs, qv, qd, qp, hs, D, Pp⟩ := u
  obtain ⟨hP, hD⟩ := hB
  rw [ht] at hP
  have hP : va_P dG vwCl (SW cI g lb se qa qb qc qv qd qp ql qs (nI F.2.2.1) (nI F.2.2.2.1) (nI F.2.2.2.2) ++ (GW cJ g gA (nI n) (nI ec) ns ++ (LW cI cJ lb aR aV aH aD aP rk vb (nI n) hs D Pp ++ (XW xo g lb se tl ts (nI 1) ++ X)))) H := hP
  have hD : va_D A (SW cI g lb se qa qb qc qv qd qp ql qs (nI F.2.2.1) (nI F.2.2.2.1) (nI F.2.2.2.2) ++ (GW cJ g gA (nI n) (nI ec) ns ++ (LW cI cJ lb aR aV aH aD aP rk vb (nI n) hs D Pp ++ (XW xo g lb se tl ts (nI 1) ++ X)))) := hD
  have hP : va_P dG vwCl (XW xo g lb se tl ts (nI 1) ++ (SW cI g lb se qa qb qc qv qd qp ql qs (nI F.2.2.1) (nI F.2.2.2.1) (nI F.2.2.2.2) ++ (GW cJ g gA (nI n) (nI ec) ns ++ (LW cI cJ lb aR aV aH aD aP rk vb (nI n) hs D Pp ++ X)))) H := va_P.perm hP (List.Perm.trans (List.Perm.trans (List.Perm.append_left _ (List.Perm.append_left _ (List.perm_append_comm_assoc _ _ _))) (List.Perm.append_left _ (List.perm_append_comm_assoc _ _ _))) (List.perm_append_comm_assoc _ _ _))
  have hD : va_D A (XW xo g lb se tl ts (nI 1) ++ (SW cI g lb se qa qb qc qv qd qp ql qs (nI F.2.2.1) (nI F.2.2.2.1) (nI F.2.2.2.2) ++ (GW cJ g gA (nI n) (nI ec) ns ++ (LW cI cJ lb aR aV aH aD aP rk vb (nI n) hs D Pp ++ X)))) := va_D.perm hD (List.Perm.trans (List.Perm.trans (List.Perm.append_left _ (List.Perm.append_left _ (List.perm_append_comm_assoc _ _ _))) (List.Perm.append_left _ (List.perm_append_comm_assoc _ _ _))) (List.perm_append_comm_assoc _ _ _))
  rw [show r9 = nI F.2.2.1 from hw.1]
  exact W.iret (v := (nI F.2.2.1)) hx hb hr (fun t ht hW => ⟨⟨_, (rk, vb, ql, qs, qv, qd, qp, hs, D, Pp), rfl, ⟨rfl, hw.2⟩, by rw [ht]; exact hP, hD⟩, hS.F ht⟩) hS.2.2 dX3_build_12

set_option maxHeartbeats 4000000 in
set_option maxRecDepth 100000 in
theorem c_entriesIfBuilt (l : Launch) (dG : va_G) (cI cJ : ClassId) (A : Nat → Prop) (qa qb qc : Nat) (qv qd qp : Nat → Int32) (ql : Int32) (qs : Int64) (vi pr wr : Int32) (xo lb se : Nat) (bt : Bool) (ts : Nat) (g gA n ec : Nat) (ns : Nat → Int64) (tl aR aV aH aD aP : Nat) (rk vb : Nat → Int32) (rc : Int32) (hs : Nat → Int64) (D Pp : Nat → Int32) (hn : n ≤ 48) (dg : Nat → Nat) (hdg : dg = fun v => fb_ct (gb (ns v)) 64) (hd : ∀ v, v < n → dg v < 48) (F : BT) (hF : bl ns n (hbf dg n) n = F) (X : va_W) : Met l yX3_entriesIfBuilt wsX3_entriesIfBuilt ({ frames := 6, cells := 0, slots := 0, locals := 143 } : Room) (WPc dG cI cJ [.ref xo] (XW xo g lb se tl ts (bI bt) ++ (SW cI g tl ts qa qb qc qv qd qp ql qs vi pr wr ++ (GW cJ g gA (nI n) (nI ec) ns ++ (LW cI cJ tl aR aV aH aD aP rk vb rc hs D Pp ++ X)))) A) (va_Qi (S := (Nat → Int32) × (Nat → Int32) × Int32 × Int64 × (Nat → Int32) × (Nat → Int32) × (Nat → Int32) × (Nat → Int64) × (Nat → Int32) × (Nat → Int32)) (fun r u => r = nI (fb_sm (lct F.1) 48)) (fun u => WB dG A (XW xo g lb se tl ts (bI bt) ++ (SW cI g tl ts qa qb qc u.2.2.2.2.1 u.2.2.2.2.2.1 u.2.2.2.2.2.2.1 u.2.2.1 u.2.2.2.1 (nI F.2.2.1) (nI F.2.2.2.1) (nI F.2.2.2.2) ++ (GW cJ g gA (nI n) (nI ec) ns ++ (LW cI cJ tl aR aV aH aD aP u.1 u.2.1 (nI n) u.2.2.2.2.2.2.2.1 u.2.2.2.2.2.2.2.2.1 u.2.2.2.2.2.2.2.2.2 ++ X))))) A) 0 0 A := by
  refine Met.ofW (cc := cX3_entriesIfBuilt) (maxL := 1) (ret := (some .int)) (by decide) rfl ?_
  intro p e s m args below meth c s₁ B9 hml hv
  obtain ⟨rfl, hP, hK, hD⟩ := hv
  have hx := B9.exec
  have hb := B9.bytes
  have hr := B9.returns
  have hts := atoms_spec (ws := wsX3_entriesIfBuilt) B9.pre
  have hown : s.vm.findClass RX3 = some m.cls := findClass_of_methodNamed B9.named
  have hlocks := B9.notSynchronized
  have hS : va_S A s.heap s.heap [] := va_S.rf
  have hl := lv_entry ([.ref xo]) (n := 1) (Nat.le_of_ble_eq_true rfl)
  rw [lg_entry_eq]
  generalize (lg_sl ([.ref xo]) ++ List.replicate (1 - (lg_sl ([.ref xo])).length) Slot.unset).toArray = ls at hl ⊢
  have hl : lv_has ls 1 [(0, .ref xo)] := hl
  have hiX3 : ∀ w ∈ wsX30, w ∈ wsX3_entriesIfBuilt := by decide +kernel
  have hf32 := hts (.fieldLink RX3 32 "LandmarkLea" "trialLabels" "LLandmarkLea$Labels;") (by decide +kernel)
  have hf35 := hts (.fieldLink RX3 35 "LandmarkLea" "trialSearches" "LLandmarkLea$Searches;") (by decide +kernel)
  refine lv_aload_n hx hb dX3_entriesIfBuilt_0 rfl (lv_at hl 0 rfl) ?_
  refine va_get (D := dG) (ci := 3) (v := .ref ts) (C := RX3) (T := TX3) (N := 6) hx hb hts hiX3 hown hK.1 hP 0 rfl rfl 4 (by decide) hf35 (fun _ h9 => h9) rfl dX3_entriesIfBuilt_1 ?_
  have hPc : va_P dG vwCl (SW cI g tl ts qa qb qc qv qd qp ql qs vi pr wr ++ (GW cJ g gA (nI n) (nI ec) ns ++ (LW cI cJ tl aR aV aH aD aP rk vb rc hs D Pp ++ (XW xo g lb se tl ts (bI bt) ++ X)))) s.heap := va_P.perm hP (List.Perm.trans (List.Perm.trans (List.perm_append_comm_assoc _ _ _) (List.Perm.append_left _ (List.perm_append_comm_assoc _ _ _))) (List.Perm.append_left _ (List.Perm.append_left _ (List.perm_append_comm_assoc _ _ _))))
  have hDc : va_D A (SW cI g tl ts qa qb qc qv qd qp ql qs vi pr wr ++ (GW cJ g gA (nI n) (nI ec) ns ++ (LW cI cJ tl aR aV aH aD aP rk vb rc hs D Pp ++ (XW xo g lb se tl ts (bI bt) ++ X)))) := va_D.perm hD (List.Perm.trans (List.Perm.trans (List.perm_append_comm_assoc _ _ _) (List.Perm.append_left _ (List.perm_append_comm_assoc _ _ _))) (List.Perm.append_left _ (List.Perm.append_left _ (List.perm_append_comm_assoc _ _ _))))
  refine va_calli (va_runV (As := []) (rest := []) ⟨hx, hb, hml, hown, hts⟩ (c_labelAll l dG cI cJ A g gA tl aR aV aH aD aP ts qa qb qc rk vb rc n ec ns hn qv qd qp ql qs vi pr wr hs D Pp dg hdg hd F hF _) (cwV 0 hts gX3_entriesIfBuilt_X2_labelAll rfl rfl rfl (by decide +kernel) ⟨Nat.le_of_ble_eq_true rfl, Nat.le_of_ble_eq_true rfl⟩) (WPc.pre hPc hDc hK (va_recv hK.1 hPc (ci := 2) (q0 := 0) rfl rfl)) rfl rfl hl.1 rfl (lv_room (Nat.le_of_ble_eq_true rfl)) dX3_entriesIfBuilt_4 ⟨Nat.zero_le _, Nat.zero_le _⟩) hS (fun q _ h => h) (fun q h => h) (fun r9 u t H locs ht hvm hw hB hz1 hk1 hS => ?_)
  obtain ⟨rk, vb, ql, qs, qv, qd, qp, hs, D, Pp⟩ := u
  obtain ⟨hP, hD⟩ := hB
  rw [ht] at hP
  have hP : va_P dG vwCl (SW cI g tl ts qa qb qc qv qd qp ql qs (nI F.2.2.1) (nI F.2.2.2.1) (nI F.2.2.2.2) ++ (GW cJ g gA (nI n) (nI ec) ns ++ (LW cI cJ tl aR aV aH aD aP rk vb (nI n) hs D Pp ++ (XW xo g lb se tl ts (bI bt) ++ X)))) H := hP
  have hD : va_D A (SW cI g tl ts qa qb qc qv qd qp ql qs (nI F.2.2.1) (nI F.2.2.2.1) (nI F.2.2.2.2) ++ (GW cJ g gA (nI n) (nI ec) ns ++ (LW cI cJ tl aR aV aH aD aP rk vb (nI n) hs D Pp ++ (XW xo g lb se tl ts (bI bt) ++ X)))) := hD
  have hP : va_P dG vwCl (XW xo g lb se tl ts (bI bt) ++ (SW cI g tl ts qa qb qc qv qd qp ql qs (nI F.2.2.1) (nI F.2.2.2.1) (nI F.2.2.2.2) ++ (GW cJ g gA (nI n) (nI ec) ns ++ (LW cI cJ tl aR aV aH aD aP rk vb (nI n) hs D Pp ++ X)))) H := va_P.perm hP (List.Perm.trans (List.Perm.trans (List.Perm.append_left _ (List.Perm.append_left _ (List.perm_append_comm_assoc _ _ _))) (List.Perm.append_left _ (List.perm_append_comm_assoc _ _ _))) (List.perm_append_comm_assoc _ _ _))
  have hD : va_D A (XW xo g lb se tl ts (bI bt) ++ (SW cI g tl ts qa qb qc qv qd qp ql qs (nI F.2.2.1) (nI F.2.2.2.1) (nI F.2.2.2.2) ++ (GW cJ g gA (nI n) (nI ec) ns ++ (LW cI cJ tl aR aV aH aD aP rk vb (nI n) hs D Pp ++ X)))) := va_D.perm hD (List.Perm.trans (List.Perm.trans (List.Perm.append_left _ (List.Perm.append_left _ (List.perm_append_comm_assoc _ _ _))) (List.Perm.append_left _ (List.perm_append_comm_assoc _ _ _))) (List.perm_append_comm_assoc _ _ _))
  rw [show r9 = nI F.2.2.1 from hw.1]
  refine lv_pop hx hb dX3_entriesIfBuilt_7 rfl ?_
  refine lv_aload_n hx hb dX3_entriesIfBuilt_8 rfl (lv_at hl 0 rfl) ?_
  refine va_get (D := dG) (ci := 3) (v := .ref tl) (C := RX3) (T := TX3) (N := 6) hx hb hts hiX3 hown hK.1 hP 0 rfl rfl 3 (by decide) hf32 (fun _ h9 => h9) rfl dX3_entriesIfBuilt_9 ?_
  have hPc := hP.sub (ws' := (LW cI cJ tl aR aV aH aD aP rk vb (nI n) hs D Pp)) [7, 8, 9, 10, 11, 12] rfl
  refine x_ri (W.runV (As := []) (rest := []) ⟨hx, hb, hml, hown, hts⟩ (c_countAll l dG cI cJ tl aR aV aH aD aP rk vb (nI n) hs D Pp F.1 F.2.1 hw.2.2) (cwV 0 hts gX3_entriesIfBuilt_X1_countAll rfl rfl rfl (by decide +kernel) ⟨Nat.le_of_ble_eq_true rfl, Nat.le_of_ble_eq_true rfl⟩) (RPc.pre hPc hK (va_recv hK.1 hPc (ci := 1) (q0 := 0) rfl rfl)) rfl rfl hl.1 rfl (lv_room (Nat.le_of_ble_eq_true rfl)) dX3_entriesIfBuilt_12 ⟨Nat.zero_le _, Nat.zero_le _⟩) ?_
  exact W.iret (v := (nI (fb_sm (lct F.1) 48))) hx hb hr (fun t ht hW => ⟨⟨_, (rk, vb, ql, qs, qv, qd, qp, hs, D, Pp), rfl, rfl, by rw [ht]; exact hP, hD⟩, hS.F ht⟩) hS.2.2 dX3_entriesIfBuilt_15
