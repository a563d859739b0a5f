/-! the class's askers, where they don't throw -/
/-- the class's own cell -/
abbrev XW (x g lb se tl ts : Nat) (bd : Int32) : va_W := [(x, .inr (3, [.ref g, .ref lb, .ref se, .ref tl, .ref ts, .int bd]))]
abbrev OW (cJ : ClassId) (ou : Nat) (f : Nat → Int64) : va_W := [(ou, .inl (cJ, 1, .inr (.inl f)))]
theorem mx_ecc {L : Nat → Nat → Option Nat} (hB : LBd L (2 ^ 30)) {u n : Nat} (k : Nat) : (if nI (ecc L u n k) < eN (es L u k n) then eN (es L u k n) else nI (ecc L u n k)) = nI (ecc L u n (k + 1)) := by
  have h1 := ecc_lt hB (u := u) (n := n) k
  cases e : es L u k n with
  | none =>
    rw [ecc_no e]
    exact if_neg (Int32.not_lt.mpr (m1_le _ h1))
  | some q =>
    have hq := es_lt hB e
    rcases Nat.lt_or_ge (ecc L u n k) q with g | g
    · rw [ecc_yes e g]
      exact if_pos ((nI_ltI h1 hq).mpr g)
    · rw [ecc_low e g]
      exact if_neg (fun z => absurd ((nI_ltI h1 hq).mp z) (Nat.not_lt.mpr g))
set_option maxHeartbeats 4000000 in
set_option maxRecDepth 100000 in
theorem c_requireVertex (l : Launch) (dG : va_G) (cI cJ : ClassId) (xo tl ts : Nat) (bt : Bool) (se : Nat) (g gA n ec : Nat) (ns : Nat → Int64) (lb aR aV aH aD aP : Nat) (rk vb : Nat → Int32) (rc : Int32) (hs : Nat → Int64) (D Pp : Nat → Int32) (hn : n ≤ 48) (v : Nat) (hv : v < n) : Met l yX3_requireVertex wsX3_requireVertex ({ frames := 1, cells := 0, slots := 0, locals := 21 } : Room) (RPc dG cI cJ [.ref xo, .int (nI v)] (XW xo g lb se tl ts (bI bt) ++ (GW cJ g gA (nI n) (nI ec) ns ++ (LW cI cJ lb aR aV aH aD aP rk vb rc hs D Pp)))) (va_Sv (fun _ => True)) 0 0 (fun _ => False) := by
  refine Met.ofW (cc := cX3_requireVertex) (maxL := 2) (ret := none) (by decide) rfl ?_
  intro p e s m args below meth c s₁ B9 hml hv
  obtain ⟨rfl, hP, hK⟩ := hv
  have hx := B9.exec
  have hb := B9.bytes
  have hr := B9.returns
  have hts := atoms_spec (ws := wsX3_requireVertex) B9.pre
  have hown : s.vm.findClass RX3 = some m.cls := findClass_of_methodNamed B9.named
  have hlocks := B9.notSynchronized
  have hl := lv_entry ([.ref xo, .int (nI v)]) (n := 2) (Nat.le_of_ble_eq_true rfl)
  rw [lg_entry_eq]
  generalize (lg_sl ([.ref xo, .int (nI v)]) ++ List.replicate (2 - (lg_sl ([.ref xo, .int (nI v)])).length) Slot.unset).toArray = ls at hl ⊢
  have hl : lv_has ls 2 [(0, .ref xo), (1, .int (nI v))] := hl
  have hiX3 : ∀ w ∈ wsX30, w ∈ wsX3_requireVertex := by decide +kernel
  have hf10 := hts (.fieldLink RX3 10 "LandmarkLea" "graph" "LLandmarkLea$Graph;") (by decide +kernel)
  refine lv_aload_n hx hb dX3_requireVertex_0 rfl (lv_at hl 0 rfl) ?_
  refine va_get (D := dG) (ci := 3) (v := .ref g) (C := RX3) (T := TX3) (N := 6) hx hb hts hiX3 hown hK.1 hP 0 rfl rfl 0 (by decide) hf10 (fun _ h9 => h9) rfl dX3_requireVertex_1 ?_
  refine lv_iload_n hx hb dX3_requireVertex_4 rfl (lv_at hl 1 rfl) ?_
  have hPc := hP.sub (ws' := (GW cJ g gA (nI n) (nI ec) ns)) [1, 2] rfl
  refine x_ri (W.runV (As := [.int (nI v)]) (rest := []) ⟨hx, hb, hml, hown, hts⟩ (c_has l dG cI cJ g gA n ec ns (by omega) (nI v)) (cwV 1 hts gX3_requireVertex_X0_has rfl rfl rfl (by decide +kernel) ⟨Nat.le_of_ble_eq_true rfl, Nat.le_of_ble_eq_true rfl⟩) (RPc.pre hPc hK (va_recv hK.1 hPc (ci := 0) (q0 := 0) rfl rfl)) rfl rfl hl.1 rfl (lv_room (Nat.le_of_ble_eq_true rfl)) dX3_requireVertex_5 ⟨Nat.zero_le _, Nat.zero_le _⟩) ?_
  refine x_ifneB (tgt := 21) hx hb dX3_requireVertex_8 (by decide) (fun c8 => ?_) (fun c8 => ?_)
  · skip
    exact W.vret hx hb hr (fun t ht hW => ⟨rfl, trivial, ht⟩) (fun _ h => nomatch h) dX3_requireVertex_21
  · skip
    rw [inV_nI (by omega), decide_eq_true hv] at c8; cases c8

set_option maxHeartbeats 4000000 in
set_option maxRecDepth 100000 in
theorem c_requireRoomFor (l : Launch) (dG : va_G) (cI cJ : ClassId) (xo tl ts : Nat) (bt : Bool) (se : Nat) (g gA n ec : Nat) (ns : Nat → Int64) (lb aR aV aH aD aP : Nat) (rk vb : Nat → Int32) (rc : Int32) (hs : Nat → Int64) (D Pp : Nat → Int32) (hn : n ≤ 48) (k : Nat) (hk : n + k ≤ 48) : Met l yX3_requireRoomFor wsX3_requireRoomFor ({ frames := 1, cells := 0, slots := 0, locals := 20 } : Room) (RPc dG cI cJ [.ref xo, .int (nI k)] (XW xo g lb se tl ts (bI bt) ++ (GW cJ g gA (nI n) (nI ec) ns ++ (LW cI cJ lb aR aV aH aD aP rk vb rc hs D Pp)))) (va_Sv (fun _ => True)) 0 0 (fun _ => False) := by
  refine Met.ofW (cc := cX3_requireRoomFor) (maxL := 2) (ret := none) (by decide) rfl ?_
  intro p e s m args below meth c s₁ B9 hml hv
  obtain ⟨rfl, hP, hK⟩ := hv
  have hx := B9.exec
  have hb := B9.bytes
  have hr := B9.returns
  have hts := atoms_spec (ws := wsX3_requireRoomFor) B9.pre
  have hown : s.vm.findClass RX3 = some m.cls := findClass_of_methodNamed B9.named
  have hlocks := B9.notSynchronized
  have hl := lv_entry ([.ref xo, .int (nI k)]) (n := 2) (Nat.le_of_ble_eq_true rfl)
  rw [lg_entry_eq]
  generalize (lg_sl ([.ref xo, .int (nI k)]) ++ List.replicate (2 - (lg_sl ([.ref xo, .int (nI k)])).length) Slot.unset).toArray = ls at hl ⊢
  have hl : lv_has ls 2 [(0, .ref xo), (1, .int (nI k))] := hl
  have hiX3 : ∀ w ∈ wsX30, w ∈ wsX3_requireRoomFor := by decide +kernel
  have hf10 := hts (.fieldLink RX3 10 "LandmarkLea" "graph" "LLandmarkLea$Graph;") (by decide +kernel)
  refine lv_iload_n hx hb dX3_requireRoomFor_0 rfl (lv_at hl 1 rfl) ?_
  refine lv_bipush (v := (nI 48)) hx hb dX3_requireRoomFor_1 (by decide) ?_
  refine lv_aload_n hx hb dX3_requireRoomFor_3 rfl (lv_at hl 0 rfl) ?_
  refine va_get (D := dG) (ci := 3) (v := .ref g) (C := RX3) (T := TX3) (N := 6) hx hb hts hiX3 hown hK.1 hP 0 rfl rfl 0 (by decide) hf10 (fun _ h9 => h9) rfl dX3_requireRoomFor_4 ?_
  have hPc := hP.sub (ws' := (GW cJ g gA (nI n) (nI ec) ns)) [1, 2] rfl
  refine x_ri (W.runV (As := []) (rest := [.int (nI 48), .int (nI k)]) ⟨hx, hb, hml, hown, hts⟩ (c_size l dG cI cJ g gA n ec ns) (cwV 0 hts gX3_requireRoomFor_X0_size rfl rfl rfl (by decide +kernel) ⟨Nat.le_of_ble_eq_true rfl, Nat.le_of_ble_eq_true rfl⟩) (RPc.pre hPc hK (va_recv hK.1 hPc (ci := 0) (q0 := 0) rfl rfl)) rfl rfl hl.1 rfl (lv_room (Nat.le_of_ble_eq_true rfl)) dX3_requireRoomFor_7 ⟨Nat.zero_le _, Nat.zero_le _⟩) ?_
  refine x_subN (i := 48) (j := n) hx hb (by omega) dX3_requireRoomFor_10 ?_
  refine x_icmp_leN (i := k) (j := (48 - n)) (tgt := 24) hx hb (by omega) (by omega) dX3_requireRoomFor_11 (by decide) (fun c11 => ?_) (fun c11 => ?_)
  · skip
    exact W.vret hx hb hr (fun t ht hW => ⟨rfl, trivial, ht⟩) (fun _ h => nomatch h) dX3_requireRoomFor_24
  · skip
    exact absurd c11 (by omega)

set_option maxHeartbeats 4000000 in
set_option maxRecDepth 100000 in
theorem c_requireLabelsOf (l : Launch) (dG : va_G) (cI cJ : ClassId) (xo tl ts : Nat) (bt : Bool) (se : Nat) (g gA n ec : Nat) (ns : Nat → Int64) (lb aR aV aH aD aP : Nat) (rk vb : Nat → Int32) (rc : Int32) (hs : Nat → Int64) (D Pp : Nat → Int32) (hn : n ≤ 48) (u v : Nat) (hu : u < n) (hv : v < n) (hbt : bt = true) : Met l yX3_requireLabelsOf wsX3_requireLabelsOf ({ frames := 2, cells := 0, slots := 0, locals := 42 } : Room) (RPc dG cI cJ [.ref xo, .int (nI u), .int (nI v)] (XW xo g lb se tl ts (bI bt) ++ (GW cJ g gA (nI n) (nI ec) ns ++ (LW cI cJ lb aR aV aH aD aP rk vb rc hs D Pp)))) (va_Sv (fun _ => True)) 0 0 (fun _ => False) := by
  refine Met.ofW (cc := cX3_requireLabelsOf) (maxL := 3) (ret := none) (by decide) rfl ?_
  intro p e s m args below meth c s₁ B9 hml hv
  obtain ⟨rfl, hP, hK⟩ := hv
  have hx := B9.exec
  have hb := B9.bytes
  have hr := B9.returns
  have hts := atoms_spec (ws := wsX3_requireLabelsOf) B9.pre
  have hown : s.vm.findClass RX3 = some m.cls := findClass_of_methodNamed B9.named
  have hlocks := B9.notSynchronized
  have hl := lv_entry ([.ref xo, .int (nI u), .int (nI v)]) (n := 3) (Nat.le_of_ble_eq_true rfl)
  rw [lg_entry_eq]
  generalize (lg_sl ([.ref xo, .int (nI u), .int (nI v)]) ++ List.replicate (3 - (lg_sl ([.ref xo, .int (nI u), .int (nI v)])).length) Slot.unset).toArray = ls at hl ⊢
  have hl : lv_has ls 3 [(0, .ref xo), (1, .int (nI u)), (2, .int (nI v))] := hl
  have hiX3 : ∀ w ∈ wsX30, w ∈ wsX3_requireLabelsOf := by decide +kernel
  have hf38 := hts (.fieldLink RX3 38 "LandmarkLea" "labelled" "Z") (by decide +kernel)
  refine lv_aload_n hx hb dX3_requireLabelsOf_0 rfl (lv_at hl 0 rfl) ?_
  refine lv_iload_n hx hb dX3_requireLabelsOf_1 rfl (lv_at hl 1 rfl) ?_
  have hPc := hP.sub (ws' := (XW xo g lb se tl ts (bI bt) ++ (GW cJ g gA (nI n) (nI ec) ns ++ (LW cI cJ lb aR aV aH aD aP rk vb rc hs D Pp)))) [0, 1, 2, 3, 4, 5, 6, 7, 8] rfl
  refine x_rv (W.runV (As := [.int (nI u)]) (rest := []) ⟨hx, hb, hml, hown, hts⟩ (c_requireVertex l dG cI cJ xo tl ts bt se g gA n ec ns lb aR aV aH aD aP rk vb rc hs D Pp hn u (by omega)) (cwV 1 hts gX3_requireLabelsOf_X3_requireVertex rfl rfl rfl (by decide +kernel) ⟨Nat.le_of_ble_eq_true rfl, Nat.le_of_ble_eq_true rfl⟩) (RPc.pre hPc hK (va_recv hK.1 hPc (ci := 3) (q0 := 0) rfl rfl)) rfl rfl hl.1 rfl (lv_room (Nat.le_of_ble_eq_true rfl)) dX3_requireLabelsOf_2 ⟨Nat.zero_le _, Nat.zero_le _⟩) ?_
  refine lv_aload_n hx hb dX3_requireLabelsOf_5 rfl (lv_at hl 0 rfl) ?_
  refine lv_iload_n hx hb dX3_requireLabelsOf_6 rfl (lv_at hl 2 rfl) ?_
  have hPc := hP.sub (ws' := (XW xo g lb se tl ts (bI bt) ++ (GW cJ g gA (nI n) (nI ec) ns ++ (LW cI cJ lb aR aV aH aD aP rk vb rc hs D Pp)))) [0, 1, 2, 3, 4, 5, 6, 7, 8] rfl
  refine x_rv (W.runV (As := [.int (nI v)]) (rest := []) ⟨hx, hb, hml, hown, hts⟩ (c_requireVertex l dG cI cJ xo tl ts bt se g gA n ec ns lb aR aV aH aD aP rk vb rc hs D Pp hn v (by omega)) (cwV 1 hts gX3_requireLabelsOf_X3_requireVertex rfl rfl rfl (by decide +kernel) ⟨Nat.le_of_ble_eq_true rfl, Nat.le_of_ble_eq_true rfl⟩) (RPc.pre hPc hK (va_recv hK.1 hPc (ci := 3) (q0 := 0) rfl rfl)) rfl rfl hl.1 rfl (lv_room (Nat.le_of_ble_eq_true rfl)) dX3_requireLabelsOf_7 ⟨Nat.zero_le _, Nat.zero_le _⟩) ?_
  refine lv_aload_n hx hb dX3_requireLabelsOf_10 rfl (lv_at hl 0 rfl) ?_
  refine va_get (D := dG) (ci := 3) (v := .int (bI bt)) (C := RX3) (T := TX3) (N := 6) hx hb hts hiX3 hown hK.1 hP 0 rfl rfl 5 (by decide) hf38 (fun _ h9 => h9) rfl dX3_requireLabelsOf_11 ?_
  refine x_ifneB (tgt := 27) hx hb dX3_requireLabelsOf_14 (by decide) (fun c14 => ?_) (fun c14 => ?_)
  · skip
    exact W.vret hx hb hr (fun t ht hW => ⟨rfl, trivial, ht⟩) (fun _ h => nomatch h) dX3_requireLabelsOf_27
  · skip
    rw [hbt] at c14; cases c14

set_option maxHeartbeats 4000000 in
set_option maxRecDepth 100000 in
theorem c_requireLabelOf (l : Launch) (dG : va_G) (cI cJ : ClassId) (xo tl ts : Nat) (bt : Bool) (se : Nat) (g gA n ec : Nat) (ns : Nat → Int64) (lb aR aV aH aD aP : Nat) (rk vb : Nat → Int32) (rc : Int32) (hs : Nat → Int64) (D Pp : Nat → Int32) (hn : n ≤ 48) (u : Nat) (hu : u < n) (hbt : bt = true) : Met l yX3_requireLabelOf wsX3_requireLabelOf ({ frames := 3, cells := 0, slots := 0, locals := 64 } : Room) (RPc dG cI cJ [.ref xo, .int (nI u)] (XW xo g lb se tl ts (bI bt) ++ (GW cJ g gA (nI n) (nI ec) ns ++ (LW cI cJ lb aR aV aH aD aP rk vb rc hs D Pp)))) (va_Sv (fun _ => True)) 0 0 (fun _ => False) := by
  refine Met.ofW (cc := cX3_requireLabelOf) (maxL := 2) (ret := none) (by decide) rfl ?_
  intro p e s m args below meth c s₁ B9 hml hv
  obtain ⟨rfl, hP, hK⟩ := hv
  have hx := B9.exec
  have hb := B9.bytes
  have hr := B9.returns
  have hts := atoms_spec (ws := wsX3_requireLabelOf) B9.pre
  have hown : s.vm.findClass RX3 = some m.cls := findClass_of_methodNamed B9.named
  have hlocks := B9.notSynchronized
  have hl := lv_entry ([.ref xo, .int (nI u)]) (n := 2) (Nat.le_of_ble_eq_true rfl)
  rw [lg_entry_eq]
  generalize (lg_sl ([.ref xo, .int (nI u)]) ++ List.replicate (2 - (lg_sl ([.ref xo, .int (nI u)])).length) Slot.unset).toArray = ls at hl ⊢
  have hl : lv_has ls 2 [(0, .ref xo), (1, .int (nI u))] := hl
  refine lv_aload_n hx hb dX3_requireLabelOf_0 rfl (lv_at hl 0 rfl) ?_
  refine lv_iload_n hx hb dX3_requireLabelOf_1 rfl (lv_at hl 1 rfl) ?_
  refine lv_iload_n hx hb dX3_requireLabelOf_2 rfl (lv_at hl 1 rfl) ?_
  have hPc := hP.sub (ws' := (XW xo g lb se tl ts (bI bt) ++ (GW cJ g gA (nI n) (nI ec) ns ++ (LW cI cJ lb aR aV aH aD aP rk vb rc hs D Pp)))) [0, 1, 2, 3, 4, 5, 6, 7, 8] rfl
  refine x_rv (W.runV (As := [.int (nI u), .int (nI u)]) (rest := []) ⟨hx, hb, hml, hown, hts⟩ (c_requireLabelsOf l dG cI cJ xo tl ts bt se g gA n ec ns lb aR aV aH aD aP rk vb rc hs D Pp hn u u (by omega) (by omega) hbt) (cwV 2 hts gX3_requireLabelOf_X3_requireLabelsOf rfl rfl rfl (by decide +kernel) ⟨Nat.le_of_ble_eq_true rfl, Nat.le_of_ble_eq_true rfl⟩) (RPc.pre hPc hK (va_recv hK.1 hPc (ci := 3) (q0 := 0) rfl rfl)) rfl rfl hl.1 rfl (lv_room (Nat.le_of_ble_eq_true rfl)) dX3_requireLabelOf_3 ⟨Nat.zero_le _, Nat.zero_le _⟩) ?_
  exact W.vret hx hb hr (fun t ht hW => ⟨rfl, trivial, ht⟩) (fun _ h => nomatch h) dX3_requireLabelOf_6

set_option maxHeartbeats 4000000 in
set_option maxRecDepth 100000 in
theorem c_requireEntry (l : Launch) (dG : va_G) (cI cJ : ClassId) (xo tl ts : Nat) (bt : Bool) (se : Nat) (g gA n ec : Nat) (ns : Nat → Int64) (lb aR aV aH aD aP : Nat) (rk vb : Nat → Int32) (rc : Int32) (hs : Nat → Int64) (D Pp : Nat → Int32) (hn : n ≤ 48) (L P : Nat → Nat → Option Nat) (hR : RepL L P hs D Pp) (u e0 : Nat) (hu : u < n) (he : e0 < lct L u) (he2 : e0 < 2 ^ 31) (hc : lct L u < 2 ^ 31) : Met l yX3_requireEntry wsX3_requireEntry ({ frames := 2, cells := 0, slots := 0, locals := 42 } : Room) (RPc dG cI cJ [.ref xo, .int (nI u), .int (nI e0)] (XW xo g lb se tl ts (bI bt) ++ (GW cJ g gA (nI n) (nI ec) ns ++ (LW cI cJ lb aR aV aH aD aP rk vb rc hs D Pp)))) (va_Sv (fun _ => True)) 0 0 (fun _ => False) := by
  refine Met.ofW (cc := cX3_requireEntry) (maxL := 3) (ret := none) (by decide) rfl ?_
  intro p e s m args below meth c s₁ B9 hml hv
  obtain ⟨rfl, hP, hK⟩ := hv
  have hx := B9.exec
  have hb := B9.bytes
  have hr := B9.returns
  have hts := atoms_spec (ws := wsX3_requireEntry) B9.pre
  have hown : s.vm.findClass RX3 = some m.cls := findClass_of_methodNamed B9.named
  have hlocks := B9.notSynchronized
  have hl := lv_entry ([.ref xo, .int (nI u), .int (nI e0)]) (n := 3) (Nat.le_of_ble_eq_true rfl)
  rw [lg_entry_eq]
  generalize (lg_sl ([.ref xo, .int (nI u), .int (nI e0)]) ++ List.replicate (3 - (lg_sl ([.ref xo, .int (nI u), .int (nI e0)])).length) Slot.unset).toArray = ls at hl ⊢
  have hl : lv_has ls 3 [(0, .ref xo), (1, .int (nI u)), (2, .int (nI e0))] := hl
  have hiX3 : ∀ w ∈ wsX30, w ∈ wsX3_requireEntry := by decide +kernel
  have hf19 := hts (.fieldLink RX3 19 "LandmarkLea" "labels" "LLandmarkLea$Labels;") (by decide +kernel)
  refine lv_iload_n hx hb dX3_requireEntry_0 rfl (lv_at hl 2 rfl) ?_
  refine x_ifltN (tgt := 16) hx hb (by omega) dX3_requireEntry_1 (by decide) ?_
  refine lv_iload_n hx hb dX3_requireEntry_4 rfl (lv_at hl 2 rfl) ?_
  refine lv_aload_n hx hb dX3_requireEntry_5 rfl (lv_at hl 0 rfl) ?_
  refine va_get (D := dG) (ci := 3) (v := .ref lb) (C := RX3) (T := TX3) (N := 6) hx hb hts hiX3 hown hK.1 hP 0 rfl rfl 1 (by decide) hf19 (fun _ h9 => h9) rfl dX3_requireEntry_6 ?_
  refine lv_iload_n hx hb dX3_requireEntry_9 rfl (lv_at hl 1 rfl) ?_
  have hPc := hP.sub (ws' := (LW cI cJ lb aR aV aH aD aP rk vb rc hs D Pp)) [3, 4, 5, 6, 7, 8] rfl
  refine x_ri (W.runV (As := [.int (nI u)]) (rest := [.int (nI e0)]) ⟨hx, hb, hml, hown, hts⟩ (c_countOf l dG cI cJ lb aR aV aH aD aP rk vb rc hs D Pp L P hR u (by omega)) (cwV 1 hts gX3_requireEntry_X1_countOf rfl rfl rfl (by decide +kernel) ⟨Nat.le_of_ble_eq_true rfl, Nat.le_of_ble_eq_true rfl⟩) (RPc.pre hPc hK (va_recv hK.1 hPc (ci := 1) (q0 := 0) rfl rfl)) rfl rfl hl.1 rfl (lv_room (Nat.le_of_ble_eq_true rfl)) dX3_requireEntry_10 ⟨Nat.zero_le _, Nat.zero_le _⟩) ?_
  refine x_icmp_ltN (i := e0) (j := (lct L u)) (tgt := 26) hx hb (by omega) (by omega) dX3_requireEntry_13 (by decide) (fun c13 => ?_) (fun c13 => ?_)
  · skip
    exact W.vret hx hb hr (fun t ht hW => ⟨rfl, trivial, ht⟩) (fun _ h => nomatch h) dX3_requireEntry_26
  · skip
    exact absurd he (by omega)

set_option maxHeartbeats 4000000 in
set_option maxRecDepth 100000 in
theorem c_vertices (l : Launch) (dG : va_G) (cI cJ : ClassId) (xo tl ts : Nat) (bt : Bool) (se : Nat) (g gA n ec : Nat) (ns : Nat → Int64) (lb aR aV aH aD aP : Nat) (rk vb : Nat → Int32) (rc : Int32) (hs : Nat → Int64) (D Pp : Nat → Int32) (hn : n ≤ 48) : Met l yX3_vertices wsX3_vertices ({ frames := 1, cells := 0, slots := 0, locals := 20 } : Room) (RPc dG cI cJ [.ref xo] (XW xo g lb se tl ts (bI bt) ++ (GW cJ g gA (nI n) (nI ec) ns ++ (LW cI cJ lb aR aV aH aD aP rk vb rc hs D Pp)))) (vp_Si (fun r9 => r9 = (nI n))) 0 0 (fun _ => False) := by
  refine Met.ofW (cc := cX3_vertices) (maxL := 1) (ret := (some .int)) (by decide) rfl ?_
  intro p e s m args below meth c s₁ B9 hml hv
  obtain ⟨rfl, hP, hK⟩ := hv
  have hx := B9.exec
  have hb := B9.bytes
  have hr := B9.returns
  have hts := atoms_spec (ws := wsX3_vertices) B9.pre
  have hown : s.vm.findClass RX3 = some m.cls := findClass_of_methodNamed B9.named
  have hlocks := B9.notSynchronized
  have hl := lv_entry ([.ref xo]) (n := 1) (Nat.le_of_ble_eq_true rfl)
  rw [lg_entry_eq]
  generalize (lg_sl ([.ref xo]) ++ List.replicate (1 - (lg_sl ([.ref xo])).length) Slot.unset).toArray = ls at hl ⊢
  have hl : lv_has ls 1 [(0, .ref xo)] := hl
  have hiX3 : ∀ w ∈ wsX30, w ∈ wsX3_vertices := by decide +kernel
  have hf10 := hts (.fieldLink RX3 10 "LandmarkLea" "graph" "LLandmarkLea$Graph;") (by decide +kernel)
  refine lv_aload_n hx hb dX3_vertices_0 rfl (lv_at hl 0 rfl) ?_
  refine va_get (D := dG) (ci := 3) (v := .ref g) (C := RX3) (T := TX3) (N := 6) hx hb hts hiX3 hown hK.1 hP 0 rfl rfl 0 (by decide) hf10 (fun _ h9 => h9) rfl dX3_vertices_1 ?_
  have hPc := hP.sub (ws' := (GW cJ g gA (nI n) (nI ec) ns)) [1, 2] rfl
  refine x_ri (W.runV (As := []) (rest := []) ⟨hx, hb, hml, hown, hts⟩ (c_size l dG cI cJ g gA n ec ns) (cwV 0 hts gX3_vertices_X0_size rfl rfl rfl (by decide +kernel) ⟨Nat.le_of_ble_eq_true rfl, Nat.le_of_ble_eq_true rfl⟩) (RPc.pre hPc hK (va_recv hK.1 hPc (ci := 0) (q0 := 0) rfl rfl)) rfl rfl hl.1 rfl (lv_room (Nat.le_of_ble_eq_true rfl)) dX3_vertices_4 ⟨Nat.zero_le _, Nat.zero_le _⟩) ?_
  exact W.iret (v := (nI n)) hx hb hr (fun t ht hW => ⟨_, rfl, rfl, ht⟩) (fun _ h => nomatch h) dX3_vertices_7

set_option maxHeartbeats 4000000 in
set_option maxRecDepth 100000 in
theorem c_edges (l : Launch) (dG : va_G) (cI cJ : ClassId) (xo tl ts : Nat) (bt : Bool) (se : Nat) (g gA n ec : Nat) (ns : Nat → Int64) (lb aR aV aH aD aP : Nat) (rk vb : Nat → Int32) (rc : Int32) (hs : Nat → Int64) (D Pp : Nat → Int32) (hn : n ≤ 48) : Met l yX3_edges wsX3_edges ({ frames := 1, cells := 0, slots := 0, locals := 20 } : Room) (RPc dG cI cJ [.ref xo] (XW xo g lb se tl ts (bI bt) ++ (GW cJ g gA (nI n) (nI ec) ns ++ (LW cI cJ lb aR aV aH aD aP rk vb rc hs D Pp)))) (vp_Si (fun r9 => r9 = (nI ec))) 0 0 (fun _ => False) := by
  refine Met.ofW (cc := cX3_edges) (maxL := 1) (ret := (some .int)) (by decide) rfl ?_
  intro p e s m args below meth c s₁ B9 hml hv
  obtain ⟨rfl, hP, hK⟩ := hv
  have hx := B9.exec
  have hb := B9.bytes
  have hr := B9.returns
  have hts := atoms_spec (ws := wsX3_edges) B9.pre
  have hown : s.vm.findClass RX3 = some m.cls := findClass_of_methodNamed B9.named
  have hlocks := B9.notSynchronized
  have hl := lv_entry ([.ref xo]) (n := 1) (Nat.le_of_ble_eq_true rfl)
  rw [lg_entry_eq]
  generalize (lg_sl ([.ref xo]) ++ List.replicate (1 - (lg_sl ([.ref xo])).length) Slot.unset).toArray = ls at hl ⊢
  have hl : lv_has ls 1 [(0, .ref xo)] := hl
  have hiX3 : ∀ w ∈ wsX30, w ∈ wsX3_edges := by decide +kernel
  have hf10 := hts (.fieldLink RX3 10 "LandmarkLea" "graph" "LLandmarkLea$Graph;") (by decide +kernel)
  refine lv_aload_n hx hb dX3_edges_0 rfl (lv_at hl 0 rfl) ?_
  refine va_get (D := dG) (ci := 3) (v := .ref g) (C := RX3) (T := TX3) (N := 6) hx hb hts hiX3 hown hK.1 hP 0 rfl rfl 0 (by decide) hf10 (fun _ h9 => h9) rfl dX3_edges_1 ?_
  have hPc := hP.sub (ws' := (GW cJ g gA (nI n) (nI ec) ns)) [1, 2] rfl
  refine x_ri (W.runV (As := []) (rest := []) ⟨hx, hb, hml, hown, hts⟩ (c_countOfEdges l dG cI cJ g gA n ec ns) (cwV 0 hts gX3_edges_X0_countOfEdges rfl rfl rfl (by decide +kernel) ⟨Nat.le_of_ble_eq_true rfl, Nat.le_of_ble_eq_true rfl⟩) (RPc.pre hPc hK (va_recv hK.1 hPc (ci := 0) (q0 := 0) rfl rfl)) rfl rfl hl.1 rfl (lv_room (Nat.le_of_ble_eq_true rfl)) dX3_edges_4 ⟨Nat.zero_le _, Nat.zero_le _⟩) ?_
  exact W.iret (v := (nI ec)) hx hb hr (fun t ht hW => ⟨_, rfl, rfl, ht⟩) (fun _ h => nomatch h) dX3_edges_7

set_option maxHeartbeats 4000000 in
set_option maxRecDepth 100000 in
theorem c_isBuilt (l : Launch) (dG : va_G) (cI cJ : ClassId) (xo tl ts : Nat) (bt : Bool) (se : Nat) (g gA n ec : Nat) (ns : Nat → Int64) (lb aR aV aH aD aP : Nat) (rk vb : Nat → Int32) (rc : Int32) (hs : Nat → Int64) (D Pp : Nat → Int32) (hn : n ≤ 48) : Met l yX3_isBuilt wsX3_isBuilt ({ frames := 0, cells := 0, slots := 0, locals := 0 } : Room) (RPc dG cI cJ [.ref xo] (XW xo g lb se tl ts (bI bt) ++ (GW cJ g gA (nI n) (nI ec) ns ++ (LW cI cJ lb aR aV aH aD aP rk vb rc hs D Pp)))) (vp_Si (fun r9 => r9 = (bI bt))) 0 0 (fun _ => False) := by
  refine Met.ofW (cc := cX3_isBuilt) (maxL := 1) (ret := (some .boolean)) (by decide) rfl ?_
  intro p e s m args below meth c s₁ B9 hml hv
  obtain ⟨rfl, hP, hK⟩ := hv
  have hx := B9.exec
  have hb := B9.bytes
  have hr := B9.returns
  have hts := atoms_spec (ws := wsX3_isBuilt) B9.pre
  have hown : s.vm.findClass RX3 = some m.cls := findClass_of_methodNamed B9.named
  have hlocks := B9.notSynchronized
  have hl := lv_entry ([.ref xo]) (n := 1) (Nat.le_of_ble_eq_true rfl)
  rw [lg_entry_eq]
  generalize (lg_sl ([.ref xo]) ++ List.replicate (1 - (lg_sl ([.ref xo])).length) Slot.unset).toArray = ls at hl ⊢
  have hl : lv_has ls 1 [(0, .ref xo)] := hl
  have hiX3 : ∀ w ∈ wsX30, w ∈ wsX3_isBuilt := by decide +kernel
  have hf38 := hts (.fieldLink RX3 38 "LandmarkLea" "labelled" "Z") (by decide +kernel)
  refine lv_aload_n hx hb dX3_isBuilt_0 rfl (lv_at hl 0 rfl) ?_
  refine va_get (D := dG) (ci := 3) (v := .int (bI bt)) (C := RX3) (T := TX3) (N := 6) hx hb hts hiX3 hown hK.1 hP 0 rfl rfl 5 (by decide) hf38 (fun _ h9 => h9) rfl dX3_isBuilt_1 ?_
  exact W.zret (v := (bI bt)) (ty := .boolean) hx hb hr (bI_narrow _) (fun t ht hW => ⟨_, rfl, rfl, ht⟩) (fun _ h => nomatch h) dX3_isBuilt_4

set_option maxHeartbeats 4000000 in
set_option maxRecDepth 100000 in
theorem c_neighbours (l : Launch) (dG : va_G) (cI cJ : ClassId) (xo tl ts : Nat) (bt : Bool) (se : Nat) (g gA n ec : Nat) (ns : Nat → Int64) (lb aR aV aH aD aP : Nat) (rk vb : Nat → Int32) (rc : Int32) (hs : Nat → Int64) (D Pp : Nat → Int32) (hn : n ≤ 48) (u : Nat) (hu : u < n) : Met l yX3_neighbours wsX3_neighbours ({ frames := 2, cells := 0, slots := 0, locals := 42 } : Room) (RPc dG cI cJ [.ref xo, .int (nI u)] (XW xo g lb se tl ts (bI bt) ++ (GW cJ g gA (nI n) (nI ec) ns ++ (LW cI cJ lb aR aV aH aD aP rk vb rc hs D Pp)))) (vp_Sl (fun r9 => r9 = (ns u))) 0 0 (fun _ => False) := by
  refine Met.ofW (cc := cX3_neighbours) (maxL := 2) (ret := (some .long)) (by decide) rfl ?_
  intro p e s m args below meth c s₁ B9 hml hv
  obtain ⟨rfl, hP, hK⟩ := hv
  have hx := B9.exec
  have hb := B9.bytes
  have hr := B9.returns
  have hts := atoms_spec (ws := wsX3_neighbours) B9.pre
  have hown : s.vm.findClass RX3 = some m.cls := findClass_of_methodNamed B9.named
  have hlocks := B9.notSynchronized
  have hl := lv_entry ([.ref xo, .int (nI u)]) (n := 2) (Nat.le_of_ble_eq_true rfl)
  rw [lg_entry_eq]
  generalize (lg_sl ([.ref xo, .int (nI u)]) ++ List.replicate (2 - (lg_sl ([.ref xo, .int (nI u)])).length) Slot.unset).toArray = ls at hl ⊢
  have hl : lv_has ls 2 [(0, .ref xo), (1, .int (nI u))] := hl
  have hiX3 : ∀ w ∈ wsX30, w ∈ wsX3_neighbours := by decide +kernel
  have hf10 := hts (.fieldLink RX3 10 "LandmarkLea" "graph" "LLandmarkLea$Graph;") (by decide +kernel)
  refine lv_aload_n hx hb dX3_neighbours_0 rfl (lv_at hl 0 rfl) ?_
  refine lv_iload_n hx hb dX3_neighbours_1 rfl (lv_at hl 1 rfl) ?_
  have hPc := hP.sub (ws' := (XW xo g lb se tl ts (bI bt) ++ (GW cJ g gA (nI n) (nI ec) ns ++ (LW cI cJ lb aR aV aH aD aP rk vb rc hs D Pp)))) [0, 1, 2, 3, 4, 5, 6, 7, 8] rfl
  refine x_rv (W.runV (As := [.int (nI u)]) (rest := []) ⟨hx, hb, hml, hown, hts⟩ (c_requireVertex l dG cI cJ xo tl ts bt se g gA n ec ns lb aR aV aH aD aP rk vb rc hs D Pp hn u hu) (cwV 1 hts gX3_neighbours_X3_requireVertex rfl rfl rfl (by decide +kernel) ⟨Nat.le_of_ble_eq_true rfl, Nat.le_of_ble_eq_true rfl⟩) (RPc.pre hPc hK (va_recv hK.1 hPc (ci := 3) (q0 := 0) rfl rfl)) rfl rfl hl.1 rfl (lv_room (Nat.le_of_ble_eq_true rfl)) dX3_neighbours_2 ⟨Nat.zero_le _, Nat.zero_le _⟩) ?_
  refine lv_aload_n hx hb dX3_neighbours_5 rfl (lv_at hl 0 rfl) ?_
  refine va_get (D := dG) (ci := 3) (v := .ref g) (C := RX3) (T := TX3) (N := 6) hx hb hts hiX3 hown hK.1 hP 0 rfl rfl 0 (by decide) hf10 (fun _ h9 => h9) rfl dX3_neighbours_6 ?_
  refine lv_iload_n hx hb dX3_neighbours_9 rfl (lv_at hl 1 rfl) ?_
  have hPc := hP.sub (ws' := (GW cJ g gA (nI n) (nI ec) ns)) [1, 2] rfl
  refine x_rl (W.runV (As := [.int (nI u)]) (rest := []) ⟨hx, hb, hml, hown, hts⟩ (c_adjacent l dG cI cJ g gA n ec ns u (by omega)) (cwV 1 hts gX3_neighbours_X0_adjacent rfl rfl rfl (by decide +kernel) ⟨Nat.le_of_ble_eq_true rfl, Nat.le_of_ble_eq_true rfl⟩) (RPc.pre hPc hK (va_recv hK.1 hPc (ci := 0) (q0 := 0) rfl rfl)) rfl rfl hl.1 rfl (lv_room (Nat.le_of_ble_eq_true rfl)) dX3_neighbours_10 ⟨Nat.zero_le _, Nat.zero_le _⟩) ?_
  exact W.lret (v := (ns u)) hx hb hr (fun t ht hW => ⟨_, rfl, rfl, ht⟩) (fun _ h => nomatch h) dX3_neighbours_13

set_option maxHeartbeats 4000000 in
set_option maxRecDepth 100000 in
theorem c_rank (l : Launch) (dG : va_G) (cI cJ : ClassId) (xo tl ts : Nat) (bt : Bool) (se : Nat) (g gA n ec : Nat) (ns : Nat → Int64) (lb aR aV aH aD aP : Nat) (rk vb : Nat → Int32) (rc : Int32) (hs : Nat → Int64) (D Pp : Nat → Int32) (hn : n ≤ 48) (u : Nat) (hu : u < n) (hbt : bt = true) : Met l yX3_rank wsX3_rank ({ frames := 4, cells := 0, slots := 0, locals := 85 } : Room) (RPc dG cI cJ [.ref xo, .int (nI u)] (XW xo g lb se tl ts (bI bt) ++ (GW cJ g gA (nI n) (nI ec) ns ++ (LW cI cJ lb aR aV aH aD aP rk vb rc hs D Pp)))) (vp_Si (fun r9 => r9 = (rk u))) 0 0 (fun _ => False) := by
  refine Met.ofW (cc := cX3_rank) (maxL := 2) (ret := (some .int)) (by decide) rfl ?_
  intro p e s m args below meth c s₁ B9 hml hv
  obtain ⟨rfl, hP, hK⟩ := hv
  have hx := B9.exec
  have hb := B9.bytes
  have hr := B9.returns
  have hts := atoms_spec (ws := wsX3_rank) B9.pre
  have hown : s.vm.findClass RX3 = some m.cls := findClass_of_methodNamed B9.named
  have hlocks := B9.notSynchronized
  have hl := lv_entry ([.ref xo, .int (nI u)]) (n := 2) (Nat.le_of_ble_eq_true rfl)
  rw [lg_entry_eq]
  generalize (lg_sl ([.ref xo, .int (nI u)]) ++ List.replicate (2 - (lg_sl ([.ref xo, .int (nI u)])).length) Slot.unset).toArray = ls at hl ⊢
  have hl : lv_has ls 2 [(0, .ref xo), (1, .int (nI u))] := hl
  have hiX3 : ∀ w ∈ wsX30, w ∈ wsX3_rank := by decide +kernel
  have hf19 := hts (.fieldLink RX3 19 "LandmarkLea" "labels" "LLandmarkLea$Labels;") (by decide +kernel)
  refine lv_aload_n hx hb dX3_rank_0 rfl (lv_at hl 0 rfl) ?_
  refine lv_iload_n hx hb dX3_rank_1 rfl (lv_at hl 1 rfl) ?_
  have hPc := hP.sub (ws' := (XW xo g lb se tl ts (bI bt) ++ (GW cJ g gA (nI n) (nI ec) ns ++ (LW cI cJ lb aR aV aH aD aP rk vb rc hs D Pp)))) [0, 1, 2, 3, 4, 5, 6, 7, 8] rfl
  refine x_rv (W.runV (As := [.int (nI u)]) (rest := []) ⟨hx, hb, hml, hown, hts⟩ (c_requireLabelOf l dG cI cJ xo tl ts bt se g gA n ec ns lb aR aV aH aD aP rk vb rc hs D Pp hn u hu hbt) (cwV 1 hts gX3_rank_X3_requireLabelOf rfl rfl rfl (by decide +kernel) ⟨Nat.le_of_ble_eq_true rfl, Nat.le_of_ble_eq_true rfl⟩) (RPc.pre hPc hK (va_recv hK.1 hPc (ci := 3) (q0 := 0) rfl rfl)) rfl rfl hl.1 rfl (lv_room (Nat.le_of_ble_eq_true rfl)) dX3_rank_2 ⟨Nat.zero_le _, Nat.zero_le _⟩) ?_
  refine lv_aload_n hx hb dX3_rank_5 rfl (lv_at hl 0 rfl) ?_
  refine va_get (D := dG) (ci := 3) (v := .ref lb) (C := RX3) (T := TX3) (N := 6) hx hb hts hiX3 hown hK.1 hP 0 rfl rfl 1 (by decide) hf19 (fun _ h9 => h9) rfl dX3_rank_6 ?_
  refine lv_iload_n hx hb dX3_rank_9 rfl (lv_at hl 1 rfl) ?_
  have hPc := hP.sub (ws' := (LW cI cJ lb aR aV aH aD aP rk vb rc hs D Pp)) [3, 4, 5, 6, 7, 8] rfl
  refine x_ri (W.runV (As := [.int (nI u)]) (rest := []) ⟨hx, hb, hml, hown, hts⟩ (c_rankOf l dG cI cJ lb aR aV aH aD aP rk vb rc hs D Pp u (by omega)) (cwV 1 hts gX3_rank_X1_rankOf rfl rfl rfl (by decide +kernel) ⟨Nat.le_of_ble_eq_true rfl, Nat.le_of_ble_eq_true rfl⟩) (RPc.pre hPc hK (va_recv hK.1 hPc (ci := 1) (q0 := 0) rfl rfl)) rfl rfl hl.1 rfl (lv_room (Nat.le_of_ble_eq_true rfl)) dX3_rank_10 ⟨Nat.zero_le _, Nat.zero_le _⟩) ?_
  exact W.iret (v := (rk u)) hx hb hr (fun t ht hW => ⟨_, rfl, rfl, ht⟩) (fun _ h => nomatch h) dX3_rank_13

set_option maxHeartbeats 4000000 in
set_option maxRecDepth 100000 in
theorem c_entriesU (l : Launch) (dG : va_G) (cI cJ : ClassId) (xo tl ts : Nat) (bt : Bool) (se : Nat) (g gA n ec : Nat) (ns : Nat → Int64) (lb aR aV aH aD aP : Nat) (rk vb : Nat → Int32) (rc : Int32) (hs : Nat → Int64) (D Pp : Nat → Int32) (hn : n ≤ 48) (hbt : bt = false) : Met l yX3_entries wsX3_entries ({ frames := 3, cells := 0, slots := 0, locals := 64 } : Room) (RPc dG cI cJ [.ref xo] (XW xo g lb se tl ts (bI bt) ++ (GW cJ g gA (nI n) (nI ec) ns ++ (LW cI cJ lb aR aV aH aD aP rk vb rc hs D Pp)))) (vp_Si (fun r9 => r9 = (nI 0))) 0 0 (fun _ => False) := by
  refine Met.ofW (cc := cX3_entries) (maxL := 1) (ret := (some .int)) (by decide) rfl ?_
  intro p e s m args below meth c s₁ B9 hml hv
  obtain ⟨rfl, hP, hK⟩ := hv
  have hx := B9.exec
  have hb := B9.bytes
  have hr := B9.returns
  have hts := atoms_spec (ws := wsX3_entries) B9.pre
  have hown : s.vm.findClass RX3 = some m.cls := findClass_of_methodNamed B9.named
  have hlocks := B9.notSynchronized
  have hl := lv_entry ([.ref xo]) (n := 1) (Nat.le_of_ble_eq_true rfl)
  rw [lg_entry_eq]
  generalize (lg_sl ([.ref xo]) ++ List.replicate (1 - (lg_sl ([.ref xo])).length) Slot.unset).toArray = ls at hl ⊢
  have hl : lv_has ls 1 [(0, .ref xo)] := hl
  have hiX3 : ∀ w ∈ wsX30, w ∈ wsX3_entries := by decide +kernel
  have hf19 := hts (.fieldLink RX3 19 "LandmarkLea" "labels" "LLandmarkLea$Labels;") (by decide +kernel)
  have hf38 := hts (.fieldLink RX3 38 "LandmarkLea" "labelled" "Z") (by decide +kernel)
  refine lv_aload_n hx hb dX3_entries_0 rfl (lv_at hl 0 rfl) ?_
  refine va_get (D := dG) (ci := 3) (v := .int (bI bt)) (C := RX3) (T := TX3) (N := 6) hx hb hts hiX3 hown hK.1 hP 0 rfl rfl 5 (by decide) hf38 (fun _ h9 => h9) rfl dX3_entries_1 ?_
  refine x_ifeqB (tgt := 17) hx hb dX3_entries_4 (by decide) (fun c4 => ?_) (fun c4 => ?_)
  · skip
    refine lv_iconst (v := (nI 0)) hx hb dX3_entries_17 (by decide) ?_
    exact W.iret (v := (nI 0)) hx hb hr (fun t ht hW => ⟨_, rfl, rfl, ht⟩) (fun _ h => nomatch h) dX3_entries_18
  · skip
    rw [hbt] at c4; cases c4

set_option maxHeartbeats 4000000 in
set_option maxRecDepth 100000 in
theorem c_entriesB (l : Launch) (dG : va_G) (cI cJ : ClassId) (xo tl ts : Nat) (bt : Bool) (se : Nat) (g gA n ec : Nat) (ns : Nat → Int64) (lb aR aV aH aD aP : Nat) (rk vb : Nat → Int32) (rc : Int32) (hs : Nat → Int64) (D Pp : Nat → Int32) (hn : n ≤ 48) (L P : Nat → Nat → Option Nat) (hR : RepL L P hs D Pp) (hbt : bt = true) : Met l yX3_entries wsX3_entries ({ frames := 3, cells := 0, slots := 0, locals := 64 } : Room) (RPc dG cI cJ [.ref xo] (XW xo g lb se tl ts (bI bt) ++ (GW cJ g gA (nI n) (nI ec) ns ++ (LW cI cJ lb aR aV aH aD aP rk vb rc hs D Pp)))) (vp_Si (fun r9 => r9 = (nI (fb_sm (lct L) 48)))) 0 0 (fun _ => False) := by
  refine Met.ofW (cc := cX3_entries) (maxL := 1) (ret := (some .int)) (by decide) rfl ?_
  intro p e s m args below meth c s₁ B9 hml hv
  obtain ⟨rfl, hP, hK⟩ := hv
  have hx := B9.exec
  have hb := B9.bytes
  have hr := B9.returns
  have hts := atoms_spec (ws := wsX3_entries) B9.pre
  have hown : s.vm.findClass RX3 = some m.cls := findClass_of_methodNamed B9.named
  have hlocks := B9.notSynchronized
  have hl := lv_entry ([.ref xo]) (n := 1) (Nat.le_of_ble_eq_true rfl)
  rw [lg_entry_eq]
  generalize (lg_sl ([.ref xo]) ++ List.replicate (1 - (lg_sl ([.ref xo])).length) Slot.unset).toArray = ls at hl ⊢
  have hl : lv_has ls 1 [(0, .ref xo)] := hl
  have hiX3 : ∀ w ∈ wsX30, w ∈ wsX3_entries := by decide +kernel
  have hf19 := hts (.fieldLink RX3 19 "LandmarkLea" "labels" "LLandmarkLea$Labels;") (by decide +kernel)
  have hf38 := hts (.fieldLink RX3 38 "LandmarkLea" "labelled" "Z") (by decide +kernel)
  refine lv_aload_n hx hb dX3_entries_0 rfl (lv_at hl 0 rfl) ?_
  refine va_get (D := dG) (ci := 3) (v := .int (bI bt)) (C := RX3) (T := TX3) (N := 6) hx hb hts hiX3 hown hK.1 hP 0 rfl rfl 5 (by decide) hf38 (fun _ h9 => h9) rfl dX3_entries_1 ?_
  refine x_ifeqB (tgt := 17) hx hb dX3_entries_4 (by decide) (fun c4 => ?_) (fun c4 => ?_)
  · skip
    rw [hbt] at c4; cases c4
  · skip
    refine lv_aload_n hx hb dX3_entries_7 rfl (lv_at hl 0 rfl) ?_
    refine va_get (D := dG) (ci := 3) (v := .ref lb) (C := RX3) (T := TX3) (N := 6) hx hb hts hiX3 hown hK.1 hP 0 rfl rfl 1 (by decide) hf19 (fun _ h9 => h9) rfl dX3_entries_8 ?_
    have hPc := hP.sub (ws' := (LW cI cJ lb aR aV aH aD aP rk vb rc hs D Pp)) [3, 4, 5, 6, 7, 8] rfl
    refine x_ri (W.runV (As := []) (rest := []) ⟨hx, hb, hml, hown, hts⟩ (c_countAll l dG cI cJ lb aR aV aH aD aP rk vb rc hs D Pp L P hR) (cwV 0 hts gX3_entries_X1_countAll rfl rfl rfl (by decide +kernel) ⟨Nat.le_of_ble_eq_true rfl, Nat.le_of_ble_eq_true rfl⟩) (RPc.pre hPc hK (va_recv hK.1 hPc (ci := 1) (q0 := 0) rfl rfl)) rfl rfl hl.1 rfl (lv_room (Nat.le_of_ble_eq_true rfl)) dX3_entries_11 ⟨Nat.zero_le _, Nat.zero_le _⟩) ?_
    refine lv_goto (tgt := 18) hx hb dX3_entries_14 (by decide) ?_
    exact W.iret (v := (nI (fb_sm (lct L) 48))) hx hb hr (fun t ht hW => ⟨_, rfl, rfl, ht⟩) (fun _ h => nomatch h) dX3_entries_18

set_option maxHeartbeats 4000000 in
set_option maxRecDepth 100000 in
theorem c_labelSize (l : Launch) (dG : va_G) (cI cJ : ClassId) (xo tl ts : Nat) (bt : Bool) (se : Nat) (g gA n ec : Nat) (ns : Nat → Int64) (lb aR aV aH aD aP : Nat) (rk vb : Nat → Int32) (rc : Int32) (hs : Nat → Int64) (D Pp : Nat → Int32) (hn : n ≤ 48) (L P : Nat → Nat → Option Nat) (hR : RepL L P hs D Pp) (u : Nat) (hu : u < n) (hbt : bt = true) : Met l yX3_labelSize wsX3_labelSize ({ frames := 4, cells := 0, slots := 0, locals := 85 } : Room) (RPc dG cI cJ [.ref xo, .int (nI u)] (XW xo g lb se tl ts (bI bt) ++ (GW cJ g gA (nI n) (nI ec) ns ++ (LW cI cJ lb aR aV aH aD aP rk vb rc hs D Pp)))) (vp_Si (fun r9 => r9 = (nI (lct L u)))) 0 0 (fun _ => False) := by
  refine Met.ofW (cc := cX3_labelSize) (maxL := 2) (ret := (some .int)) (by decide) rfl ?_
  intro p e s m args below meth c s₁ B9 hml hv
  obtain ⟨rfl, hP, hK⟩ := hv
  have hx := B9.exec
  have hb := B9.bytes
  have hr := B9.returns
  have hts := atoms_spec (ws := wsX3_labelSize) B9.pre
  have hown : s.vm.findClass RX3 = some m.cls := findClass_of_methodNamed B9.named
  have hlocks := B9.notSynchronized
  have hl := lv_entry ([.ref xo, .int (nI u)]) (n := 2) (Nat.le_of_ble_eq_true rfl)
  rw [lg_entry_eq]
  generalize (lg_sl ([.ref xo, .int (nI u)]) ++ List.replicate (2 - (lg_sl ([.ref xo, .int (nI u)])).length) Slot.unset).toArray = ls at hl ⊢
  have hl : lv_has ls 2 [(0, .ref xo), (1, .int (nI u))] := hl
  have hiX3 : ∀ w ∈ wsX30, w ∈ wsX3_labelSize := by decide +kernel
  have hf19 := hts (.fieldLink RX3 19 "LandmarkLea" "labels" "LLandmarkLea$Labels;") (by decide +kernel)
  refine lv_aload_n hx hb dX3_labelSize_0 rfl (lv_at hl 0 rfl) ?_
  refine lv_iload_n hx hb dX3_labelSize_1 rfl (lv_at hl 1 rfl) ?_
  have hPc := hP.sub (ws' := (XW xo g lb se tl ts (bI bt) ++ (GW cJ g gA (nI n) (nI ec) ns ++ (LW cI cJ lb aR aV aH aD aP rk vb rc hs D Pp)))) [0, 1, 2, 3, 4, 5, 6, 7, 8] rfl
  refine x_rv (W.runV (As := [.int (nI u)]) (rest := []) ⟨hx, hb, hml, hown, hts⟩ (c_requireLabelOf l dG cI cJ xo tl ts bt se g gA n ec ns lb aR aV aH aD aP rk vb rc hs D Pp hn u hu hbt) (cwV 1 hts gX3_labelSize_X3_requireLabelOf rfl rfl rfl (by decide +kernel) ⟨Nat.le_of_ble_eq_true rfl, Nat.le_of_ble_eq_true rfl⟩) (RPc.pre hPc hK (va_recv hK.1 hPc (ci := 3) (q0 := 0) rfl rfl)) rfl rfl hl.1 rfl (lv_room (Nat.le_of_ble_eq_true rfl)) dX3_labelSize_2 ⟨Nat.zero_le _, Nat.zero_le _⟩) ?_
  refine lv_aload_n hx hb dX3_labelSize_5 rfl (lv_at hl 0 rfl) ?_
  refine va_get (D := dG) (ci := 3) (v := .ref lb) (C := RX3) (T := TX3) (N := 6) hx hb hts hiX3 hown hK.1 hP 0 rfl rfl 1 (by decide) hf19 (fun _ h9 => h9) rfl dX3_labelSize_6 ?_
  refine lv_iload_n hx hb dX3_labelSize_9 rfl (lv_at hl 1 rfl) ?_
  have hPc := hP.sub (ws' := (LW cI cJ lb aR aV aH aD aP rk vb rc hs D Pp)) [3, 4, 5, 6, 7, 8] rfl
  refine x_ri (W.runV (As := [.int (nI u)]) (rest := []) ⟨hx, hb, hml, hown, hts⟩ (c_countOf l dG cI cJ lb aR aV aH aD aP rk vb rc hs D Pp L P hR u (by omega)) (cwV 1 hts gX3_labelSize_X1_countOf rfl rfl rfl (by decide +kernel) ⟨Nat.le_of_ble_eq_true rfl, Nat.le_of_ble_eq_true rfl⟩) (RPc.pre hPc hK (va_recv hK.1 hPc (ci := 1) (q0 := 0) rfl rfl)) rfl rfl hl.1 rfl (lv_room (Nat.le_of_ble_eq_true rfl)) dX3_labelSize_10 ⟨Nat.zero_le _, Nat.zero_le _⟩) ?_
  exact W.iret (v := (nI (lct L u))) hx hb hr (fun t ht hW => ⟨_, rfl, rfl, ht⟩) (fun _ h => nomatch h) dX3_labelSize_13

set_option maxHeartbeats 4000000 in
set_option maxRecDepth 100000 in
theorem c_entryHub (l : Launch) (dG : va_G) (cI cJ : ClassId) (xo tl ts : Nat) (bt : Bool) (se : Nat) (g gA n ec : Nat) (ns : Nat → Int64) (lb aR aV aH aD aP : Nat) (rk vb : Nat → Int32) (rc : Int32) (hs : Nat → Int64) (D Pp : Nat → Int32) (hn : n ≤ 48) (L P : Nat → Nat → Option Nat) (hR : RepL L P hs D Pp) (u : Nat) (hu : u < n) (hbt : bt = true) (e0 r : Nat) (he : e0 < lct L u) (he2 : e0 < 2 ^ 31) (hc : lct L u < 2 ^ 31) (hr0 : r < 48) (hq : (L u r).isSome = true) (hce : fb_ct (fun k => (L u k).isSome) r = e0) : Met l yX3_entryHub wsX3_entryHub ({ frames := 4, cells := 0, slots := 0, locals := 85 } : Room) (RPc dG cI cJ [.ref xo, .int (nI u), .int (nI e0)] (XW xo g lb se tl ts (bI bt) ++ (GW cJ g gA (nI n) (nI ec) ns ++ (LW cI cJ lb aR aV aH aD aP rk vb rc hs D Pp)))) (vp_Si (fun r9 => r9 = (vb r))) 0 0 (fun _ => False) := by
  refine Met.ofW (cc := cX3_entryHub) (maxL := 3) (ret := (some .int)) (by decide) rfl ?_
  intro p e s m args below meth c s₁ B9 hml hv
  obtain ⟨rfl, hP, hK⟩ := hv
  have hx := B9.exec
  have hb := B9.bytes
  have hr := B9.returns
  have hts := atoms_spec (ws := wsX3_entryHub) B9.pre
  have hown : s.vm.findClass RX3 = some m.cls := findClass_of_methodNamed B9.named
  have hlocks := B9.notSynchronized
  have hl := lv_entry ([.ref xo, .int (nI u), .int (nI e0)]) (n := 3) (Nat.le_of_ble_eq_true rfl)
  rw [lg_entry_eq]
  generalize (lg_sl ([.ref xo, .int (nI u), .int (nI e0)]) ++ List.replicate (3 - (lg_sl ([.ref xo, .int (nI u), .int (nI e0)])).length) Slot.unset).toArray = ls at hl ⊢
  have hl : lv_has ls 3 [(0, .ref xo), (1, .int (nI u)), (2, .int (nI e0))] := hl
  have hiX3 : ∀ w ∈ wsX30, w ∈ wsX3_entryHub := by decide +kernel
  have hf19 := hts (.fieldLink RX3 19 "LandmarkLea" "labels" "LLandmarkLea$Labels;") (by decide +kernel)
  refine lv_aload_n hx hb dX3_entryHub_0 rfl (lv_at hl 0 rfl) ?_
  refine lv_iload_n hx hb dX3_entryHub_1 rfl (lv_at hl 1 rfl) ?_
  have hPc := hP.sub (ws' := (XW xo g lb se tl ts (bI bt) ++ (GW cJ g gA (nI n) (nI ec) ns ++ (LW cI cJ lb aR aV aH aD aP rk vb rc hs D Pp)))) [0, 1, 2, 3, 4, 5, 6, 7, 8] rfl
  refine x_rv (W.runV (As := [.int (nI u)]) (rest := []) ⟨hx, hb, hml, hown, hts⟩ (c_requireLabelOf l dG cI cJ xo tl ts bt se g gA n ec ns lb aR aV aH aD aP rk vb rc hs D Pp hn u hu hbt) (cwV 1 hts gX3_entryHub_X3_requireLabelOf rfl rfl rfl (by decide +kernel) ⟨Nat.le_of_ble_eq_true rfl, Nat.le_of_ble_eq_true rfl⟩) (RPc.pre hPc hK (va_recv hK.1 hPc (ci := 3) (q0 := 0) rfl rfl)) rfl rfl hl.1 rfl (lv_room (Nat.le_of_ble_eq_true rfl)) dX3_entryHub_2 ⟨Nat.zero_le _, Nat.zero_le _⟩) ?_
  refine lv_aload_n hx hb dX3_entryHub_5 rfl (lv_at hl 0 rfl) ?_
  refine lv_iload_n hx hb dX3_entryHub_6 rfl (lv_at hl 1 rfl) ?_
  refine lv_iload_n hx hb dX3_entryHub_7 rfl (lv_at hl 2 rfl) ?_
  have hPc := hP.sub (ws' := (XW xo g lb se tl ts (bI bt) ++ (GW cJ g gA (nI n) (nI ec) ns ++ (LW cI cJ lb aR aV aH aD aP rk vb rc hs D Pp)))) [0, 1, 2, 3, 4, 5, 6, 7, 8] rfl
  refine x_rv (W.runV (As := [.int (nI u), .int (nI e0)]) (rest := []) ⟨hx, hb, hml, hown, hts⟩ (c_requireEntry l dG cI cJ xo tl ts bt se g gA n ec ns lb aR aV aH aD aP rk vb rc hs D Pp hn L P hR u e0 hu he he2 hc) (cwV 2 hts gX3_entryHub_X3_requireEntry rfl rfl rfl (by decide +kernel) ⟨Nat.le_of_ble_eq_true rfl, Nat.le_of_ble_eq_true rfl⟩) (RPc.pre hPc hK (va_recv hK.1 hPc (ci := 3) (q0 := 0) rfl rfl)) rfl rfl hl.1 rfl (lv_room (Nat.le_of_ble_eq_true rfl)) dX3_entryHub_8 ⟨Nat.zero_le _, Nat.zero_le _⟩) ?_
  refine lv_aload_n hx hb dX3_entryHub_11 rfl (lv_at hl 0 rfl) ?_
  refine va_get (D := dG) (ci := 3) (v := .ref lb) (C := RX3) (T := TX3) (N := 6) hx hb hts hiX3 hown hK.1 hP 0 rfl rfl 1 (by decide) hf19 (fun _ h9 => h9) rfl dX3_entryHub_12 ?_
  refine lv_aload_n hx hb dX3_entryHub_15 rfl (lv_at hl 0 rfl) ?_
  refine va_get (D := dG) (ci := 3) (v := .ref lb) (C := RX3) (T := TX3) (N := 6) hx hb hts hiX3 hown hK.1 hP 0 rfl rfl 1 (by decide) hf19 (fun _ h9 => h9) rfl dX3_entryHub_16 ?_
  refine lv_iload_n hx hb dX3_entryHub_19 rfl (lv_at hl 1 rfl) ?_
  refine lv_iload_n hx hb dX3_entryHub_20 rfl (lv_at hl 2 rfl) ?_
  have hPc := hP.sub (ws' := (LW cI cJ lb aR aV aH aD aP rk vb rc hs D Pp)) [3, 4, 5, 6, 7, 8] rfl
  refine x_ri (W.runV (As := [.int (nI u), .int (nI e0)]) (rest := [.ref lb]) ⟨hx, hb, hml, hown, hts⟩ (c_hubRankOfEntry l dG cI cJ lb aR aV aH aD aP rk vb rc hs D Pp L P hR u e0 r (by omega) hr0 hq hce) (cwV 2 hts gX3_entryHub_X1_hubRankOfEntry rfl rfl rfl (by decide +kernel) ⟨Nat.le_of_ble_eq_true rfl, Nat.le_of_ble_eq_true rfl⟩) (RPc.pre hPc hK (va_recv hK.1 hPc (ci := 1) (q0 := 0) rfl rfl)) rfl rfl hl.1 rfl (lv_room (Nat.le_of_ble_eq_true rfl)) dX3_entryHub_21 ⟨Nat.zero_le _, Nat.zero_le _⟩) ?_
  have hPc := hP.sub (ws' := (LW cI cJ lb aR aV aH aD aP rk vb rc hs D Pp)) [3, 4, 5, 6, 7, 8] rfl
  refine x_ri (W.runV (As := [.int (nI r)]) (rest := []) ⟨hx, hb, hml, hown, hts⟩ (c_vertexOf l dG cI cJ lb aR aV aH aD aP rk vb rc hs D Pp r hr0) (cwV 1 hts gX3_entryHub_X1_vertexOf rfl rfl rfl (by decide +kernel) ⟨Nat.le_of_ble_eq_true rfl, Nat.le_of_ble_eq_true rfl⟩) (RPc.pre hPc hK (va_recv hK.1 hPc (ci := 1) (q0 := 0) rfl rfl)) rfl rfl hl.1 rfl (lv_room (Nat.le_of_ble_eq_true rfl)) dX3_entryHub_24 ⟨Nat.zero_le _, Nat.zero_le _⟩) ?_
  exact W.iret (v := (vb r)) hx hb hr (fun t ht hW => ⟨_, rfl, rfl, ht⟩) (fun _ h => nomatch h) dX3_entryHub_27

set_option maxHeartbeats 4000000 in
set_option maxRecDepth 100000 in
theorem c_entryDistance (l : Launch) (dG : va_G) (cI cJ : ClassId) (xo tl ts : Nat) (bt : Bool) (se : Nat) (g gA n ec : Nat) (ns : Nat → Int64) (lb aR aV aH aD aP : Nat) (rk vb : Nat → Int32) (rc : Int32) (hs : Nat → Int64) (D Pp : Nat → Int32) (hn : n ≤ 48) (L P : Nat → Nat → Option Nat) (hR : RepL L P hs D Pp) (u : Nat) (hu : u < n) (hbt : bt = true) (e0 r : Nat) (he : e0 < lct L u) (he2 : e0 < 2 ^ 31) (hc : lct L u < 2 ^ 31) (hr0 : r < 48) (hq : (L u r).isSome = true) (hce : fb_ct (fun k => (L u k).isSome) r = e0) : Met l yX3_entryDistance wsX3_entryDistance ({ frames := 4, cells := 0, slots := 0, locals := 85 } : Room) (RPc dG cI cJ [.ref xo, .int (nI u), .int (nI e0)] (XW xo g lb se tl ts (bI bt) ++ (GW cJ g gA (nI n) (nI ec) ns ++ (LW cI cJ lb aR aV aH aD aP rk vb rc hs D Pp)))) (vp_Si (fun r9 => r9 = (eN (L u r)))) 0 0 (fun _ => False) := by
  refine Met.ofW (cc := cX3_entryDistance) (maxL := 3) (ret := (some .int)) (by decide) rfl ?_
  intro p e s m args below meth c s₁ B9 hml hv
  obtain ⟨rfl, hP, hK⟩ := hv
  have hx := B9.exec
  have hb := B9.bytes
  have hr := B9.returns
  have hts := atoms_spec (ws := wsX3_entryDistance) B9.pre
  have hown : s.vm.findClass RX3 = some m.cls := findClass_of_methodNamed B9.named
  have hlocks := B9.notSynchronized
  have hl := lv_entry ([.ref xo, .int (nI u), .int (nI e0)]) (n := 3) (Nat.le_of_ble_eq_true rfl)
  rw [lg_entry_eq]
  generalize (lg_sl ([.ref xo, .int (nI u), .int (nI e0)]) ++ List.replicate (3 - (lg_sl ([.ref xo, .int (nI u), .int (nI e0)])).length) Slot.unset).toArray = ls at hl ⊢
  have hl : lv_has ls 3 [(0, .ref xo), (1, .int (nI u)), (2, .int (nI e0))] := hl
  have hiX3 : ∀ w ∈ wsX30, w ∈ wsX3_entryDistance := by decide +kernel
  have hf19 := hts (.fieldLink RX3 19 "LandmarkLea" "labels" "LLandmarkLea$Labels;") (by decide +kernel)
  refine lv_aload_n hx hb dX3_entryDistance_0 rfl (lv_at hl 0 rfl) ?_
  refine lv_iload_n hx hb dX3_entryDistance_1 rfl (lv_at hl 1 rfl) ?_
  have hPc := hP.sub (ws' := (XW xo g lb se tl ts (bI bt) ++ (GW cJ g gA (nI n) (nI ec) ns ++ (LW cI cJ lb aR aV aH aD aP rk vb rc hs D Pp)))) [0, 1, 2, 3, 4, 5, 6, 7, 8] rfl
  refine x_rv (W.runV (As := [.int (nI u)]) (rest := []) ⟨hx, hb, hml, hown, hts⟩ (c_requireLabelOf l dG cI cJ xo tl ts bt se g gA n ec ns lb aR aV aH aD aP rk vb rc hs D Pp hn u hu hbt) (cwV 1 hts gX3_entryDistance_X3_requireLabelOf rfl rfl rfl (by decide +kernel) ⟨Nat.le_of_ble_eq_true rfl, Nat.le_of_ble_eq_true rfl⟩) (RPc.pre hPc hK (va_recv hK.1 hPc (ci := 3) (q0 := 0) rfl rfl)) rfl rfl hl.1 rfl (lv_room (Nat.le_of_ble_eq_true rfl)) dX3_entryDistance_2 ⟨Nat.zero_le _, Nat.zero_le _⟩) ?_
  refine lv_aload_n hx hb dX3_entryDistance_5 rfl (lv_at hl 0 rfl) ?_
  refine lv_iload_n hx hb dX3_entryDistance_6 rfl (lv_at hl 1 rfl) ?_
  refine lv_iload_n hx hb dX3_entryDistance_7 rfl (lv_at hl 2 rfl) ?_
  have hPc := hP.sub (ws' := (XW xo g lb se tl ts (bI bt) ++ (GW cJ g gA (nI n) (nI ec) ns ++ (LW cI cJ lb aR aV aH aD aP rk vb rc hs D Pp)))) [0, 1, 2, 3, 4, 5, 6, 7, 8] rfl
  refine x_rv (W.runV (As := [.int (nI u), .int (nI e0)]) (rest := []) ⟨hx, hb, hml, hown, hts⟩ (c_requireEntry l dG cI cJ xo tl ts bt se g gA n ec ns lb aR aV aH aD aP rk vb rc hs D Pp hn L P hR u e0 hu he he2 hc) (cwV 2 hts gX3_entryDistance_X3_requireEntry rfl rfl rfl (by decide +kernel) ⟨Nat.le_of_ble_eq_true rfl, Nat.le_of_ble_eq_true rfl⟩) (RPc.pre hPc hK (va_recv hK.1 hPc (ci := 3) (q0 := 0) rfl rfl)) rfl rfl hl.1 rfl (lv_room (Nat.le_of_ble_eq_true rfl)) dX3_entryDistance_8 ⟨Nat.zero_le _, Nat.zero_le _⟩) ?_
  refine lv_aload_n hx hb dX3_entryDistance_11 rfl (lv_at hl 0 rfl) ?_
  refine va_get (D := dG) (ci := 3) (v := .ref lb) (C := RX3) (T := TX3) (N := 6) hx hb hts hiX3 hown hK.1 hP 0 rfl rfl 1 (by decide) hf19 (fun _ h9 => h9) rfl dX3_entryDistance_12 ?_
  refine lv_aload_n hx hb dX3_entryDistance_15 rfl (lv_at hl 0 rfl) ?_
  refine va_get (D := dG) (ci := 3) (v := .ref lb) (C := RX3) (T := TX3) (N := 6) hx hb hts hiX3 hown hK.1 hP 0 rfl rfl 1 (by decide) hf19 (fun _ h9 => h9) rfl dX3_entryDistance_16 ?_
  refine lv_iload_n hx hb dX3_entryDistance_19 rfl (lv_at hl 1 rfl) ?_
  refine lv_iload_n hx hb dX3_entryDistance_20 rfl (lv_at hl 2 rfl) ?_
  have hPc := hP.sub (ws' := (LW cI cJ lb aR aV aH aD aP rk vb rc hs D Pp)) [3, 4, 5, 6, 7, 8] rfl
  refine x_ri (W.runV (As := [.int (nI u), .int (nI e0)]) (rest := [.ref lb]) ⟨hx, hb, hml, hown, hts⟩ (c_hubRankOfEntry l dG cI cJ lb aR aV aH aD aP rk vb rc hs D Pp L P hR u e0 r (by omega) hr0 hq hce) (cwV 2 hts gX3_entryDistance_X1_hubRankOfEntry rfl rfl rfl (by decide +kernel) ⟨Nat.le_of_ble_eq_true rfl, Nat.le_of_ble_eq_true rfl⟩) (RPc.pre hPc hK (va_recv hK.1 hPc (ci := 1) (q0 := 0) rfl rfl)) rfl rfl hl.1 rfl (lv_room (Nat.le_of_ble_eq_true rfl)) dX3_entryDistance_21 ⟨Nat.zero_le _, Nat.zero_le _⟩) ?_
  refine lv_iload_n hx hb dX3_entryDistance_24 rfl (lv_at hl 1 rfl) ?_
  have hPc := hP.sub (ws' := (LW cI cJ lb aR aV aH aD aP rk vb rc hs D Pp)) [3, 4, 5, 6, 7, 8] rfl
  refine x_ri (W.runV (As := [.int (nI r), .int (nI u)]) (rest := []) ⟨hx, hb, hml, hown, hts⟩ (c_distanceTo l dG cI cJ lb aR aV aH aD aP rk vb rc hs D Pp L P hR r u hr0 (by omega)) (cwV 2 hts gX3_entryDistance_X1_distanceTo rfl rfl rfl (by decide +kernel) ⟨Nat.le_of_ble_eq_true rfl, Nat.le_of_ble_eq_true rfl⟩) (RPc.pre hPc hK (va_recv hK.1 hPc (ci := 1) (q0 := 0) rfl rfl)) rfl rfl hl.1 rfl (lv_room (Nat.le_of_ble_eq_true rfl)) dX3_entryDistance_25 ⟨Nat.zero_le _, Nat.zero_le _⟩) ?_
  exact W.iret (v := (eN (L u r))) hx hb hr (fun t ht hW => ⟨_, rfl, rfl, ht⟩) (fun _ h => nomatch h) dX3_entryDistance_28

set_option maxHeartbeats 4000000 in
set_option maxRecDepth 100000 in
theorem c_entryParent (l : Launch) (dG : va_G) (cI cJ : ClassId) (xo tl ts : Nat) (bt : Bool) (se : Nat) (g gA n ec : Nat) (ns : Nat → Int64) (lb aR aV aH aD aP : Nat) (rk vb : Nat → Int32) (rc : Int32) (hs : Nat → Int64) (D Pp : Nat → Int32) (hn : n ≤ 48) (L P : Nat → Nat → Option Nat) (hR : RepL L P hs D Pp) (u : Nat) (hu : u < n) (hbt : bt = true) (e0 r : Nat) (he : e0 < lct L u) (he2 : e0 < 2 ^ 31) (hc : lct L u < 2 ^ 31) (hr0 : r < 48) (hq : (L u r).isSome = true) (hce : fb_ct (fun k => (L u k).isSome) r = e0) : Met l yX3_entryParent wsX3_entryParent ({ frames := 4, cells := 0, slots := 0, locals := 85 } : Room) (RPc dG cI cJ [.ref xo, .int (nI u), .int (nI e0)] (XW xo g lb se tl ts (bI bt) ++ (GW cJ g gA (nI n) (nI ec) ns ++ (LW cI cJ lb aR aV aH aD aP rk vb rc hs D Pp)))) (vp_Si (fun r9 => r9 = (eN (P u r)))) 0 0 (fun _ => False) := by
  refine Met.ofW (cc := cX3_entryParent) (maxL := 3) (ret := (some .int)) (by decide) rfl ?_
  intro p e s m args below meth c s₁ B9 hml hv
  obtain ⟨rfl, hP, hK⟩ := hv
  have hx := B9.exec
  have hb := B9.bytes
  have hr := B9.returns
  have hts := atoms_spec (ws := wsX3_entryParent) B9.pre
  have hown : s.vm.findClass RX3 = some m.cls := findClass_of_methodNamed B9.named
  have hlocks := B9.notSynchronized
  have hl := lv_entry ([.ref xo, .int (nI u), .int (nI e0)]) (n := 3) (Nat.le_of_ble_eq_true rfl)
  rw [lg_entry_eq]
  generalize (lg_sl ([.ref xo, .int (nI u), .int (nI e0)]) ++ List.replicate (3 - (lg_sl ([.ref xo, .int (nI u), .int (nI e0)])).length) Slot.unset).toArray = ls at hl ⊢
  have hl : lv_has ls 3 [(0, .ref xo), (1, .int (nI u)), (2, .int (nI e0))] := hl
  have hiX3 : ∀ w ∈ wsX30, w ∈ wsX3_entryParent := by decide +kernel
  have hf19 := hts (.fieldLink RX3 19 "LandmarkLea" "labels" "LLandmarkLea$Labels;") (by decide +kernel)
  refine lv_aload_n hx hb dX3_entryParent_0 rfl (lv_at hl 0 rfl) ?_
  refine lv_iload_n hx hb dX3_entryParent_1 rfl (lv_at hl 1 rfl) ?_
  have hPc := hP.sub (ws' := (XW xo g lb se tl ts (bI bt) ++ (GW cJ g gA (nI n) (nI ec) ns ++ (LW cI cJ lb aR aV aH aD aP rk vb rc hs D Pp)))) [0, 1, 2, 3, 4, 5, 6, 7, 8] rfl
  refine x_rv (W.runV (As := [.int (nI u)]) (rest := []) ⟨hx, hb, hml, hown, hts⟩ (c_requireLabelOf l dG cI cJ xo tl ts bt se g gA n ec ns lb aR aV aH aD aP rk vb rc hs D Pp hn u hu hbt) (cwV 1 hts gX3_entryParent_X3_requireLabelOf rfl rfl rfl (by decide +kernel) ⟨Nat.le_of_ble_eq_true rfl, Nat.le_of_ble_eq_true rfl⟩) (RPc.pre hPc hK (va_recv hK.1 hPc (ci := 3) (q0 := 0) rfl rfl)) rfl rfl hl.1 rfl (lv_room (Nat.le_of_ble_eq_true rfl)) dX3_entryParent_2 ⟨Nat.zero_le _, Nat.zero_le _⟩) ?_
  refine lv_aload_n hx hb dX3_entryParent_5 rfl (lv_at hl 0 rfl) ?_
  refine lv_iload_n hx hb dX3_entryParent_6 rfl (lv_at hl 1 rfl) ?_
  refine lv_iload_n hx hb dX3_entryParent_7 rfl (lv_at hl 2 rfl) ?_
  have hPc := hP.sub (ws' := (XW xo g lb se tl ts (bI bt) ++ (GW cJ g gA (nI n) (nI ec) ns ++ (LW cI cJ lb aR aV aH aD aP rk vb rc hs D Pp)))) [0, 1, 2, 3, 4, 5, 6, 7, 8] rfl
  refine x_rv (W.runV (As := [.int (nI u), .int (nI e0)]) (rest := []) ⟨hx, hb, hml, hown, hts⟩ (c_requireEntry l dG cI cJ xo tl ts bt se g gA n ec ns lb aR aV aH aD aP rk vb rc hs D Pp hn L P hR u e0 hu he he2 hc) (cwV 2 hts gX3_entryParent_X3_requireEntry rfl rfl rfl (by decide +kernel) ⟨Nat.le_of_ble_eq_true rfl, Nat.le_of_ble_eq_true rfl⟩) (RPc.pre hPc hK (va_recv hK.1 hPc (ci := 3) (q0 := 0) rfl rfl)) rfl rfl hl.1 rfl (lv_room (Nat.le_of_ble_eq_true rfl)) dX3_entryParent_8 ⟨Nat.zero_le _, Nat.zero_le _⟩) ?_
  refine lv_aload_n hx hb dX3_entryParent_11 rfl (lv_at hl 0 rfl) ?_
  refine va_get (D := dG) (ci := 3) (v := .ref lb) (C := RX3) (T := TX3) (N := 6) hx hb hts hiX3 hown hK.1 hP 0 rfl rfl 1 (by decide) hf19 (fun _ h9 => h9) rfl dX3_entryParent_12 ?_
  refine lv_aload_n hx hb dX3_entryParent_15 rfl (lv_at hl 0 rfl) ?_
  refine va_get (D := dG) (ci := 3) (v := .ref lb) (C := RX3) (T := TX3) (N := 6) hx hb hts hiX3 hown hK.1 hP 0 rfl rfl 1 (by decide) hf19 (fun _ h9 => h9) rfl dX3_entryParent_16 ?_
  refine lv_iload_n hx hb dX3_entryParent_19 rfl (lv_at hl 1 rfl) ?_
  refine lv_iload_n hx hb dX3_entryParent_20 rfl (lv_at hl 2 rfl) ?_
  have hPc := hP.sub (ws' := (LW cI cJ lb aR aV aH aD aP rk vb rc hs D Pp)) [3, 4, 5, 6, 7, 8] rfl
  refine x_ri (W.runV (As := [.int (nI u), .int (nI e0)]) (rest := [.ref lb]) ⟨hx, hb, hml, hown, hts⟩ (c_hubRankOfEntry l dG cI cJ lb aR aV aH aD aP rk vb rc hs D Pp L P hR u e0 r (by omega) hr0 hq hce) (cwV 2 hts gX3_entryParent_X1_hubRankOfEntry rfl rfl rfl (by decide +kernel) ⟨Nat.le_of_ble_eq_true rfl, Nat.le_of_ble_eq_true rfl⟩) (RPc.pre hPc hK (va_recv hK.1 hPc (ci := 1) (q0 := 0) rfl rfl)) rfl rfl hl.1 rfl (lv_room (Nat.le_of_ble_eq_true rfl)) dX3_entryParent_21 ⟨Nat.zero_le _, Nat.zero_le _⟩) ?_
  refine lv_iload_n hx hb dX3_entryParent_24 rfl (lv_at hl 1 rfl) ?_
  have hPc := hP.sub (ws' := (LW cI cJ lb aR aV aH aD aP rk vb rc hs D Pp)) [3, 4, 5, 6, 7, 8] rfl
  refine x_ri (W.runV (As := [.int (nI r), .int (nI u)]) (rest := []) ⟨hx, hb, hml, hown, hts⟩ (c_parentTowards l dG cI cJ lb aR aV aH aD aP rk vb rc hs D Pp L P hR r u hr0 (by omega) hq) (cwV 2 hts gX3_entryParent_X1_parentTowards rfl rfl rfl (by decide +kernel) ⟨Nat.le_of_ble_eq_true rfl, Nat.le_of_ble_eq_true rfl⟩) (RPc.pre hPc hK (va_recv hK.1 hPc (ci := 1) (q0 := 0) rfl rfl)) rfl rfl hl.1 rfl (lv_room (Nat.le_of_ble_eq_true rfl)) dX3_entryParent_25 ⟨Nat.zero_le _, Nat.zero_le _⟩) ?_
  exact W.iret (v := (eN (P u r))) hx hb hr (fun t ht hW => ⟨_, rfl, rfl, ht⟩) (fun _ h => nomatch h) dX3_entryParent_28

set_option maxHeartbeats 4000000 in
set_option maxRecDepth 100000 in
theorem c_distance (l : Launch) (dG : va_G) (cI cJ : ClassId) (xo tl ts : Nat) (bt : Bool) (se : Nat) (g gA n ec : Nat) (ns : Nat → Int64) (lb aR aV aH aD aP : Nat) (rk vb : Nat → Int32) (rc : Int32) (hs : Nat → Int64) (D Pp : Nat → Int32) (hn : n ≤ 48) (L P : Nat → Nat → Option Nat) (hR : RepL L P hs D Pp) (hB : LBd L (2 ^ 30)) (u v : Nat) (hu : u < n) (hv : v < n) (hbt : bt = true) : Met l yX3_distance wsX3_distance ({ frames := 4, cells := 0, slots := 0, locals := 92 } : Room) (RPc dG cI cJ [.ref xo, .int (nI u), .int (nI v)] (XW xo g lb se tl ts (bI bt) ++ (GW cJ g gA (nI n) (nI ec) ns ++ (LW cI cJ lb aR aV aH aD aP rk vb rc hs D Pp)))) (vp_Si (fun r9 => r9 = (eN (es L u v 48)))) 0 0 (fun _ => False) := by
  refine Met.ofW (cc := cX3_distance) (maxL := 3) (ret := (some .int)) (by decide) rfl ?_
  intro p e s m args below meth c s₁ B9 hml hv
  obtain ⟨rfl, hP, hK⟩ := hv
  have hx := B9.exec
  have hb := B9.bytes
  have hr := B9.returns
  have hts := atoms_spec (ws := wsX3_distance) B9.pre
  have hown : s.vm.findClass RX3 = some m.cls := findClass_of_methodNamed B9.named
  have hlocks := B9.notSynchronized
  have hl := lv_entry ([.ref xo, .int (nI u), .int (nI v)]) (n := 3) (Nat.le_of_ble_eq_true rfl)
  rw [lg_entry_eq]
  generalize (lg_sl ([.ref xo, .int (nI u), .int (nI v)]) ++ List.replicate (3 - (lg_sl ([.ref xo, .int (nI u), .int (nI v)])).length) Slot.unset).toArray = ls at hl ⊢
  have hl : lv_has ls 3 [(0, .ref xo), (1, .int (nI u)), (2, .int (nI v))] := hl
  have hiX3 : ∀ w ∈ wsX30, w ∈ wsX3_distance := by decide +kernel
  have hf19 := hts (.fieldLink RX3 19 "LandmarkLea" "labels" "LLandmarkLea$Labels;") (by decide +kernel)
  refine lv_aload_n hx hb dX3_distance_0 rfl (lv_at hl 0 rfl) ?_
  refine lv_iload_n hx hb dX3_distance_1 rfl (lv_at hl 1 rfl) ?_
  refine lv_iload_n hx hb dX3_distance_2 rfl (lv_at hl 2 rfl) ?_
  have hPc := hP.sub (ws' := (XW xo g lb se tl ts (bI bt) ++ (GW cJ g gA (nI n) (nI ec) ns ++ (LW cI cJ lb aR aV aH aD aP rk vb rc hs D Pp)))) [0, 1, 2, 3, 4, 5, 6, 7, 8] rfl
  refine x_rv (W.runV (As := [.int (nI u), .int (nI v)]) (rest := []) ⟨hx, hb, hml, hown, hts⟩ (c_requireLabelsOf l dG cI cJ xo tl ts bt se g gA n ec ns lb aR aV aH aD aP rk vb rc hs D Pp hn u v (by omega) (by omega) hbt) (cwV 2 hts gX3_distance_X3_requireLabelsOf rfl rfl rfl (by decide +kernel) ⟨Nat.le_of_ble_eq_true rfl, Nat.le_of_ble_eq_true rfl⟩) (RPc.pre hPc hK (va_recv hK.1 hPc (ci := 3) (q0 := 0) rfl rfl)) rfl rfl hl.1 rfl (lv_room (Nat.le_of_ble_eq_true rfl)) dX3_distance_3 ⟨Nat.zero_le _, Nat.zero_le _⟩) ?_
  refine lv_aload_n hx hb dX3_distance_6 rfl (lv_at hl 0 rfl) ?_
  refine va_get (D := dG) (ci := 3) (v := .ref lb) (C := RX3) (T := TX3) (N := 6) hx hb hts hiX3 hown hK.1 hP 0 rfl rfl 1 (by decide) hf19 (fun _ h9 => h9) rfl dX3_distance_7 ?_
  refine lv_iload_n hx hb dX3_distance_10 rfl (lv_at hl 1 rfl) ?_
  refine lv_iload_n hx hb dX3_distance_11 rfl (lv_at hl 2 rfl) ?_
  have hPc := hP.sub (ws' := (LW cI cJ lb aR aV aH aD aP rk vb rc hs D Pp)) [3, 4, 5, 6, 7, 8] rfl
  refine x_ri (W.runV (As := [.int (nI u), .int (nI v)]) (rest := []) ⟨hx, hb, hml, hown, hts⟩ (c_estimate l dG cI cJ lb aR aV aH aD aP rk vb rc hs D Pp L P hR hB u v (by omega) (by omega)) (cwV 2 hts gX3_distance_X1_estimate rfl rfl rfl (by decide +kernel) ⟨Nat.le_of_ble_eq_true rfl, Nat.le_of_ble_eq_true rfl⟩) (RPc.pre hPc hK (va_recv hK.1 hPc (ci := 1) (q0 := 0) rfl rfl)) rfl rfl hl.1 rfl (lv_room (Nat.le_of_ble_eq_true rfl)) dX3_distance_12 ⟨Nat.zero_le _, Nat.zero_le _⟩) ?_
  exact W.iret (v := (eN (es L u v 48))) hx hb hr (fun t ht hW => ⟨_, rfl, rfl, ht⟩) (fun _ h => nomatch h) dX3_distance_15

set_option maxHeartbeats 4000000 in
set_option maxRecDepth 100000 in
theorem c_hubN (l : Launch) (dG : va_G) (cI cJ : ClassId) (xo tl ts : Nat) (bt : Bool) (se : Nat) (g gA n ec : Nat) (ns : Nat → Int64) (lb aR aV aH aD aP : Nat) (rk vb : Nat → Int32) (rc : Int32) (hs : Nat → Int64) (D Pp : Nat → Int32) (hn : n ≤ 48) (L P : Nat → Nat → Option Nat) (hR : RepL L P hs D Pp) (hB : LBd L (2 ^ 30)) (u v : Nat) (hu : u < n) (hv : v < n) (hbt : bt = true) (hm : mr L u v 48 = none) : Met l yX3_hub wsX3_hub ({ frames := 3, cells := 0, slots := 0, locals := 69 } : Room) (RPc dG cI cJ [.ref xo, .int (nI u), .int (nI v)] (XW xo g lb se tl ts (bI bt) ++ (GW cJ g gA (nI n) (nI ec) ns ++ (LW cI cJ lb aR aV aH aD aP rk vb rc hs D Pp)))) (vp_Si (fun r9 => r9 = (-1))) 0 0 (fun _ => False) := by
  refine Met.ofW (cc := cX3_hub) (maxL := 3) (ret := (some .int)) (by decide) rfl ?_
  intro p e s m args below meth c s₁ B9 hml hv
  obtain ⟨rfl, hP, hK⟩ := hv
  have hx := B9.exec
  have hb := B9.bytes
  have hr := B9.returns
  have hts := atoms_spec (ws := wsX3_hub) B9.pre
  have hown : s.vm.findClass RX3 = some m.cls := findClass_of_methodNamed B9.named
  have hlocks := B9.notSynchronized
  have hl := lv_entry ([.ref xo, .int (nI u), .int (nI v)]) (n := 3) (Nat.le_of_ble_eq_true rfl)
  rw [lg_entry_eq]
  generalize (lg_sl ([.ref xo, .int (nI u), .int (nI v)]) ++ List.replicate (3 - (lg_sl ([.ref xo, .int (nI u), .int (nI v)])).length) Slot.unset).toArray = ls at hl ⊢
  have hl : lv_has ls 3 [(0, .ref xo), (1, .int (nI u)), (2, .int (nI v))] := hl
  have hiX3 : ∀ w ∈ wsX30, w ∈ wsX3_hub := by decide +kernel
  have hf19 := hts (.fieldLink RX3 19 "LandmarkLea" "labels" "LLandmarkLea$Labels;") (by decide +kernel)
  refine lv_aload_n hx hb dX3_hub_0 rfl (lv_at hl 0 rfl) ?_
  refine lv_iload_n hx hb dX3_hub_1 rfl (lv_at hl 1 rfl) ?_
  refine lv_iload_n hx hb dX3_hub_2 rfl (lv_at hl 2 rfl) ?_
  have hPc := hP.sub (ws' := (XW xo g lb se tl ts (bI bt) ++ (GW cJ g gA (nI n) (nI ec) ns ++ (LW cI cJ lb aR aV aH aD aP rk vb rc hs D Pp)))) [0, 1, 2, 3, 4, 5, 6, 7, 8] rfl
  refine x_rv (W.runV (As := [.int (nI u), .int (nI v)]) (rest := []) ⟨hx, hb, hml, hown, hts⟩ (c_requireLabelsOf l dG cI cJ xo tl ts bt se g gA n ec ns lb aR aV aH aD aP rk vb rc hs D Pp hn u v (by omega) (by omega) hbt) (cwV 2 hts gX3_hub_X3_requireLabelsOf rfl rfl rfl (by decide +kernel) ⟨Nat.le_of_ble_eq_true rfl, Nat.le_of_ble_eq_true rfl⟩) (RPc.pre hPc hK (va_recv hK.1 hPc (ci := 3) (q0 := 0) rfl rfl)) rfl rfl hl.1 rfl (lv_room (Nat.le_of_ble_eq_true rfl)) dX3_hub_3 ⟨Nat.zero_le _, Nat.zero_le _⟩) ?_
  refine lv_aload_n hx hb dX3_hub_6 rfl (lv_at hl 0 rfl) ?_
  refine va_get (D := dG) (ci := 3) (v := .ref lb) (C := RX3) (T := TX3) (N := 6) hx hb hts hiX3 hown hK.1 hP 0 rfl rfl 1 (by decide) hf19 (fun _ h9 => h9) rfl dX3_hub_7 ?_
  refine lv_aload_n hx hb dX3_hub_10 rfl (lv_at hl 0 rfl) ?_
  refine va_get (D := dG) (ci := 3) (v := .ref lb) (C := RX3) (T := TX3) (N := 6) hx hb hts hiX3 hown hK.1 hP 0 rfl rfl 1 (by decide) hf19 (fun _ h9 => h9) rfl dX3_hub_11 ?_
  refine lv_iload_n hx hb dX3_hub_14 rfl (lv_at hl 1 rfl) ?_
  refine lv_iload_n hx hb dX3_hub_15 rfl (lv_at hl 2 rfl) ?_
  have hPc := hP.sub (ws' := (LW cI cJ lb aR aV aH aD aP rk vb rc hs D Pp)) [3, 4, 5, 6, 7, 8] rfl
  refine x_ri (W.runV (As := [.int (nI u), .int (nI v)]) (rest := [.ref lb]) ⟨hx, hb, hml, hown, hts⟩ (c_meetingRank l dG cI cJ lb aR aV aH aD aP rk vb rc hs D Pp L P hR hB u v (by omega) (by omega)) (cwV 2 hts gX3_hub_X1_meetingRank rfl rfl rfl (by decide +kernel) ⟨Nat.le_of_ble_eq_true rfl, Nat.le_of_ble_eq_true rfl⟩) (RPc.pre hPc hK (va_recv hK.1 hPc (ci := 1) (q0 := 0) rfl rfl)) rfl rfl hl.1 rfl (lv_room (Nat.le_of_ble_eq_true rfl)) dX3_hub_16 ⟨Nat.zero_le _, Nat.zero_le _⟩) ?_
  rw [show eN (mr L u v 48) = -1 from by rw [hm]; rfl]
  have hPc := hP.sub (ws' := (LW cI cJ lb aR aV aH aD aP rk vb rc hs D Pp)) [3, 4, 5, 6, 7, 8] rfl
  refine x_ri (W.runV (As := [.int (-1)]) (rest := []) ⟨hx, hb, hml, hown, hts⟩ (c_vertexOfM l dG cI cJ lb aR aV aH aD aP rk vb rc hs D Pp) (cwV 1 hts gX3_hub_X1_vertexOf rfl rfl rfl (by decide +kernel) ⟨Nat.le_of_ble_eq_true rfl, Nat.le_of_ble_eq_true rfl⟩) (RPc.pre hPc hK (va_recv hK.1 hPc (ci := 1) (q0 := 0) rfl rfl)) rfl rfl hl.1 rfl (lv_room (Nat.le_of_ble_eq_true rfl)) dX3_hub_19 ⟨Nat.zero_le _, Nat.zero_le _⟩) ?_
  exact W.iret (v := (-1)) hx hb hr (fun t ht hW => ⟨_, rfl, rfl, ht⟩) (fun _ h => nomatch h) dX3_hub_22

set_option maxHeartbeats 4000000 in
set_option maxRecDepth 100000 in
theorem c_hub (l : Launch) (dG : va_G) (cI cJ : ClassId) (xo tl ts : Nat) (bt : Bool) (se : Nat) (g gA n ec : Nat) (ns : Nat → Int64) (lb aR aV aH aD aP : Nat) (rk vb : Nat → Int32) (rc : Int32) (hs : Nat → Int64) (D Pp : Nat → Int32) (hn : n ≤ 48) (L P : Nat → Nat → Option Nat) (hR : RepL L P hs D Pp) (hB : LBd L (2 ^ 30)) (u v : Nat) (hu : u < n) (hv : v < n) (hbt : bt = true) (r : Nat) (hr0 : r < 48) (hm : mr L u v 48 = some r) : Met l yX3_hub wsX3_hub ({ frames := 3, cells := 0, slots := 0, locals := 69 } : Room) (RPc dG cI cJ [.ref xo, .int (nI u), .int (nI v)] (XW xo g lb se tl ts (bI bt) ++ (GW cJ g gA (nI n) (nI ec) ns ++ (LW cI cJ lb aR aV aH aD aP rk vb rc hs D Pp)))) (vp_Si (fun r9 => r9 = (vb r))) 0 0 (fun _ => False) := by
  refine Met.ofW (cc := cX3_hub) (maxL := 3) (ret := (some .int)) (by decide) rfl ?_
  intro p e s m args below meth c s₁ B9 hml hv
  obtain ⟨rfl, hP, hK⟩ := hv
  have hx := B9.exec
  have hb := B9.bytes
  have hr := B9.returns
  have hts := atoms_spec (ws := wsX3_hub) B9.pre
  have hown : s.vm.findClass RX3 = some m.cls := findClass_of_methodNamed B9.named
  have hlocks := B9.notSynchronized
  have hl := lv_entry ([.ref xo, .int (nI u), .int (nI v)]) (n := 3) (Nat.le_of_ble_eq_true rfl)
  rw [lg_entry_eq]
  generalize (lg_sl ([.ref xo, .int (nI u), .int (nI v)]) ++ List.replicate (3 - (lg_sl ([.ref xo, .int (nI u), .int (nI v)])).length) Slot.unset).toArray = ls at hl ⊢
  have hl : lv_has ls 3 [(0, .ref xo), (1, .int (nI u)), (2, .int (nI v))] := hl
  have hiX3 : ∀ w ∈ wsX30, w ∈ wsX3_hub := by decide +kernel
  have hf19 := hts (.fieldLink RX3 19 "LandmarkLea" "labels" "LLandmarkLea$Labels;") (by decide +kernel)
  refine lv_aload_n hx hb dX3_hub_0 rfl (lv_at hl 0 rfl) ?_
  refine lv_iload_n hx hb dX3_hub_1 rfl (lv_at hl 1 rfl) ?_
  refine lv_iload_n hx hb dX3_hub_2 rfl (lv_at hl 2 rfl) ?_
  have hPc := hP.sub (ws' := (XW xo g lb se tl ts (bI bt) ++ (GW cJ g gA (nI n) (nI ec) ns ++ (LW cI cJ lb aR aV aH aD aP rk vb rc hs D Pp)))) [0, 1, 2, 3, 4, 5, 6, 7, 8] rfl
  refine x_rv (W.runV (As := [.int (nI u), .int (nI v)]) (rest := []) ⟨hx, hb, hml, hown, hts⟩ (c_requireLabelsOf l dG cI cJ xo tl ts bt se g gA n ec ns lb aR aV aH aD aP rk vb rc hs D Pp hn u v (by omega) (by omega) hbt) (cwV 2 hts gX3_hub_X3_requireLabelsOf rfl rfl rfl (by decide +kernel) ⟨Nat.le_of_ble_eq_true rfl, Nat.le_of_ble_eq_true rfl⟩) (RPc.pre hPc hK (va_recv hK.1 hPc (ci := 3) (q0 := 0) rfl rfl)) rfl rfl hl.1 rfl (lv_room (Nat.le_of_ble_eq_true rfl)) dX3_hub_3 ⟨Nat.zero_le _, Nat.zero_le _⟩) ?_
  refine lv_aload_n hx hb dX3_hub_6 rfl (lv_at hl 0 rfl) ?_
  refine va_get (D := dG) (ci := 3) (v := .ref lb) (C := RX3) (T := TX3) (N := 6) hx hb hts hiX3 hown hK.1 hP 0 rfl rfl 1 (by decide) hf19 (fun _ h9 => h9) rfl dX3_hub_7 ?_
  refine lv_aload_n hx hb dX3_hub_10 rfl (lv_at hl 0 rfl) ?_
  refine va_get (D := dG) (ci := 3) (v := .ref lb) (C := RX3) (T := TX3) (N := 6) hx hb hts hiX3 hown hK.1 hP 0 rfl rfl 1 (by decide) hf19 (fun _ h9 => h9) rfl dX3_hub_11 ?_
  refine lv_iload_n hx hb dX3_hub_14 rfl (lv_at hl 1 rfl) ?_
  refine lv_iload_n hx hb dX3_hub_15 rfl (lv_at hl 2 rfl) ?_
  have hPc := hP.sub (ws' := (LW cI cJ lb aR aV aH aD aP rk vb rc hs D Pp)) [3, 4, 5, 6, 7, 8] rfl
  refine x_ri (W.runV (As := [.int (nI u), .int (nI v)]) (rest := [.ref lb]) ⟨hx, hb, hml, hown, hts⟩ (c_meetingRank l dG cI cJ lb aR aV aH aD aP rk vb rc hs D Pp L P hR hB u v (by omega) (by omega)) (cwV 2 hts gX3_hub_X1_meetingRank rfl rfl rfl (by decide +kernel) ⟨Nat.le_of_ble_eq_true rfl, Nat.le_of_ble_eq_true rfl⟩) (RPc.pre hPc hK (va_recv hK.1 hPc (ci := 1) (q0 := 0) rfl rfl)) rfl rfl hl.1 rfl (lv_room (Nat.le_of_ble_eq_true rfl)) dX3_hub_16 ⟨Nat.zero_le _, Nat.zero_le _⟩) ?_
  rw [show eN (mr L u v 48) = nI r from by rw [hm]; rfl]
  have hPc := hP.sub (ws' := (LW cI cJ lb aR aV aH aD aP rk vb rc hs D Pp)) [3, 4, 5, 6, 7, 8] rfl
  refine x_ri (W.runV (As := [.int (nI r)]) (rest := []) ⟨hx, hb, hml, hown, hts⟩ (c_vertexOf l dG cI cJ lb aR aV aH aD aP rk vb rc hs D Pp r hr0) (cwV 1 hts gX3_hub_X1_vertexOf rfl rfl rfl (by decide +kernel) ⟨Nat.le_of_ble_eq_true rfl, Nat.le_of_ble_eq_true rfl⟩) (RPc.pre hPc hK (va_recv hK.1 hPc (ci := 1) (q0 := 0) rfl rfl)) rfl rfl hl.1 rfl (lv_room (Nat.le_of_ble_eq_true rfl)) dX3_hub_19 ⟨Nat.zero_le _, Nat.zero_le _⟩) ?_
  exact W.iret (v := (vb r)) hx hb hr (fun t ht hW => ⟨_, rfl, rfl, ht⟩) (fun _ h => nomatch h) dX3_hub_22

set_option maxHeartbeats 4000000 in
set_option maxRecDepth 100000 in
theorem c_pathVertexN (l : Launch) (dG : va_G) (cI cJ : ClassId) (xo tl ts : Nat) (bt : Bool) (se : Nat) (g gA n ec : Nat) (ns : Nat → Int64) (lb aR aV aH aD aP : Nat) (rk vb : Nat → Int32) (rc : Int32) (hs : Nat → Int64) (D Pp : Nat → Int32) (hn : n ≤ 48) (L P : Nat → Nat → Option Nat) (hR : RepL L P hs D Pp) (hB : LBd L (2 ^ 30)) (u v : Nat) (hu : u < n) (hv : v < n) (hbt : bt = true) (pl : Nat) (hpl : pl < 2 ^ 31) (hm : mr L u v 48 = none) : Met l yX3_pathVertex wsX3_pathVertex ({ frames := 5, cells := 0, slots := 0, locals := 117 } : Room) (RPc dG cI cJ [.ref xo, .int (nI u), .int (nI v), .int (nI pl)] (XW xo g lb se tl ts (bI bt) ++ (GW cJ g gA (nI n) (nI ec) ns ++ (LW cI cJ lb aR aV aH aD aP rk vb rc hs D Pp)))) (vp_Si (fun r9 => r9 = (-1))) 0 0 (fun _ => False) := by
  refine Met.ofW (cc := cX3_pathVertex) (maxL := 4) (ret := (some .int)) (by decide) rfl ?_
  intro p e s m args below meth c s₁ B9 hml hv
  obtain ⟨rfl, hP, hK⟩ := hv
  have hx := B9.exec
  have hb := B9.bytes
  have hr := B9.returns
  have hts := atoms_spec (ws := wsX3_pathVertex) B9.pre
  have hown : s.vm.findClass RX3 = some m.cls := findClass_of_methodNamed B9.named
  have hlocks := B9.notSynchronized
  have hl := lv_entry ([.ref xo, .int (nI u), .int (nI v), .int (nI pl)]) (n := 4) (Nat.le_of_ble_eq_true rfl)
  rw [lg_entry_eq]
  generalize (lg_sl ([.ref xo, .int (nI u), .int (nI v), .int (nI pl)]) ++ List.replicate (4 - (lg_sl ([.ref xo, .int (nI u), .int (nI v), .int (nI pl)])).length) Slot.unset).toArray = ls at hl ⊢
  have hl : lv_has ls 4 [(0, .ref xo), (1, .int (nI u)), (2, .int (nI v)), (3, .int (nI pl))] := hl
  have hiX3 : ∀ w ∈ wsX30, w ∈ wsX3_pathVertex := by decide +kernel
  have hf19 := hts (.fieldLink RX3 19 "LandmarkLea" "labels" "LLandmarkLea$Labels;") (by decide +kernel)
  refine lv_aload_n hx hb dX3_pathVertex_0 rfl (lv_at hl 0 rfl) ?_
  refine lv_iload_n hx hb dX3_pathVertex_1 rfl (lv_at hl 1 rfl) ?_
  refine lv_iload_n hx hb dX3_pathVertex_2 rfl (lv_at hl 2 rfl) ?_
  have hPc := hP.sub (ws' := (XW xo g lb se tl ts (bI bt) ++ (GW cJ g gA (nI n) (nI ec) ns ++ (LW cI cJ lb aR aV aH aD aP rk vb rc hs D Pp)))) [0, 1, 2, 3, 4, 5, 6, 7, 8] rfl
  refine x_rv (W.runV (As := [.int (nI u), .int (nI v)]) (rest := []) ⟨hx, hb, hml, hown, hts⟩ (c_requireLabelsOf l dG cI cJ xo tl ts bt se g gA n ec ns lb aR aV aH aD aP rk vb rc hs D Pp hn u v (by omega) (by omega) hbt) (cwV 2 hts gX3_pathVertex_X3_requireLabelsOf rfl rfl rfl (by decide +kernel) ⟨Nat.le_of_ble_eq_true rfl, Nat.le_of_ble_eq_true rfl⟩) (RPc.pre hPc hK (va_recv hK.1 hPc (ci := 3) (q0 := 0) rfl rfl)) rfl rfl hl.1 rfl (lv_room (Nat.le_of_ble_eq_true rfl)) dX3_pathVertex_3 ⟨Nat.zero_le _, Nat.zero_le _⟩) ?_
  refine lv_iload_n hx hb dX3_pathVertex_6 rfl (lv_at hl 3 rfl) ?_
  refine x_ifgeN (tgt := 20) hx hb (by omega) dX3_pathVertex_7 (by decide) ?_
  refine lv_aload_n hx hb dX3_pathVertex_20 rfl (lv_at hl 0 rfl) ?_
  refine va_get (D := dG) (ci := 3) (v := .ref lb) (C := RX3) (T := TX3) (N := 6) hx hb hts hiX3 hown hK.1 hP 0 rfl rfl 1 (by decide) hf19 (fun _ h9 => h9) rfl dX3_pathVertex_21 ?_
  refine lv_iload_n hx hb dX3_pathVertex_24 rfl (lv_at hl 1 rfl) ?_
  refine lv_iload_n hx hb dX3_pathVertex_25 rfl (lv_at hl 2 rfl) ?_
  refine lv_iload_n hx hb dX3_pathVertex_26 rfl (lv_at hl 3 rfl) ?_
  have hPc := hP.sub (ws' := (LW cI cJ lb aR aV aH aD aP rk vb rc hs D Pp)) [3, 4, 5, 6, 7, 8] rfl
  refine x_ri (W.runV (As := [.int (nI u), .int (nI v), .int (nI pl)]) (rest := []) ⟨hx, hb, hml, hown, hts⟩ (c_vopNone l dG cI cJ lb aR aV aH aD aP rk vb rc hs D Pp L P hR hB u v pl (by omega) (by omega) hpl hm) (cwV 3 hts gX3_pathVertex_X1_vertexOnPath rfl rfl rfl (by decide +kernel) ⟨Nat.le_of_ble_eq_true rfl, Nat.le_of_ble_eq_true rfl⟩) (RPc.pre hPc hK (va_recv hK.1 hPc (ci := 1) (q0 := 0) rfl rfl)) rfl rfl hl.1 rfl (lv_room (Nat.le_of_ble_eq_true rfl)) dX3_pathVertex_27 ⟨Nat.zero_le _, Nat.zero_le _⟩) ?_
  exact W.iret (v := (-1)) hx hb hr (fun t ht hW => ⟨_, rfl, rfl, ht⟩) (fun _ h => nomatch h) dX3_pathVertex_30

set_option maxHeartbeats 4000000 in
set_option maxRecDepth 100000 in
theorem c_pathVertex (l : Launch) (dG : va_G) (cI cJ : ClassId) (xo tl ts : Nat) (bt : Bool) (se : Nat) (g gA n ec : Nat) (ns : Nat → Int64) (lb aR aV aH aD aP : Nat) (rk vb : Nat → Int32) (rc : Int32) (hs : Nat → Int64) (D Pp : Nat → Int32) (hn : n ≤ 48) (L P : Nat → Nat → Option Nat) (hR : RepL L P hs D Pp) (hB : LBd L (2 ^ 30)) (u v : Nat) (hu : u < n) (hv : v < n) (hbt : bt = true) (pl : Nat) (hpl : pl < 2 ^ 31) (r h tu tv : Nat) (hm : mr L u v 48 = some r) (hr0 : r < 48) (hh : h < 48) (eh : vb r = nI h) (htu : tu < 48) (htv : tv < 48) (hCu : Chain L P r h u tu) (hCv : Chain L P r h v tv) : Met l yX3_pathVertex wsX3_pathVertex ({ frames := 5, cells := 0, slots := 0, locals := 117 } : Room) (RPc dG cI cJ [.ref xo, .int (nI u), .int (nI v), .int (nI pl)] (XW xo g lb se tl ts (bI bt) ++ (GW cJ g gA (nI n) (nI ec) ns ++ (LW cI cJ lb aR aV aH aD aP rk vb rc hs D Pp)))) (vp_Si (fun r9 => r9 = (if tu + tv < pl then -1 else if pl ≤ tu then nI (cl P r u pl) else nI (cl P r v (tu + tv - pl))))) 0 0 (fun _ => False) := by
  refine Met.ofW (cc := cX3_pathVertex) (maxL := 4) (ret := (some .int)) (by decide) rfl ?_
  intro p e s m args below meth c s₁ B9 hml hv
  obtain ⟨rfl, hP, hK⟩ := hv
  have hx := B9.exec
  have hb := B9.bytes
  have hr := B9.returns
  have hts := atoms_spec (ws := wsX3_pathVertex) B9.pre
  have hown : s.vm.findClass RX3 = some m.cls := findClass_of_methodNamed B9.named
  have hlocks := B9.notSynchronized
  have hl := lv_entry ([.ref xo, .int (nI u), .int (nI v), .int (nI pl)]) (n := 4) (Nat.le_of_ble_eq_true rfl)
  rw [lg_entry_eq]
  generalize (lg_sl ([.ref xo, .int (nI u), .int (nI v), .int (nI pl)]) ++ List.replicate (4 - (lg_sl ([.ref xo, .int (nI u), .int (nI v), .int (nI pl)])).length) Slot.unset).toArray = ls at hl ⊢
  have hl : lv_has ls 4 [(0, .ref xo), (1, .int (nI u)), (2, .int (nI v)), (3, .int (nI pl))] := hl
  have hiX3 : ∀ w ∈ wsX30, w ∈ wsX3_pathVertex := by decide +kernel
  have hf19 := hts (.fieldLink RX3 19 "LandmarkLea" "labels" "LLandmarkLea$Labels;") (by decide +kernel)
  refine lv_aload_n hx hb dX3_pathVertex_0 rfl (lv_at hl 0 rfl) ?_
  refine lv_iload_n hx hb dX3_pathVertex_1 rfl (lv_at hl 1 rfl) ?_
  refine lv_iload_n hx hb dX3_pathVertex_2 rfl (lv_at hl 2 rfl) ?_
  have hPc := hP.sub (ws' := (XW xo g lb se tl ts (bI bt) ++ (GW cJ g gA (nI n) (nI ec) ns ++ (LW cI cJ lb aR aV aH aD aP rk vb rc hs D Pp)))) [0, 1, 2, 3, 4, 5, 6, 7, 8] rfl
  refine x_rv (W.runV (As := [.int (nI u), .int (nI v)]) (rest := []) ⟨hx, hb, hml, hown, hts⟩ (c_requireLabelsOf l dG cI cJ xo tl ts bt se g gA n ec ns lb aR aV aH aD aP rk vb rc hs D Pp hn u v (by omega) (by omega) hbt) (cwV 2 hts gX3_pathVertex_X3_requireLabelsOf rfl rfl rfl (by decide +kernel) ⟨Nat.le_of_ble_eq_true rfl, Nat.le_of_ble_eq_true rfl⟩) (RPc.pre hPc hK (va_recv hK.1 hPc (ci := 3) (q0 := 0) rfl rfl)) rfl rfl hl.1 rfl (lv_room (Nat.le_of_ble_eq_true rfl)) dX3_pathVertex_3 ⟨Nat.zero_le _, Nat.zero_le _⟩) ?_
  refine lv_iload_n hx hb dX3_pathVertex_6 rfl (lv_at hl 3 rfl) ?_
  refine x_ifgeN (tgt := 20) hx hb (by omega) dX3_pathVertex_7 (by decide) ?_
  refine lv_aload_n hx hb dX3_pathVertex_20 rfl (lv_at hl 0 rfl) ?_
  refine va_get (D := dG) (ci := 3) (v := .ref lb) (C := RX3) (T := TX3) (N := 6) hx hb hts hiX3 hown hK.1 hP 0 rfl rfl 1 (by decide) hf19 (fun _ h9 => h9) rfl dX3_pathVertex_21 ?_
  refine lv_iload_n hx hb dX3_pathVertex_24 rfl (lv_at hl 1 rfl) ?_
  refine lv_iload_n hx hb dX3_pathVertex_25 rfl (lv_at hl 2 rfl) ?_
  refine lv_iload_n hx hb dX3_pathVertex_26 rfl (lv_at hl 3 rfl) ?_
  have hPc := hP.sub (ws' := (LW cI cJ lb aR aV aH aD aP rk vb rc hs D Pp)) [3, 4, 5, 6, 7, 8] rfl
  refine x_ri (W.runV (As := [.int (nI u), .int (nI v), .int (nI pl)]) (rest := []) ⟨hx, hb, hml, hown, hts⟩ (c_vop l dG cI cJ lb aR aV aH aD aP rk vb rc hs D Pp L P hR hB u v pl (by omega) (by omega) hpl r h tu tv hm hr0 hh eh htu htv hCu hCv) (cwV 3 hts gX3_pathVertex_X1_vertexOnPath rfl rfl rfl (by decide +kernel) ⟨Nat.le_of_ble_eq_true rfl, Nat.le_of_ble_eq_true rfl⟩) (RPc.pre hPc hK (va_recv hK.1 hPc (ci := 1) (q0 := 0) rfl rfl)) rfl rfl hl.1 rfl (lv_room (Nat.le_of_ble_eq_true rfl)) dX3_pathVertex_27 ⟨Nat.zero_le _, Nat.zero_le _⟩) ?_
  exact W.iret (v := (if tu + tv < pl then -1 else if pl ≤ tu then nI (cl P r u pl) else nI (cl P r v (tu + tv - pl)))) hx hb hr (fun t ht hW => ⟨_, rfl, rfl, ht⟩) (fun _ h => nomatch h) dX3_pathVertex_30

set_option maxHeartbeats 4000000 in
set_option maxRecDepth 100000 in
theorem c_within (l : Launch) (dG : va_G) (cI cJ : ClassId) (xo tl ts : Nat) (bt : Bool) (se : Nat) (g gA n ec : Nat) (ns : Nat → Int64) (lb aR aV aH aD aP : Nat) (rk vb : Nat → Int32) (rc : Int32) (hs : Nat → Int64) (D Pp : Nat → Int32) (hn : n ≤ 48) (L P : Nat → Nat → Option Nat) (hR : RepL L P hs D Pp) (hB : LBd L (2 ^ 30)) (u : Nat) (hu : u < n) (hbt : bt = true) (d : Nat) (hd : d < 48) : Met l yX3_within wsX3_within ({ frames := 4, cells := 0, slots := 0, locals := 92 } : Room) (RPc dG cI cJ [.ref xo, .int (nI u), .int (nI d)] (XW xo g lb se tl ts (bI bt) ++ (GW cJ g gA (nI n) (nI ec) ns ++ (LW cI cJ lb aR aV aH aD aP rk vb rc hs D Pp)))) (vp_Sl (fun r9 => r9 = (wi L u 48 d n))) 0 0 (fun _ => False) := by
  refine Met.ofW (cc := cX3_within) (maxL := 7) (ret := (some .long)) (by decide) rfl ?_
  intro p e s m args below meth c s₁ B9 hml hv
  obtain ⟨rfl, hP, hK⟩ := hv
  have hx := B9.exec
  have hb := B9.bytes
  have hr := B9.returns
  have hts := atoms_spec (ws := wsX3_within) B9.pre
  have hown : s.vm.findClass RX3 = some m.cls := findClass_of_methodNamed B9.named
  have hlocks := B9.notSynchronized
  have hl := lv_entry ([.ref xo, .int (nI u), .int (nI d)]) (n := 7) (Nat.le_of_ble_eq_true rfl)
  rw [lg_entry_eq]
  generalize (lg_sl ([.ref xo, .int (nI u), .int (nI d)]) ++ List.replicate (7 - (lg_sl ([.ref xo, .int (nI u), .int (nI d)])).length) Slot.unset).toArray = ls at hl ⊢
  have hl : lv_has ls 7 [(0, .ref xo), (1, .int (nI u)), (2, .int (nI d))] := hl
  have hiX3 : ∀ w ∈ wsX30, w ∈ wsX3_within := by decide +kernel
  have hf10 := hts (.fieldLink RX3 10 "LandmarkLea" "graph" "LLandmarkLea$Graph;") (by decide +kernel)
  have hf19 := hts (.fieldLink RX3 19 "LandmarkLea" "labels" "LLandmarkLea$Labels;") (by decide +kernel)
  refine lv_aload_n hx hb dX3_within_0 rfl (lv_at hl 0 rfl) ?_
  refine lv_iload_n hx hb dX3_within_1 rfl (lv_at hl 1 rfl) ?_
  have hPc := hP.sub (ws' := (XW xo g lb se tl ts (bI bt) ++ (GW cJ g gA (nI n) (nI ec) ns ++ (LW cI cJ lb aR aV aH aD aP rk vb rc hs D Pp)))) [0, 1, 2, 3, 4, 5, 6, 7, 8] rfl
  refine x_rv (W.runV (As := [.int (nI u)]) (rest := []) ⟨hx, hb, hml, hown, hts⟩ (c_requireLabelOf l dG cI cJ xo tl ts bt se g gA n ec ns lb aR aV aH aD aP rk vb rc hs D Pp hn u hu hbt) (cwV 1 hts gX3_within_X3_requireLabelOf rfl rfl rfl (by decide +kernel) ⟨Nat.le_of_ble_eq_true rfl, Nat.le_of_ble_eq_true rfl⟩) (RPc.pre hPc hK (va_recv hK.1 hPc (ci := 3) (q0 := 0) rfl rfl)) rfl rfl hl.1 rfl (lv_room (Nat.le_of_ble_eq_true rfl)) dX3_within_2 ⟨Nat.zero_le _, Nat.zero_le _⟩) ?_
  refine lv_iload_n hx hb dX3_within_5 rfl (lv_at hl 2 rfl) ?_
  refine x_ifltN (tgt := 15) hx hb (by omega) dX3_within_6 (by decide) ?_
  refine lv_iload_n hx hb dX3_within_9 rfl (lv_at hl 2 rfl) ?_
  refine lv_bipush (v := (nI 47)) hx hb dX3_within_10 (by decide) ?_
  refine x_icmp_leN (i := d) (j := 47) (tgt := 25) hx hb (by omega) (by omega) dX3_within_12 (by decide) (fun c12 => ?_) (fun c12 => ?_)
  · skip
    refine lv_lconst (v := 0) hx hb dX3_within_25 rfl ?_
    refine lv_lstore_n (lv' := [(3, .long 0), (0, .ref xo), (1, .int (nI u)), (2, .int (nI d))]) hx hb dX3_within_26 rfl hl (by decide) rfl (fun ls hl => ?_)
    refine lv_iconst (v := (nI 0)) hx hb dX3_within_27 (by decide) ?_
    refine lv_istore (lv' := [(5, .int (nI 0)), (3, .long 0), (0, .ref xo), (1, .int (nI u)), (2, .int (nI d))]) hx hb dX3_within_28 hl (by decide) rfl (fun ls hl => ?_)
    have loop : ∀ (QQ : State → Prop) (n1 : Nat) (k : Nat), n < k + n1 → k ≤ n → (∀ ls : Array Slot, lv_has ls 7 [(0, .ref xo), (1, .int (nI u)), (2, .int (nI d)), (3, .long (wi L u 48 d n)), (5, .int (nI n))] → W p l e ({ frames := 4, cells := 0, slots := 0, locals := 92 } : Room) s m ([.ref xo, .int (nI u), .int (nI d)] : List Value).toArray below meth c s.heap [] 0 0 QQ (F0 m 79 ls [])) → ∀ ls : Array Slot, lv_has ls 7 [(0, .ref xo), (1, .int (nI u)), (2, .int (nI d)), (3, .long (wi L u 48 d k)), (5, .int (nI k))] → W p l e ({ frames := 4, cells := 0, slots := 0, locals := 92 } : Room) s m ([.ref xo, .int (nI u), .int (nI d)] : List Value).toArray below meth c s.heap [] 0 0 QQ (F0 m 30 ls []) := by
      intro QQ n1
      induction n1 with
      | zero => intro k h1 h2; exact absurd h1 (by omega)
      | succ n1 ih =>
        intro k h1 h2 kx ls hl
        refine lv_iload hx hb dX3_within_30 (lv_at hl 4 rfl) ?_
        refine lv_aload_n hx hb dX3_within_32 rfl (lv_at hl 0 rfl) ?_
        refine va_get (D := dG) (ci := 3) (v := .ref g) (C := RX3) (T := TX3) (N := 6) hx hb hts hiX3 hown hK.1 hP 0 rfl rfl 0 (by decide) hf10 (fun _ h9 => h9) rfl dX3_within_33 ?_
        have hPc := hP.sub (ws' := (GW cJ g gA (nI n) (nI ec) ns)) [1, 2] rfl
        refine x_ri (W.runV (As := []) (rest := [.int (nI k)]) ⟨hx, hb, hml, hown, hts⟩ (c_size l dG cI cJ g gA n ec ns) (cwV 0 hts gX3_within_X0_size rfl rfl rfl (by decide +kernel) ⟨Nat.le_of_ble_eq_true rfl, Nat.le_of_ble_eq_true rfl⟩) (RPc.pre hPc hK (va_recv hK.1 hPc (ci := 0) (q0 := 0) rfl rfl)) rfl rfl hl.1 rfl (lv_room (Nat.le_of_ble_eq_true rfl)) dX3_within_36 ⟨Nat.zero_le _, Nat.zero_le _⟩) ?_
        refine x_icmp_geN (i := k) (j := n) (tgt := 79) hx hb (by omega) (by omega) dX3_within_39 (by decide) (fun c39 => ?_) (fun c39 => ?_)
        · skip
          have ek : k = n := by omega
          subst ek
          exact kx  ls (lv_sub hl [0, 1, 2, 3, 4] rfl)
        · skip
          refine lv_aload_n hx hb dX3_within_42 rfl (lv_at hl 0 rfl) ?_
          refine va_get (D := dG) (ci := 3) (v := .ref lb) (C := RX3) (T := TX3) (N := 6) hx hb hts hiX3 hown hK.1 hP 0 rfl rfl 1 (by decide) hf19 (fun _ h9 => h9) rfl dX3_within_43 ?_
          refine lv_iload_n hx hb dX3_within_46 rfl (lv_at hl 1 rfl) ?_
          refine lv_iload hx hb dX3_within_47 (lv_at hl 4 rfl) ?_
          have hPc := hP.sub (ws' := (LW cI cJ lb aR aV aH aD aP rk vb rc hs D Pp)) [3, 4, 5, 6, 7, 8] rfl
          refine x_ri (W.runV (As := [.int (nI u), .int (nI k)]) (rest := []) ⟨hx, hb, hml, hown, hts⟩ (c_estimate l dG cI cJ lb aR aV aH aD aP rk vb rc hs D Pp L P hR hB u k (by omega) (by omega)) (cwV 2 hts gX3_within_X1_estimate rfl rfl rfl (by decide +kernel) ⟨Nat.le_of_ble_eq_true rfl, Nat.le_of_ble_eq_true rfl⟩) (RPc.pre hPc hK (va_recv hK.1 hPc (ci := 1) (q0 := 0) rfl rfl)) rfl rfl hl.1 rfl (lv_room (Nat.le_of_ble_eq_true rfl)) dX3_within_49 ⟨Nat.zero_le _, Nat.zero_le _⟩) ?_
          refine lv_istore (lv' := [(6, .int (eN (es L u k 48))), (0, .ref xo), (1, .int (nI u)), (2, .int (nI d)), (3, .long (wi L u 48 d k)), (5, .int (nI k))]) hx hb dX3_within_52 hl (by decide) rfl (fun ls hl => ?_)
          rcases ee : es L u k 48 with _ | q
          · skip
            have hl : lv_has ls 7 [(6, .int (-1)), (0, .ref xo), (1, .int (nI u)), (2, .int (nI d)), (3, .long (wi L u 48 d k)), (5, .int (nI k))] := by rw [ee] at hl; exact hl
            refine lv_iload hx hb dX3_within_54 (lv_at hl 0 rfl) ?_
            refine lv_iconst (v := (-1)) hx hb dX3_within_56 (by decide) ?_
            refine x_eqM_M (tgt := 73) hx hb dX3_within_57 (by decide) ?_
            refine x_iincN (lv' := [(5, .int (nI (k + 1))), (6, .int (-1)), (0, .ref xo), (1, .int (nI u)), (2, .int (nI d)), (3, .long (wi L u 48 d k))]) hx hb dX3_within_73 hl (k := 5) rfl (by decide) rfl (fun ls hl => ?_)
            refine lv_goto (tgt := 30) hx hb dX3_within_76 (by decide) ?_
            have hl : lv_has ls 7 [(5, .int (nI (k + 1))), (6, .int (-1)), (0, .ref xo), (1, .int (nI u)), (2, .int (nI d)), (3, .long (wi L u 48 d (k + 1)))] := by rw [wi_no (by rw [ee]; rfl), or_0]; exact hl
            exact ih (k + 1) (by omega) (by omega) kx ls (lv_sub hl [2, 3, 4, 5, 0] rfl)
          · skip
            have hl : lv_has ls 7 [(6, .int (nI q)), (0, .ref xo), (1, .int (nI u)), (2, .int (nI d)), (3, .long (wi L u 48 d k)), (5, .int (nI k))] := by rw [ee] at hl; exact hl
            have hq9 := es_lt hB ee
            refine lv_iload hx hb dX3_within_54 (lv_at hl 0 rfl) ?_
            refine lv_iconst (v := (-1)) hx hb dX3_within_56 (by decide) ?_
            refine x_eqM_N (tgt := 73) hx hb (by omega) dX3_within_57 (by decide) ?_
            refine lv_iload hx hb dX3_within_60 (lv_at hl 0 rfl) ?_
            refine lv_iload_n hx hb dX3_within_62 rfl (lv_at hl 3 rfl) ?_
            refine x_icmp_gtN (i := q) (j := d) (tgt := 73) hx hb (by omega) (by omega) dX3_within_63 (by decide) (fun c63 => ?_) (fun c63 => ?_)
            · skip
              refine x_iincN (lv' := [(5, .int (nI (k + 1))), (6, .int (nI q)), (0, .ref xo), (1, .int (nI u)), (2, .int (nI d)), (3, .long (wi L u 48 d k))]) hx hb dX3_within_73 hl (k := 5) rfl (by decide) rfl (fun ls hl => ?_)
              refine lv_goto (tgt := 30) hx hb dX3_within_76 (by decide) ?_
              have hl : lv_has ls 7 [(5, .int (nI (k + 1))), (6, .int (nI q)), (0, .ref xo), (1, .int (nI u)), (2, .int (nI d)), (3, .long (wi L u 48 d (k + 1)))] := by rw [wi_far ee c63, or_0]; exact hl
              exact ih (k + 1) (by omega) (by omega) kx ls (lv_sub hl [2, 3, 4, 5, 0] rfl)
            · skip
              refine lv_lload_n hx hb dX3_within_66 rfl (lv_at hl 4 rfl) ?_
              refine lv_lconst (v := 1) hx hb dX3_within_67 rfl ?_
              refine lv_iload hx hb dX3_within_68 (lv_at hl 5 rfl) ?_
              refine lv_lshl (v := (1 <<< ((nI k).toInt64 &&& 63))) hx hb dX3_within_70 rfl ?_
              refine lv_lor hx hb dX3_within_71 ?_
              refine lv_lstore_n (lv' := [(3, .long ((wi L u 48 d k) ||| (1 <<< ((nI k).toInt64 &&& 63)))), (6, .int (nI q)), (0, .ref xo), (1, .int (nI u)), (2, .int (nI d)), (5, .int (nI k))]) hx hb dX3_within_72 rfl hl (by decide) rfl (fun ls hl => ?_)
              refine x_iincN (lv' := [(5, .int (nI (k + 1))), (3, .long ((wi L u 48 d k) ||| (1 <<< ((nI k).toInt64 &&& 63)))), (6, .int (nI q)), (0, .ref xo), (1, .int (nI u)), (2, .int (nI d))]) hx hb dX3_within_73 hl (k := 5) rfl (by decide) rfl (fun ls hl => ?_)
              refine lv_goto (tgt := 30) hx hb dX3_within_76 (by decide) ?_
              have hl : lv_has ls 7 [(5, .int (nI (k + 1))), (3, .long (wi L u 48 d (k + 1))), (6, .int (nI q)), (0, .ref xo), (1, .int (nI u)), (2, .int (nI d))] := by rw [wi_yes ee c63]; exact hl
              exact ih (k + 1) (by omega) (by omega) kx ls (lv_sub hl [3, 4, 5, 1, 0] rfl)
    refine loop _ 49 0 (by omega) (by omega) (fun  ls hl => ?_) ls (lv_sub hl [2, 3, 4, 1, 0] rfl)
    refine lv_lload_n hx hb dX3_within_79 rfl (lv_at hl 3 rfl) ?_
    exact W.lret (v := (wi L u 48 d n)) hx hb hr (fun t ht hW => ⟨_, rfl, rfl, ht⟩) (fun _ h => nomatch h) dX3_within_80
  · skip
    exact absurd c12 (by omega)

set_option maxHeartbeats 4000000 in
set_option maxRecDepth 100000 in
theorem c_eccentricity (l : Launch) (dG : va_G) (cI cJ : ClassId) (xo tl ts : Nat) (bt : Bool) (se : Nat) (g gA n ec : Nat) (ns : Nat → Int64) (lb aR aV aH aD aP : Nat) (rk vb : Nat → Int32) (rc : Int32) (hs : Nat → Int64) (D Pp : Nat → Int32) (hn : n ≤ 48) (L P : Nat → Nat → Option Nat) (hR : RepL L P hs D Pp) (hB : LBd L (2 ^ 30)) (u : Nat) (hu : u < n) (hbt : bt = true) : Met l yX3_eccentricity wsX3_eccentricity ({ frames := 4, cells := 0, slots := 0, locals := 92 } : Room) (RPc dG cI cJ [.ref xo, .int (nI u)] (XW xo g lb se tl ts (bI bt) ++ (GW cJ g gA (nI n) (nI ec) ns ++ (LW cI cJ lb aR aV aH aD aP rk vb rc hs D Pp)))) (vp_Si (fun r9 => r9 = (nI (ecc L u 48 n)))) 0 0 (fun _ => False) := by
  refine Met.ofW (cc := cX3_eccentricity) (maxL := 4) (ret := (some .int)) (by decide) rfl ?_
  intro p e s m args below meth c s₁ B9 hml hv
  obtain ⟨rfl, hP, hK⟩ := hv
  have hx := B9.exec
  have hb := B9.bytes
  have hr := B9.returns
  have hts := atoms_spec (ws := wsX3_eccentricity) B9.pre
  have hown : s.vm.findClass RX3 = some m.cls := findClass_of_methodNamed B9.named
  have hlocks := B9.notSynchronized
  have hl := lv_entry ([.ref xo, .int (nI u)]) (n := 4) (Nat.le_of_ble_eq_true rfl)
  rw [lg_entry_eq]
  generalize (lg_sl ([.ref xo, .int (nI u)]) ++ List.replicate (4 - (lg_sl ([.ref xo, .int (nI u)])).length) Slot.unset).toArray = ls at hl ⊢
  have hl : lv_has ls 4 [(0, .ref xo), (1, .int (nI u))] := hl
  have hiX3 : ∀ w ∈ wsX30, w ∈ wsX3_eccentricity := by decide +kernel
  have hf10 := hts (.fieldLink RX3 10 "LandmarkLea" "graph" "LLandmarkLea$Graph;") (by decide +kernel)
  have hf19 := hts (.fieldLink RX3 19 "LandmarkLea" "labels" "LLandmarkLea$Labels;") (by decide +kernel)
  refine lv_aload_n hx hb dX3_eccentricity_0 rfl (lv_at hl 0 rfl) ?_
  refine lv_iload_n hx hb dX3_eccentricity_1 rfl (lv_at hl 1 rfl) ?_
  have hPc := hP.sub (ws' := (XW xo g lb se tl ts (bI bt) ++ (GW cJ g gA (nI n) (nI ec) ns ++ (LW cI cJ lb aR aV aH aD aP rk vb rc hs D Pp)))) [0, 1, 2, 3, 4, 5, 6, 7, 8] rfl
  refine x_rv (W.runV (As := [.int (nI u)]) (rest := []) ⟨hx, hb, hml, hown, hts⟩ (c_requireLabelOf l dG cI cJ xo tl ts bt se g gA n ec ns lb aR aV aH aD aP rk vb rc hs D Pp hn u hu hbt) (cwV 1 hts gX3_eccentricity_X3_requireLabelOf rfl rfl rfl (by decide +kernel) ⟨Nat.le_of_ble_eq_true rfl, Nat.le_of_ble_eq_true rfl⟩) (RPc.pre hPc hK (va_recv hK.1 hPc (ci := 3) (q0 := 0) rfl rfl)) rfl rfl hl.1 rfl (lv_room (Nat.le_of_ble_eq_true rfl)) dX3_eccentricity_2 ⟨Nat.zero_le _, Nat.zero_le _⟩) ?_
  refine lv_iconst (v := (nI 0)) hx hb dX3_eccentricity_5 (by decide) ?_
  refine lv_istore_n (lv' := [(2, .int (nI 0)), (0, .ref xo), (1, .int (nI u))]) hx hb dX3_eccentricity_6 rfl hl (by decide) rfl (fun ls hl => ?_)
  refine lv_iconst (v := (nI 0)) hx hb dX3_eccentricity_7 (by decide) ?_
  refine lv_istore_n (lv' := [(3, .int (nI 0)), (2, .int (nI 0)), (0, .ref xo), (1, .int (nI u))]) hx hb dX3_eccentricity_8 rfl hl (by decide) rfl (fun ls hl => ?_)
  have loop : ∀ (QQ : State → Prop) (n1 : Nat) (k : Nat), n < k + n1 → k ≤ n → ecc L u 48 k < 2 ^ 31 → (∀ ls : Array Slot, lv_has ls 4 [(0, .ref xo), (1, .int (nI u)), (2, .int (nI (ecc L u 48 n))), (3, .int (nI n))] → W p l e ({ frames := 4, cells := 0, slots := 0, locals := 92 } : Room) s m ([.ref xo, .int (nI u)] : List Value).toArray below meth c s.heap [] 0 0 QQ (F0 m 40 ls [])) → ∀ ls : Array Slot, lv_has ls 4 [(0, .ref xo), (1, .int (nI u)), (2, .int (nI (ecc L u 48 k))), (3, .int (nI k))] → W p l e ({ frames := 4, cells := 0, slots := 0, locals := 92 } : Room) s m ([.ref xo, .int (nI u)] : List Value).toArray below meth c s.heap [] 0 0 QQ (F0 m 9 ls []) := by
    intro QQ n1
    induction n1 with
    | zero => intro k h1 h2 h3; exact absurd h1 (by omega)
    | succ n1 ih =>
      intro k h1 h2 h3 kx ls hl
      refine lv_iload_n hx hb dX3_eccentricity_9 rfl (lv_at hl 3 rfl) ?_
      refine lv_aload_n hx hb dX3_eccentricity_10 rfl (lv_at hl 0 rfl) ?_
      refine va_get (D := dG) (ci := 3) (v := .ref g) (C := RX3) (T := TX3) (N := 6) hx hb hts hiX3 hown hK.1 hP 0 rfl rfl 0 (by decide) hf10 (fun _ h9 => h9) rfl dX3_eccentricity_11 ?_
      have hPc := hP.sub (ws' := (GW cJ g gA (nI n) (nI ec) ns)) [1, 2] rfl
      refine x_ri (W.runV (As := []) (rest := [.int (nI k)]) ⟨hx, hb, hml, hown, hts⟩ (c_size l dG cI cJ g gA n ec ns) (cwV 0 hts gX3_eccentricity_X0_size rfl rfl rfl (by decide +kernel) ⟨Nat.le_of_ble_eq_true rfl, Nat.le_of_ble_eq_true rfl⟩) (RPc.pre hPc hK (va_recv hK.1 hPc (ci := 0) (q0 := 0) rfl rfl)) rfl rfl hl.1 rfl (lv_room (Nat.le_of_ble_eq_true rfl)) dX3_eccentricity_14 ⟨Nat.zero_le _, Nat.zero_le _⟩) ?_
      refine x_icmp_geN (i := k) (j := n) (tgt := 40) hx hb (by omega) (by omega) dX3_eccentricity_17 (by decide) (fun c17 => ?_) (fun c17 => ?_)
      · skip
        have ek : k = n := by omega
        subst ek
        exact kx  ls (lv_sub hl [0, 1, 2, 3] rfl)
      · skip
        refine lv_iload_n hx hb dX3_eccentricity_20 rfl (lv_at hl 2 rfl) ?_
        refine lv_aload_n hx hb dX3_eccentricity_21 rfl (lv_at hl 0 rfl) ?_
        refine va_get (D := dG) (ci := 3) (v := .ref lb) (C := RX3) (T := TX3) (N := 6) hx hb hts hiX3 hown hK.1 hP 0 rfl rfl 1 (by decide) hf19 (fun _ h9 => h9) rfl dX3_eccentricity_22 ?_
        refine lv_iload_n hx hb dX3_eccentricity_25 rfl (lv_at hl 1 rfl) ?_
        refine lv_iload_n hx hb dX3_eccentricity_26 rfl (lv_at hl 3 rfl) ?_
        have hPc := hP.sub (ws' := (LW cI cJ lb aR aV aH aD aP rk vb rc hs D Pp)) [3, 4, 5, 6, 7, 8] rfl
        refine x_ri (W.runV (As := [.int (nI u), .int (nI k)]) (rest := [.int (nI (ecc L u 48 k))]) ⟨hx, hb, hml, hown, hts⟩ (c_estimate l dG cI cJ lb aR aV aH aD aP rk vb rc hs D Pp L P hR hB u k (by omega) (by omega)) (cwV 2 hts gX3_eccentricity_X1_estimate rfl rfl rfl (by decide +kernel) ⟨Nat.le_of_ble_eq_true rfl, Nat.le_of_ble_eq_true rfl⟩) (RPc.pre hPc hK (va_recv hK.1 hPc (ci := 1) (q0 := 0) rfl rfl)) rfl rfl hl.1 rfl (lv_room (Nat.le_of_ble_eq_true rfl)) dX3_eccentricity_27 ⟨Nat.zero_le _, Nat.zero_le _⟩) ?_
        refine va_mmax hx hb (hml.trans hl.1.symm) hown (hts (.methodLink RX3 144 Lib.Math.max.name) (by decide +kernel)) (hts (.static Lib.Math.max.name) (by decide +kernel)) (hts (.initialized "java/lang/Math") (by decide +kernel)) (hts (.code Lib.Math.max.name Lib.Math.max.code 2 (some .int)) (by decide +kernel)) (by decide) (by decide) (Nat.zero_le _) (Nat.zero_le _) dX3_eccentricity_30 ?_
        rw [mx_ecc hB k]
        refine lv_istore_n (lv' := [(2, .int (nI (ecc L u 48 (k + 1)))), (0, .ref xo), (1, .int (nI u)), (3, .int (nI k))]) hx hb dX3_eccentricity_33 rfl hl (by decide) rfl (fun ls hl => ?_)
        refine x_iincN (lv' := [(3, .int (nI (k + 1))), (2, .int (nI (ecc L u 48 (k + 1)))), (0, .ref xo), (1, .int (nI u))]) hx hb dX3_eccentricity_34 hl (k := 3) rfl (by decide) rfl (fun ls hl => ?_)
        refine lv_goto (tgt := 9) hx hb dX3_eccentricity_37 (by decide) ?_
        exact ih (k + 1) (by omega) (by omega) (ecc_lt hB _) kx ls (lv_sub hl [2, 3, 1, 0] rfl)
  refine loop _ 49 0 (by omega) (by omega) (ecc_lt hB _) (fun  ls hl => ?_) ls (lv_sub hl [2, 3, 1, 0] rfl)
  refine lv_iload_n hx hb dX3_eccentricity_40 rfl (lv_at hl 2 rfl) ?_
  exact W.iret (v := (nI (ecc L u 48 n))) hx hb hr (fun t ht hW => ⟨_, rfl, rfl, ht⟩) (fun _ h => nomatch h) dX3_eccentricity_41

set_option maxHeartbeats 4000000 in
set_option maxRecDepth 100000 in
theorem c_pruned (l : Launch) (dG : va_G) (cI cJ : ClassId) (xo tl ts : Nat) (bt : Bool) (qa qb qc : Nat) (qv qd qp : Nat → Int32) (ql : Int32) (qs : Int64) (vi pr wr : Int32) (g lb se : Nat) : Met l yX3_pruned wsX3_pruned ({ frames := 1, cells := 0, slots := 0, locals := 20 } : Room) (RPc dG cI cJ [.ref xo] (XW xo g lb se tl ts (bI bt) ++ (SW cI g lb se qa qb qc qv qd qp ql qs vi pr wr))) (vp_Si (fun r9 => r9 = pr)) 0 0 (fun _ => False) := by
  refine Met.ofW (cc := cX3_pruned) (maxL := 1) (ret := (some .int)) (by decide) rfl ?_
  intro p e s m args below meth c s₁ B9 hml hv
  obtain ⟨rfl, hP, hK⟩ := hv
  have hx := B9.exec
  have hb := B9.bytes
  have hr := B9.returns
  have hts := atoms_spec (ws := wsX3_pruned) B9.pre
  have hown : s.vm.findClass RX3 = some m.cls := findClass_of_methodNamed B9.named
  have hlocks := B9.notSynchronized
  have hl := lv_entry ([.ref xo]) (n := 1) (Nat.le_of_ble_eq_true rfl)
  rw [lg_entry_eq]
  generalize (lg_sl ([.ref xo]) ++ List.replicate (1 - (lg_sl ([.ref xo])).length) Slot.unset).toArray = ls at hl ⊢
  have hl : lv_has ls 1 [(0, .ref xo)] := hl
  have hiX3 : ∀ w ∈ wsX30, w ∈ wsX3_pruned := by decide +kernel
  have hf28 := hts (.fieldLink RX3 28 "LandmarkLea" "searches" "LLandmarkLea$Searches;") (by decide +kernel)
  refine lv_aload_n hx hb dX3_pruned_0 rfl (lv_at hl 0 rfl) ?_
  refine va_get (D := dG) (ci := 3) (v := .ref se) (C := RX3) (T := TX3) (N := 6) hx hb hts hiX3 hown hK.1 hP 0 rfl rfl 2 (by decide) hf28 (fun _ h9 => h9) rfl dX3_pruned_1 ?_
  have hPc := hP.sub (ws' := (SW cI g lb se qa qb qc qv qd qp ql qs vi pr wr)) [1, 2, 3, 4] rfl
  refine x_ri (W.runV (As := []) (rest := []) ⟨hx, hb, hml, hown, hts⟩ (c_countOfPruned l dG cI cJ g lb se qa qb qc qv qd qp ql qs vi pr wr) (cwV 0 hts gX3_pruned_X2_countOfPruned rfl rfl rfl (by decide +kernel) ⟨Nat.le_of_ble_eq_true rfl, Nat.le_of_ble_eq_true rfl⟩) (RPc.pre hPc hK (va_recv hK.1 hPc (ci := 2) (q0 := 0) rfl rfl)) rfl rfl hl.1 rfl (lv_room (Nat.le_of_ble_eq_true rfl)) dX3_pruned_4 ⟨Nat.zero_le _, Nat.zero_le _⟩) ?_
  exact W.iret (v := pr) hx hb hr (fun t ht hW => ⟨_, rfl, rfl, ht⟩) (fun _ h => nomatch h) dX3_pruned_7

set_option maxHeartbeats 4000000 in
set_option maxRecDepth 100000 in
theorem c_written (l : Launch) (dG : va_G) (cI cJ : ClassId) (xo tl ts : Nat) (bt : Bool) (qa qb qc : Nat) (qv qd qp : Nat → Int32) (ql : Int32) (qs : Int64) (vi pr wr : Int32) (g lb se : Nat) : Met l yX3_written wsX3_written ({ frames := 1, cells := 0, slots := 0, locals := 20 } : Room) (RPc dG cI cJ [.ref xo] (XW xo g lb se tl ts (bI bt) ++ (SW cI g lb se qa qb qc qv qd qp ql qs vi pr wr))) (vp_Si (fun r9 => r9 = wr)) 0 0 (fun _ => False) := by
  refine Met.ofW (cc := cX3_written) (maxL := 1) (ret := (some .int)) (by decide) rfl ?_
  intro p e s m args below meth c s₁ B9 hml hv
  obtain ⟨rfl, hP, hK⟩ := hv
  have hx := B9.exec
  have hb := B9.bytes
  have hr := B9.returns
  have hts := atoms_spec (ws := wsX3_written) B9.pre
  have hown : s.vm.findClass RX3 = some m.cls := findClass_of_methodNamed B9.named
  have hlocks := B9.notSynchronized
  have hl := lv_entry ([.ref xo]) (n := 1) (Nat.le_of_ble_eq_true rfl)
  rw [lg_entry_eq]
  generalize (lg_sl ([.ref xo]) ++ List.replicate (1 - (lg_sl ([.ref xo])).length) Slot.unset).toArray = ls at hl ⊢
  have hl : lv_has ls 1 [(0, .ref xo)] := hl
  have hiX3 : ∀ w ∈ wsX30, w ∈ wsX3_written := by decide +kernel
  have hf28 := hts (.fieldLink RX3 28 "LandmarkLea" "searches" "LLandmarkLea$Searches;") (by decide +kernel)
  refine lv_aload_n hx hb dX3_written_0 rfl (lv_at hl 0 rfl) ?_
  refine va_get (D := dG) (ci := 3) (v := .ref se) (C := RX3) (T := TX3) (N := 6) hx hb hts hiX3 hown hK.1 hP 0 rfl rfl 2 (by decide) hf28 (fun _ h9 => h9) rfl dX3_written_1 ?_
  have hPc := hP.sub (ws' := (SW cI g lb se qa qb qc qv qd qp ql qs vi pr wr)) [1, 2, 3, 4] rfl
  refine x_ri (W.runV (As := []) (rest := []) ⟨hx, hb, hml, hown, hts⟩ (c_countOfWritten l dG cI cJ g lb se qa qb qc qv qd qp ql qs vi pr wr) (cwV 0 hts gX3_written_X2_countOfWritten rfl rfl rfl (by decide +kernel) ⟨Nat.le_of_ble_eq_true rfl, Nat.le_of_ble_eq_true rfl⟩) (RPc.pre hPc hK (va_recv hK.1 hPc (ci := 2) (q0 := 0) rfl rfl)) rfl rfl hl.1 rfl (lv_room (Nat.le_of_ble_eq_true rfl)) dX3_written_4 ⟨Nat.zero_le _, Nat.zero_le _⟩) ?_
  exact W.iret (v := wr) hx hb hr (fun t ht hW => ⟨_, rfl, rfl, ht⟩) (fun _ h => nomatch h) dX3_written_7
