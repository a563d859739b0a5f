/-! Labels: counting, paths -/
theorem Chain.par {L P : Nat → Nat → Option Nat} {r h v t : Nat} (hC : Chain L P r h v t) {k : Nat} (hk : k < t) : P (cl P r v k) r = some (cl P r v (k + 1)) := by
  obtain ⟨-, -, -, q, e, -⟩ := hC.2 k hk
  show _ = some ((P (cl P r v k) r).getD 0)
  rw [e]; rfl
theorem Chain.lt {L P : Nat → Nat → Option Nat} {r h v t : Nat} (hC : Chain L P r h v t) (hv : v < 48) (hh : h < 48) {k : Nat} (hk : k ≤ t) : cl P r v k < 48 := by
  rcases Nat.lt_or_ge k t with g | g
  · exact (hC.2 k g).2.1
  · rw [show k = t by omega, hC.1]; exact hh
set_option maxHeartbeats 4000000 in
set_option maxRecDepth 100000 in
/-- Long.bitCount -/
theorem c_bitCount (l : Launch) (dG : va_G) (cI cJ : ClassId) (x : Int64) : Met l yJ13_bitCount_95d88 wsJ13_bitCount_95d88 ({ frames := 0, cells := 0, slots := 0, locals := 0 } : Room) (RPc dG cI cJ [.long x] []) (vp_Si (fun r9 => r9 = (nI (fb_ct (gb x) 64)))) 0 0 (fun _ => False) := by
  refine Met.ofW (cc := cJ13_bitCount_95d88) (maxL := 2) (ret := (some .int)) (by decide) rfl ?_
  intro p e s m args below meth c s₁ B9 hml hv
  obtain ⟨rfl, hP, hK⟩ := hv
  have hx := B9.exec
  have hb := B9.bytes
  have hr := B9.returns
  have hts := atoms_spec (ws := wsJ13_bitCount_95d88) B9.pre
  have hown : s.vm.findClass RJ13 = some m.cls := findClass_of_methodNamed B9.named
  have hlocks := B9.notSynchronized
  have hl := lv_entry ([.long x]) (n := 2) (Nat.le_of_ble_eq_true rfl)
  rw [lg_entry_eq]
  generalize (lg_sl ([.long x]) ++ List.replicate (2 - (lg_sl ([.long x])).length) Slot.unset).toArray = ls at hl ⊢
  have hl : lv_has ls 2 [(0, .long x)] := hl
  refine lv_lload_n hx hb dJ13_bitCount_95d88_0 rfl (lv_at hl 0 rfl) ?_
  refine lv_lload_n hx hb dJ13_bitCount_95d88_1 rfl (lv_at hl 0 rfl) ?_
  refine lv_iconst (v := (nI 1)) hx hb dJ13_bitCount_95d88_2 (by decide) ?_
  refine lv_lushr (v := ((x.toUInt64 >>> ((nI 1).toInt64.toUInt64 &&& Int64.toUInt64 63)).toInt64)) hx hb dJ13_bitCount_95d88_3 rfl ?_
  refine lv_ldc2 hx hb hown (hts (.constantLong RJ13 314 (6148914691236517205)) (by decide +kernel)) dJ13_bitCount_95d88_4 ?_
  refine lv_land hx hb dJ13_bitCount_95d88_7 ?_
  refine lv_lsub hx hb dJ13_bitCount_95d88_8 ?_
  refine lv_topl (fun x1 e1 => ?_)
  refine lv_lstore_n (lv' := [(0, .long x1)]) hx hb dJ13_bitCount_95d88_9 rfl hl (by decide) rfl (fun ls hl => ?_)
  refine lv_lload_n hx hb dJ13_bitCount_95d88_10 rfl (lv_at hl 0 rfl) ?_
  refine lv_ldc2 hx hb hown (hts (.constantLong RJ13 316 (3689348814741910323)) (by decide +kernel)) dJ13_bitCount_95d88_11 ?_
  refine lv_land hx hb dJ13_bitCount_95d88_14 ?_
  refine lv_lload_n hx hb dJ13_bitCount_95d88_15 rfl (lv_at hl 0 rfl) ?_
  refine lv_iconst (v := (nI 2)) hx hb dJ13_bitCount_95d88_16 (by decide) ?_
  refine lv_lushr (v := ((x1.toUInt64 >>> ((nI 2).toInt64.toUInt64 &&& Int64.toUInt64 63)).toInt64)) hx hb dJ13_bitCount_95d88_17 rfl ?_
  refine lv_ldc2 hx hb hown (hts (.constantLong RJ13 316 (3689348814741910323)) (by decide +kernel)) dJ13_bitCount_95d88_18 ?_
  refine lv_land hx hb dJ13_bitCount_95d88_21 ?_
  refine lv_ladd hx hb dJ13_bitCount_95d88_22 ?_
  refine lv_topl (fun x2 e2 => ?_)
  refine lv_lstore_n (lv' := [(0, .long x2)]) hx hb dJ13_bitCount_95d88_23 rfl hl (by decide) rfl (fun ls hl => ?_)
  refine lv_lload_n hx hb dJ13_bitCount_95d88_24 rfl (lv_at hl 0 rfl) ?_
  refine lv_lload_n hx hb dJ13_bitCount_95d88_25 rfl (lv_at hl 0 rfl) ?_
  refine lv_iconst (v := (nI 4)) hx hb dJ13_bitCount_95d88_26 (by decide) ?_
  refine lv_lushr (v := ((x2.toUInt64 >>> ((nI 4).toInt64.toUInt64 &&& Int64.toUInt64 63)).toInt64)) hx hb dJ13_bitCount_95d88_27 rfl ?_
  refine lv_ladd hx hb dJ13_bitCount_95d88_28 ?_
  refine lv_ldc2 hx hb hown (hts (.constantLong RJ13 318 (1085102592571150095)) (by decide +kernel)) dJ13_bitCount_95d88_29 ?_
  refine lv_land hx hb dJ13_bitCount_95d88_32 ?_
  refine lv_topl (fun x3 e3 => ?_)
  refine lv_lstore_n (lv' := [(0, .long x3)]) hx hb dJ13_bitCount_95d88_33 rfl hl (by decide) rfl (fun ls hl => ?_)
  refine lv_lload_n hx hb dJ13_bitCount_95d88_34 rfl (lv_at hl 0 rfl) ?_
  refine lv_lload_n hx hb dJ13_bitCount_95d88_35 rfl (lv_at hl 0 rfl) ?_
  refine lv_bipush (v := (nI 8)) hx hb dJ13_bitCount_95d88_36 (by decide) ?_
  refine lv_lushr (v := ((x3.toUInt64 >>> ((nI 8).toInt64.toUInt64 &&& Int64.toUInt64 63)).toInt64)) hx hb dJ13_bitCount_95d88_38 rfl ?_
  refine lv_ladd hx hb dJ13_bitCount_95d88_39 ?_
  refine lv_topl (fun x4 e4 => ?_)
  refine lv_lstore_n (lv' := [(0, .long x4)]) hx hb dJ13_bitCount_95d88_40 rfl hl (by decide) rfl (fun ls hl => ?_)
  refine lv_lload_n hx hb dJ13_bitCount_95d88_41 rfl (lv_at hl 0 rfl) ?_
  refine lv_lload_n hx hb dJ13_bitCount_95d88_42 rfl (lv_at hl 0 rfl) ?_
  refine lv_bipush (v := (nI 16)) hx hb dJ13_bitCount_95d88_43 (by decide) ?_
  refine lv_lushr (v := ((x4.toUInt64 >>> ((nI 16).toInt64.toUInt64 &&& Int64.toUInt64 63)).toInt64)) hx hb dJ13_bitCount_95d88_45 rfl ?_
  refine lv_ladd hx hb dJ13_bitCount_95d88_46 ?_
  refine lv_topl (fun x5 e5 => ?_)
  refine lv_lstore_n (lv' := [(0, .long x5)]) hx hb dJ13_bitCount_95d88_47 rfl hl (by decide) rfl (fun ls hl => ?_)
  refine lv_lload_n hx hb dJ13_bitCount_95d88_48 rfl (lv_at hl 0 rfl) ?_
  refine lv_lload_n hx hb dJ13_bitCount_95d88_49 rfl (lv_at hl 0 rfl) ?_
  refine lv_bipush (v := (nI 32)) hx hb dJ13_bitCount_95d88_50 (by decide) ?_
  refine lv_lushr (v := ((x5.toUInt64 >>> ((nI 32).toInt64.toUInt64 &&& Int64.toUInt64 63)).toInt64)) hx hb dJ13_bitCount_95d88_52 rfl ?_
  refine lv_ladd hx hb dJ13_bitCount_95d88_53 ?_
  refine lv_topl (fun x6 e6 => ?_)
  refine lv_lstore_n (lv' := [(0, .long x6)]) hx hb dJ13_bitCount_95d88_54 rfl hl (by decide) rfl (fun ls hl => ?_)
  refine lv_lload_n hx hb dJ13_bitCount_95d88_55 rfl (lv_at hl 0 rfl) ?_
  refine lv_l2i (v := x6.toInt32) hx hb dJ13_bitCount_95d88_56 rfl ?_
  refine lv_bipush (v := (nI 127)) hx hb dJ13_bitCount_95d88_57 (by decide) ?_
  refine lv_iand hx hb dJ13_bitCount_95d88_59 ?_
  exact W.iret (v := (x6.toInt32 &&& (nI 127))) hx hb hr (fun t ht hW => ⟨_, rfl, (show (x6.toInt32 &&& (nI 127)) = (nI (fb_ct (gb x) 64)) from bitCount_fin e1 e2 e3 e4 e5 e6), ht⟩) (fun _ h => nomatch h) dJ13_bitCount_95d88_60

theorem RepL.ct {L P : Nat → Nat → Option Nat} {hs : Nat → Int64} {D Pp : Nat → Int32} (h : RepL L P hs D Pp) {v : Nat} (hv : v < 48) : fb_ct (gb (hs v)) 64 = lct L v := by
  rw [show (64 : Nat) = 48 + 16 from rfl, fb_ct_split]
  rw [fb_ct_zero.mpr (fun k hk => h.2.2 v (48 + k) hv (by omega)), Nat.add_zero]
  exact fb_ct_cong fun k hk => h.1 v k hv hk

set_option maxHeartbeats 4000000 in
set_option maxRecDepth 100000 in
/-- Graph.degree -/
theorem c_degree (l : Launch) (dG : va_G) (cI cJ : ClassId) (g gA n ec : Nat) (ns : Nat → Int64) (v : Nat) (hv : v < 48) : Met l yX0_degree wsX0_degree ({ frames := 2, cells := 0, slots := 0, locals := 41 } : Room) (RPc dG cI cJ [.ref g, .int (nI v)] (GW cJ g gA (nI n) (nI ec) ns)) (vp_Si (fun r9 => r9 = (nI (fb_ct (gb (ns v)) 64)))) 0 0 (fun _ => False) := by
  refine Met.ofW (cc := cX0_degree) (maxL := 2) (ret := (some .int)) (by decide) rfl ?_
  intro p e s m args below meth c s₁ B9 hml hv
  obtain ⟨rfl, hP, hK⟩ := hv
  have hx := B9.exec
  have hb := B9.bytes
  have hr := B9.returns
  have hts := atoms_spec (ws := wsX0_degree) B9.pre
  have hown : s.vm.findClass RX0 = some m.cls := findClass_of_methodNamed B9.named
  have hlocks := B9.notSynchronized
  have hl := lv_entry ([.ref g, .int (nI v)]) (n := 2) (Nat.le_of_ble_eq_true rfl)
  rw [lg_entry_eq]
  generalize (lg_sl ([.ref g, .int (nI v)]) ++ List.replicate (2 - (lg_sl ([.ref g, .int (nI v)])).length) Slot.unset).toArray = ls at hl ⊢
  have hl : lv_has ls 2 [(0, .ref g), (1, .int (nI v))] := hl
  refine lv_aload_n hx hb dX0_degree_0 rfl (lv_at hl 0 rfl) ?_
  refine lv_iload_n hx hb dX0_degree_1 rfl (lv_at hl 1 rfl) ?_
  have hPc := hP.sub (ws' := (GW cJ g gA (nI n) (nI ec) ns)) [0, 1] rfl
  refine x_rl (W.runV (As := [.int (nI v)]) (rest := []) ⟨hx, hb, hml, hown, hts⟩ (c_adjacent l dG cI cJ g gA n ec ns v hv) (cwV 1 hts gX0_degree_X0_adjacent rfl rfl rfl (by decide +kernel) ⟨Nat.le_of_ble_eq_true rfl, Nat.le_of_ble_eq_true rfl⟩) (RPc.pre hPc hK (va_recv hK.1 hPc (ci := 0) (q0 := 0) rfl rfl)) rfl rfl hl.1 rfl (lv_room (Nat.le_of_ble_eq_true rfl)) dX0_degree_2 ⟨Nat.zero_le _, Nat.zero_le _⟩) ?_
  have hPc : va_P dG vwCl [] s.heap := fun k q h => by simp at h
  refine x_ri (W.runS (As := [.long (ns v)]) (rest := []) ⟨hx, hb, hml, hown, hts⟩ (c_bitCount l dG cI cJ (ns v)) (va_cwS 1 hts gX0_degree_J13_bitCount_95d88 rfl rfl rfl (by decide +kernel) ⟨Nat.le_of_ble_eq_true rfl, Nat.le_of_ble_eq_true rfl⟩) (RPc.preS hPc hK) rfl rfl hl.1 rfl (lv_room (Nat.le_of_ble_eq_true rfl)) dX0_degree_5 ⟨Nat.zero_le _, Nat.zero_le _⟩) ?_
  exact W.iret (v := (nI (fb_ct (gb (ns v)) 64))) hx hb hr (fun t ht hW => ⟨_, rfl, rfl, ht⟩) (fun _ h => nomatch h) dX0_degree_8

set_option maxHeartbeats 4000000 in
set_option maxRecDepth 100000 in
/-- Labels.countOf -/
theorem c_countOf (l : Launch) (dG : va_G) (cI cJ : ClassId) (lb aR aV aH aD aP : Nat) (rk vb : Nat → Int32) (rc : Int32) (hs : Nat → Int64) (D Pp : Nat → Int32) (L P : Nat → Nat → Option Nat) (hR : RepL L P hs D Pp) (v : Nat) (hv : v < 48) : Met l yX1_countOf wsX1_countOf ({ frames := 1, cells := 0, slots := 0, locals := 21 } : Room) (RPc dG cI cJ [.ref lb, .int (nI v)] (LW cI cJ lb aR aV aH aD aP rk vb rc hs D Pp)) (vp_Si (fun r9 => r9 = (nI (lct L v)))) 0 0 (fun _ => False) := by
  refine Met.ofW (cc := cX1_countOf) (maxL := 2) (ret := (some .int)) (by decide) rfl ?_
  intro p e s m args below meth c s₁ B9 hml hv
  obtain ⟨rfl, hP, hK⟩ := hv
  have hx := B9.exec
  have hb := B9.bytes
  have hr := B9.returns
  have hts := atoms_spec (ws := wsX1_countOf) B9.pre
  have hown : s.vm.findClass RX1 = some m.cls := findClass_of_methodNamed B9.named
  have hlocks := B9.notSynchronized
  have hl := lv_entry ([.ref lb, .int (nI v)]) (n := 2) (Nat.le_of_ble_eq_true rfl)
  rw [lg_entry_eq]
  generalize (lg_sl ([.ref lb, .int (nI v)]) ++ List.replicate (2 - (lg_sl ([.ref lb, .int (nI v)])).length) Slot.unset).toArray = ls at hl ⊢
  have hl : lv_has ls 2 [(0, .ref lb), (1, .int (nI v))] := hl
  have hiX1 : ∀ w ∈ wsX10, w ∈ wsX1_countOf := by decide +kernel
  have hf22 := hts (.fieldLink RX1 22 "LandmarkLea$Labels" "hubSets" "[J") (by decide +kernel)
  refine lv_iload_n hx hb dX1_countOf_0 rfl (lv_at hl 1 rfl) ?_
  have hPc : va_P dG vwCl [] s.heap := fun k q h => by simp at h
  refine x_ri (va_runSN (As := [.int (nI v)]) (rest := []) ⟨hx, hb, hml, hown, hts⟩ (c_isRow l dG cI cJ v (by omega)) ⟨va_cnB 1 hts gX1_countOf_X3_isRow_n46 rfl rfl rfl hK.2.2.2.1 (hts (.initialized RX3) (by decide +kernel)) (by decide +kernel) ⟨Nat.le_of_ble_eq_true rfl, Nat.le_of_ble_eq_true rfl⟩, hts (.static yX3_isRow) (by decide +kernel), trivial⟩ (RPc.preS hPc hK) rfl rfl hl.1 rfl (lv_room (Nat.le_of_ble_eq_true rfl)) dX1_countOf_1 ⟨Nat.zero_le _, Nat.zero_le _⟩).run ?_
  refine x_ifeqB (tgt := 19) hx hb dX1_countOf_4 (by decide) (fun c4 => ?_) (fun c4 => ?_)
  · skip
    exact absurd hv (of_decide_eq_false c4)
  · skip
    refine lv_aload_n hx hb dX1_countOf_7 rfl (lv_at hl 0 rfl) ?_
    refine va_get (D := dG) (ci := 1) (v := .ref aH) (C := RX1) (T := TX1) (N := 6) hx hb hts hiX1 hown hK.1 hP 0 rfl rfl 3 (by decide) hf22 (fun _ h9 => h9) rfl dX1_countOf_8 ?_
    refine lv_iload_n hx hb dX1_countOf_11 rfl (lv_at hl 1 rfl) ?_
    refine x_lald (f := hs) hx hb hK hP 3 rfl (by omega) (by decide) dX1_countOf_12 ?_
    have hPc : va_P dG vwCl [] s.heap := fun k q h => by simp at h
    refine x_ri (W.runS (As := [.long (hs v)]) (rest := []) ⟨hx, hb, hml, hown, hts⟩ (c_bitCount l dG cI cJ (hs v)) (va_cwS 1 hts gX1_countOf_J13_bitCount_95d88 rfl rfl rfl (by decide +kernel) ⟨Nat.le_of_ble_eq_true rfl, Nat.le_of_ble_eq_true rfl⟩) (RPc.preS hPc hK) rfl rfl hl.1 rfl (lv_room (Nat.le_of_ble_eq_true rfl)) dX1_countOf_13 ⟨Nat.zero_le _, Nat.zero_le _⟩) ?_
    rw [hR.ct hv]
    refine lv_goto (tgt := 20) hx hb dX1_countOf_16 (by decide) ?_
    exact W.iret (v := (nI (lct L v))) hx hb hr (fun t ht hW => ⟨_, rfl, rfl, ht⟩) (fun _ h => nomatch h) dX1_countOf_20

set_option maxHeartbeats 4000000 in
set_option maxRecDepth 100000 in
/-- Labels.countAll -/
theorem c_countAll (l : Launch) (dG : va_G) (cI cJ : ClassId) (lb aR aV aH aD aP : Nat) (rk vb : Nat → Int32) (rc : Int32) (hs : Nat → Int64) (D Pp : Nat → Int32) (L P : Nat → Nat → Option Nat) (hR : RepL L P hs D Pp) : Met l yX1_countAll wsX1_countAll ({ frames := 2, cells := 0, slots := 0, locals := 42 } : Room) (RPc dG cI cJ [.ref lb] (LW cI cJ lb aR aV aH aD aP rk vb rc hs D Pp)) (vp_Si (fun r9 => r9 = (nI (fb_sm (lct L) 48)))) 0 0 (fun _ => False) := by
  refine Met.ofW (cc := cX1_countAll) (maxL := 3) (ret := (some .int)) (by decide) rfl ?_
  intro p e s m args below meth c s₁ B9 hml hv
  obtain ⟨rfl, hP, hK⟩ := hv
  have hx := B9.exec
  have hb := B9.bytes
  have hr := B9.returns
  have hts := atoms_spec (ws := wsX1_countAll) B9.pre
  have hown : s.vm.findClass RX1 = some m.cls := findClass_of_methodNamed B9.named
  have hlocks := B9.notSynchronized
  have hl := lv_entry ([.ref lb]) (n := 3) (Nat.le_of_ble_eq_true rfl)
  rw [lg_entry_eq]
  generalize (lg_sl ([.ref lb]) ++ List.replicate (3 - (lg_sl ([.ref lb])).length) Slot.unset).toArray = ls at hl ⊢
  have hl : lv_has ls 3 [(0, .ref lb)] := hl
  refine lv_iconst (v := (nI 0)) hx hb dX1_countAll_0 (by decide) ?_
  refine lv_istore_n (lv' := [(1, .int (nI 0)), (0, .ref lb)]) hx hb dX1_countAll_1 rfl hl (by decide) rfl (fun ls hl => ?_)
  refine lv_iconst (v := (nI 0)) hx hb dX1_countAll_2 (by decide) ?_
  refine lv_istore_n (lv' := [(2, .int (nI 0)), (1, .int (nI 0)), (0, .ref lb)]) hx hb dX1_countAll_3 rfl hl (by decide) rfl (fun ls hl => ?_)
  have loop : ∀ (QQ : State → Prop) (n1 : Nat) (k : Nat), 48 < k + n1 → k ≤ 48 → (∀ ls : Array Slot, lv_has ls 3 [(0, .ref lb), (1, .int (nI (fb_sm (lct L) 48))), (2, .int (nI 48))] → W p l e ({ frames := 2, cells := 0, slots := 0, locals := 42 } : Room) s m ([.ref lb] : List Value).toArray below meth c s.heap [] 0 0 QQ (F0 m 24 ls [])) → ∀ ls : Array Slot, lv_has ls 3 [(0, .ref lb), (1, .int (nI (fb_sm (lct L) k))), (2, .int (nI k))] → W p l e ({ frames := 2, cells := 0, slots := 0, locals := 42 } : Room) s m ([.ref lb] : List Value).toArray below meth c s.heap [] 0 0 QQ (F0 m 4 ls []) := by
    intro QQ n1
    induction n1 with
    | zero => intro k h1 h2; exact absurd h1 (by omega)
    | succ n1 ih =>
      intro k h1 h2 kx ls hl
      refine lv_iload_n hx hb dX1_countAll_4 rfl (lv_at hl 2 rfl) ?_
      refine lv_bipush (v := (nI 48)) hx hb dX1_countAll_5 (by decide) ?_
      refine x_icmp_geN (i := k) (j := 48) (tgt := 24) hx hb (by omega) (by omega) dX1_countAll_7 (by decide) (fun c7 => ?_) (fun c7 => ?_)
      · skip
        have ek : k = 48 := by omega
        subst ek
        exact kx  ls (lv_sub hl [0, 1, 2] rfl)
      · skip
        refine lv_iload_n hx hb dX1_countAll_10 rfl (lv_at hl 1 rfl) ?_
        refine lv_aload_n hx hb dX1_countAll_11 rfl (lv_at hl 0 rfl) ?_
        refine lv_iload_n hx hb dX1_countAll_12 rfl (lv_at hl 2 rfl) ?_
        have hPc := hP.sub (ws' := (LW cI cJ lb aR aV aH aD aP rk vb rc hs D Pp)) [0, 1, 2, 3, 4, 5] rfl
        refine x_ri (W.runV (As := [.int (nI k)]) (rest := [.int (nI (fb_sm (lct L) k))]) ⟨hx, hb, hml, hown, hts⟩ (c_countOf l dG cI cJ lb aR aV aH aD aP rk vb rc hs D Pp L P hR k (by omega)) (cwV 1 hts gX1_countAll_X1_countOf rfl rfl rfl (by decide +kernel) ⟨Nat.le_of_ble_eq_true rfl, Nat.le_of_ble_eq_true rfl⟩) (RPc.pre hPc hK (va_recv hK.1 hPc (ci := 1) (q0 := 0) rfl rfl)) rfl rfl hl.1 rfl (lv_room (Nat.le_of_ble_eq_true rfl)) dX1_countAll_13 ⟨Nat.zero_le _, Nat.zero_le _⟩) ?_
        refine x_addN (i := (fb_sm (lct L) k)) (j := (lct L k)) hx hb dX1_countAll_16 ?_
        refine lv_istore_n (lv' := [(1, .int (nI ((fb_sm (lct L) k) + (lct L k)))), (0, .ref lb), (2, .int (nI k))]) hx hb dX1_countAll_17 rfl hl (by decide) rfl (fun ls hl => ?_)
        refine x_iincN (lv' := [(2, .int (nI (k + 1))), (1, .int (nI ((fb_sm (lct L) k) + (lct L k)))), (0, .ref lb)]) hx hb dX1_countAll_18 hl (k := 2) rfl (by decide) rfl (fun ls hl => ?_)
        refine lv_goto (tgt := 4) hx hb dX1_countAll_21 (by decide) ?_
        exact ih (k + 1) (by omega) (by omega) kx ls (lv_sub hl [2, 1, 0] rfl)
  refine loop _ 49 0 (by omega) (by omega) (fun  ls hl => ?_) ls (lv_sub hl [2, 1, 0] rfl)
  refine lv_iload_n hx hb dX1_countAll_24 rfl (lv_at hl 1 rfl) ?_
  exact W.iret (v := (nI (fb_sm (lct L) 48))) hx hb hr (fun t ht hW => ⟨_, rfl, rfl, ht⟩) (fun _ h => nomatch h) dX1_countAll_25

set_option maxHeartbeats 4000000 in
set_option maxRecDepth 100000 in
/-- Labels.hubRankOfEntry -/
theorem c_hubRankOfEntry (l : Launch) (dG : va_G) (cI cJ : ClassId) (lb aR aV aH aD aP : Nat) (rk vb : Nat → Int32) (rc : Int32) (hs : Nat → Int64) (D Pp : Nat → Int32) (L P : Nat → Nat → Option Nat) (hR : RepL L P hs D Pp) (v e0 r : Nat) (hv : v < 48) (hr0 : r < 48) (hq : (L v r).isSome = true) (he : fb_ct (fun k => (L v k).isSome) r = e0) : Met l yX1_hubRankOfEntry wsX1_hubRankOfEntry ({ frames := 1, cells := 0, slots := 0, locals := 22 } : Room) (RPc dG cI cJ [.ref lb, .int (nI v), .int (nI e0)] (LW cI cJ lb aR aV aH aD aP rk vb rc hs D Pp)) (vp_Si (fun r9 => r9 = (nI r))) 0 0 (fun _ => False) := by
  refine Met.ofW (cc := cX1_hubRankOfEntry) (maxL := 5) (ret := (some .int)) (by decide) rfl ?_
  intro p e s m args below meth c s₁ B9 hml hv
  obtain ⟨rfl, hP, hK⟩ := hv
  have hx := B9.exec
  have hb := B9.bytes
  have hr := B9.returns
  have hts := atoms_spec (ws := wsX1_hubRankOfEntry) B9.pre
  have hown : s.vm.findClass RX1 = some m.cls := findClass_of_methodNamed B9.named
  have hlocks := B9.notSynchronized
  have hl := lv_entry ([.ref lb, .int (nI v), .int (nI e0)]) (n := 5) (Nat.le_of_ble_eq_true rfl)
  rw [lg_entry_eq]
  generalize (lg_sl ([.ref lb, .int (nI v), .int (nI e0)]) ++ List.replicate (5 - (lg_sl ([.ref lb, .int (nI v), .int (nI e0)])).length) Slot.unset).toArray = ls at hl ⊢
  have hl : lv_has ls 5 [(0, .ref lb), (1, .int (nI v)), (2, .int (nI e0))] := hl
  have hiX1 : ∀ w ∈ wsX10, w ∈ wsX1_hubRankOfEntry := by decide +kernel
  have hf22 := hts (.fieldLink RX1 22 "LandmarkLea$Labels" "hubSets" "[J") (by decide +kernel)
  refine lv_iload_n hx hb dX1_hubRankOfEntry_0 rfl (lv_at hl 1 rfl) ?_
  have hPc : va_P dG vwCl [] s.heap := fun k q h => by simp at h
  refine x_ri (va_runSN (As := [.int (nI v)]) (rest := []) ⟨hx, hb, hml, hown, hts⟩ (c_isRow l dG cI cJ v (by omega)) ⟨va_cnB 1 hts gX1_hubRankOfEntry_X3_isRow_n46 rfl rfl rfl hK.2.2.2.1 (hts (.initialized RX3) (by decide +kernel)) (by decide +kernel) ⟨Nat.le_of_ble_eq_true rfl, Nat.le_of_ble_eq_true rfl⟩, hts (.static yX3_isRow) (by decide +kernel), trivial⟩ (RPc.preS hPc hK) rfl rfl hl.1 rfl (lv_room (Nat.le_of_ble_eq_true rfl)) dX1_hubRankOfEntry_1 ⟨Nat.zero_le _, Nat.zero_le _⟩).run ?_
  refine x_ifneB (tgt := 9) hx hb dX1_hubRankOfEntry_4 (by decide) (fun c4 => ?_) (fun c4 => ?_)
  · skip
    refine lv_iconst (v := (nI 0)) hx hb dX1_hubRankOfEntry_9 (by decide) ?_
    refine lv_istore_n (lv' := [(3, .int (nI 0)), (0, .ref lb), (1, .int (nI v)), (2, .int (nI e0))]) hx hb dX1_hubRankOfEntry_10 rfl hl (by decide) rfl (fun ls hl => ?_)
    refine lv_iconst (v := (nI 0)) hx hb dX1_hubRankOfEntry_11 (by decide) ?_
    refine lv_istore (lv' := [(4, .int (nI 0)), (3, .int (nI 0)), (0, .ref lb), (1, .int (nI v)), (2, .int (nI e0))]) hx hb dX1_hubRankOfEntry_12 hl (by decide) rfl (fun ls hl => ?_)
    have loop : ∀ (QQ : State → Prop) (n1 : Nat) (k : Nat), r < k + n1 → k ≤ r → (∀ ls : Array Slot, lv_has ls 5 [(0, .ref lb), (1, .int (nI v)), (2, .int (nI e0)), (3, .int (nI (fb_ct (fun k => (L v k).isSome) r))), (4, .int (nI r))] → W p l e ({ frames := 1, cells := 0, slots := 0, locals := 22 } : Room) s m ([.ref lb, .int (nI v), .int (nI e0)] : List Value).toArray below meth c s.heap [] 0 0 QQ (F0 m 40 ls [])) → ∀ ls : Array Slot, lv_has ls 5 [(0, .ref lb), (1, .int (nI v)), (2, .int (nI e0)), (3, .int (nI (fb_ct (fun k => (L v k).isSome) k))), (4, .int (nI k))] → W p l e ({ frames := 1, cells := 0, slots := 0, locals := 22 } : Room) s m ([.ref lb, .int (nI v), .int (nI e0)] : List Value).toArray below meth c s.heap [] 0 0 QQ (F0 m 14 ls []) := by
      intro QQ n1
      induction n1 with
      | zero => intro k h1 h2; exact absurd h1 (by omega)
      | succ n1 ih =>
        intro k h1 h2 kx ls hl
        refine lv_iload hx hb dX1_hubRankOfEntry_14 (lv_at hl 4 rfl) ?_
        refine lv_bipush (v := (nI 48)) hx hb dX1_hubRankOfEntry_16 (by decide) ?_
        refine x_icmp_geN (i := k) (j := 48) (tgt := 52) hx hb (by omega) (by omega) dX1_hubRankOfEntry_18 (by decide) (fun c18 => ?_) (fun c18 => ?_)
        · skip
          exact absurd c18 (by omega)
        · skip
          refine lv_aload_n hx hb dX1_hubRankOfEntry_21 rfl (lv_at hl 0 rfl) ?_
          refine va_get (D := dG) (ci := 1) (v := .ref aH) (C := RX1) (T := TX1) (N := 6) hx hb hts hiX1 hown hK.1 hP 0 rfl rfl 3 (by decide) hf22 (fun _ h9 => h9) rfl dX1_hubRankOfEntry_22 ?_
          refine lv_iload_n hx hb dX1_hubRankOfEntry_25 rfl (lv_at hl 1 rfl) ?_
          refine x_lald (f := hs) hx hb hK hP 3 rfl (by omega) (by decide) dX1_hubRankOfEntry_26 ?_
          refine lv_iload hx hb dX1_hubRankOfEntry_27 (lv_at hl 4 rfl) ?_
          have hPc : va_P dG vwCl [] s.heap := fun k q h => by simp at h
          refine x_ri (va_runSN (As := [.long (hs v), .int (nI k)]) (rest := []) ⟨hx, hb, hml, hown, hts⟩ (c_hasBit l dG cI cJ (hs v) k (by omega)) ⟨va_cnB 2 hts gX1_hubRankOfEntry_X3_hasBit_n50 rfl rfl rfl hK.2.2.2.2.1 (hts (.initialized RX3) (by decide +kernel)) (by decide +kernel) ⟨Nat.le_of_ble_eq_true rfl, Nat.le_of_ble_eq_true rfl⟩, hts (.static yX3_hasBit) (by decide +kernel), trivial⟩ (RPc.preS hPc hK) rfl rfl hl.1 rfl (lv_room (Nat.le_of_ble_eq_true rfl)) dX1_hubRankOfEntry_29 ⟨Nat.zero_le _, Nat.zero_le _⟩).run ?_
          rw [hR.1 v k hv (by omega)]
          refine x_ifeqB (tgt := 46) hx hb dX1_hubRankOfEntry_32 (by decide) (fun c32 => ?_) (fun c32 => ?_)
          · skip
            refine x_iincN (lv' := [(4, .int (nI (k + 1))), (0, .ref lb), (1, .int (nI v)), (2, .int (nI e0)), (3, .int (nI (fb_ct (fun k => (L v k).isSome) k)))]) hx hb dX1_hubRankOfEntry_46 hl (k := 4) rfl (by decide) rfl (fun ls hl => ?_)
            refine lv_goto (tgt := 14) hx hb dX1_hubRankOfEntry_49 (by decide) ?_
            have hl : lv_has ls 5 [(4, .int (nI (k + 1))), (0, .ref lb), (1, .int (nI v)), (2, .int (nI e0)), (3, .int (nI (fb_ct (fun k => (L v k).isSome) (k + 1))))] := by rw [fb_ct_succ, c32]; exact hl
            have hne : k ≠ r := fun z => by rw [z, hq] at c32; cases c32
            exact ih (k + 1) (by omega) (by omega) kx ls (lv_sub hl [1, 2, 3, 4, 0] rfl)
          · skip
            have hle := fb_ct_le (fun k => (L v k).isSome) k
            have hle2 := fb_ct_le (fun k => (L v k).isSome) r
            refine lv_iload_n hx hb dX1_hubRankOfEntry_35 rfl (lv_at hl 3 rfl) ?_
            refine lv_iload_n hx hb dX1_hubRankOfEntry_36 rfl (lv_at hl 2 rfl) ?_
            refine x_icmp_neN (i := (fb_ct (fun k => (L v k).isSome) k)) (j := e0) (tgt := 43) hx hb (by omega) (by omega) dX1_hubRankOfEntry_37 (by decide) (fun c37 => ?_) (fun c37 => ?_)
            · skip
              refine x_iincN (lv' := [(3, .int (nI ((fb_ct (fun k => (L v k).isSome) k) + 1))), (0, .ref lb), (1, .int (nI v)), (2, .int (nI e0)), (4, .int (nI k))]) hx hb dX1_hubRankOfEntry_43 hl (k := 3) rfl (by decide) rfl (fun ls hl => ?_)
              refine x_iincN (lv' := [(4, .int (nI (k + 1))), (3, .int (nI ((fb_ct (fun k => (L v k).isSome) k) + 1))), (0, .ref lb), (1, .int (nI v)), (2, .int (nI e0))]) hx hb dX1_hubRankOfEntry_46 hl (k := 4) rfl (by decide) rfl (fun ls hl => ?_)
              refine lv_goto (tgt := 14) hx hb dX1_hubRankOfEntry_49 (by decide) ?_
              have hl : lv_has ls 5 [(4, .int (nI (k + 1))), (3, .int (nI (fb_ct (fun k => (L v k).isSome) (k + 1)))), (0, .ref lb), (1, .int (nI v)), (2, .int (nI e0))] := by rw [fb_ct_succ, c32]; exact hl
              have hne : k ≠ r := fun z => c37 (by rw [z]; exact he)
              exact ih (k + 1) (by omega) (by omega) kx ls (lv_sub hl [2, 3, 4, 1, 0] rfl)
            · skip
              have hkr : k = r := by
                rcases Nat.lt_or_ge k r with g | g
                · have g2 := fb_ct_mono (fun k => (L v k).isSome) (show k + 1 ≤ r from g)
                  rw [fb_ct_succ, c32, if_pos rfl] at g2
                  omega
                · omega
              subst hkr
              exact kx  ls (lv_sub hl [0, 1, 2, 3, 4] rfl)
    refine loop _ 49 0 (by omega) (by omega) (fun  ls hl => ?_) ls (lv_sub hl [2, 3, 4, 1, 0] rfl)
    refine lv_iload hx hb dX1_hubRankOfEntry_40 (lv_at hl 4 rfl) ?_
    exact W.iret (v := (nI r)) hx hb hr (fun t ht hW => ⟨_, rfl, rfl, ht⟩) (fun _ h => nomatch h) dX1_hubRankOfEntry_42
  · skip
    exact absurd hv (of_decide_eq_false c4)

set_option maxHeartbeats 4000000 in
set_option maxRecDepth 100000 in
/-- Labels.stepsTo -/
theorem c_stepsTo (l : Launch) (dG : va_G) (cI cJ : ClassId) (lb aR aV aH aD aP : Nat) (rk vb : Nat → Int32) (rc : Int32) (hs : Nat → Int64) (D Pp : Nat → Int32) (L P : Nat → Nat → Option Nat) (hR : RepL L P hs D Pp) (r v h t : Nat) (hr0 : r < 48) (hv : v < 48) (ht : t < 48) (hC : Chain L P r h v t) (hh : h < 48) (eh : vb r = nI h) : Met l yX1_stepsTo wsX1_stepsTo ({ frames := 3, cells := 0, slots := 0, locals := 66 } : Room) (RPc dG cI cJ [.ref lb, .int (nI r), .int (nI v)] (LW cI cJ lb aR aV aH aD aP rk vb rc hs D Pp)) (vp_Si (fun r9 => r9 = (nI t))) 0 0 (fun _ => False) := by
  refine Met.ofW (cc := cX1_stepsTo) (maxL := 6) (ret := (some .int)) (by decide) rfl ?_
  intro p e s m args below meth c s₁ B9 hml hv
  obtain ⟨rfl, hP, hK⟩ := hv
  have hx := B9.exec
  have hb := B9.bytes
  have hr := B9.returns
  have hts := atoms_spec (ws := wsX1_stepsTo) B9.pre
  have hown : s.vm.findClass RX1 = some m.cls := findClass_of_methodNamed B9.named
  have hlocks := B9.notSynchronized
  have hl := lv_entry ([.ref lb, .int (nI r), .int (nI v)]) (n := 6) (Nat.le_of_ble_eq_true rfl)
  rw [lg_entry_eq]
  generalize (lg_sl ([.ref lb, .int (nI r), .int (nI v)]) ++ List.replicate (6 - (lg_sl ([.ref lb, .int (nI r), .int (nI v)])).length) Slot.unset).toArray = ls at hl ⊢
  have hl : lv_has ls 6 [(0, .ref lb), (1, .int (nI r)), (2, .int (nI v))] := hl
  refine lv_aload_n hx hb dX1_stepsTo_0 rfl (lv_at hl 0 rfl) ?_
  refine lv_iload_n hx hb dX1_stepsTo_1 rfl (lv_at hl 1 rfl) ?_
  have hPc := hP.sub (ws' := (LW cI cJ lb aR aV aH aD aP rk vb rc hs D Pp)) [0, 1, 2, 3, 4, 5] rfl
  refine x_ri (W.runV (As := [.int (nI r)]) (rest := []) ⟨hx, hb, hml, hown, hts⟩ (c_vertexOf l dG cI cJ lb aR aV aH aD aP rk vb rc hs D Pp r hr0) (cwV 1 hts gX1_stepsTo_X1_vertexOf rfl rfl rfl (by decide +kernel) ⟨Nat.le_of_ble_eq_true rfl, Nat.le_of_ble_eq_true rfl⟩) (RPc.pre hPc hK (va_recv hK.1 hPc (ci := 1) (q0 := 0) rfl rfl)) rfl rfl hl.1 rfl (lv_room (Nat.le_of_ble_eq_true rfl)) dX1_stepsTo_2 ⟨Nat.zero_le _, Nat.zero_le _⟩) ?_
  rw [eh]
  refine lv_istore_n (lv' := [(3, .int (nI h)), (0, .ref lb), (1, .int (nI r)), (2, .int (nI v))]) hx hb dX1_stepsTo_5 rfl hl (by decide) rfl (fun ls hl => ?_)
  refine lv_iconst (v := (nI 0)) hx hb dX1_stepsTo_6 (by decide) ?_
  refine lv_istore (lv' := [(4, .int (nI 0)), (3, .int (nI h)), (0, .ref lb), (1, .int (nI r)), (2, .int (nI v))]) hx hb dX1_stepsTo_7 hl (by decide) rfl (fun ls hl => ?_)
  refine lv_iload_n hx hb dX1_stepsTo_9 rfl (lv_at hl 4 rfl) ?_
  refine lv_istore (lv' := [(5, .int (nI v)), (4, .int (nI 0)), (3, .int (nI h)), (0, .ref lb), (1, .int (nI r)), (2, .int (nI v))]) hx hb dX1_stepsTo_10 hl (by decide) rfl (fun ls hl => ?_)
  have loop : ∀ (QQ : State → Prop) (n1 : Nat) (k : Nat), t < k + n1 → k ≤ t → (∀ ls : Array Slot, lv_has ls 6 [(0, .ref lb), (1, .int (nI r)), (2, .int (nI v)), (3, .int (nI h)), (4, .int (nI t)), (5, .int (nI (cl P r v t)))] → W p l e ({ frames := 3, cells := 0, slots := 0, locals := 66 } : Room) s m ([.ref lb, .int (nI r), .int (nI v)] : List Value).toArray below meth c s.heap [] 0 0 QQ (F0 m 40 ls [])) → ∀ ls : Array Slot, lv_has ls 6 [(0, .ref lb), (1, .int (nI r)), (2, .int (nI v)), (3, .int (nI h)), (4, .int (nI k)), (5, .int (nI (cl P r v k)))] → W p l e ({ frames := 3, cells := 0, slots := 0, locals := 66 } : Room) s m ([.ref lb, .int (nI r), .int (nI v)] : List Value).toArray below meth c s.heap [] 0 0 QQ (F0 m 12 ls []) := by
    intro QQ n1
    induction n1 with
    | zero => intro k h1 h2; exact absurd h1 (by omega)
    | succ n1 ih =>
      intro k h1 h2 kx ls hl
      refine lv_iload hx hb dX1_stepsTo_12 (lv_at hl 5 rfl) ?_
      refine lv_iload_n hx hb dX1_stepsTo_14 rfl (lv_at hl 3 rfl) ?_
      refine x_icmp_eqN (i := (cl P r v k)) (j := h) (tgt := 40) hx hb (Nat.lt_trans (hC.lt hv hh h2) (by decide)) (by omega) dX1_stepsTo_15 (by decide) (fun c15 => ?_) (fun c15 => ?_)
      · skip
        have ek : k = t := by
          rcases Nat.lt_or_ge k t with g | g
          · exact absurd c15 (hC.2 k g).1
          · omega
        subst ek
        exact kx  ls (lv_sub hl [0, 1, 2, 3, 4, 5] rfl)
      · skip
        have hk : k < t := by
          rcases Nat.lt_or_ge k t with g | g
          · exact g
          · exact absurd (by rw [show k = t by omega]; exact hC.1) c15
        refine lv_iload hx hb dX1_stepsTo_18 (lv_at hl 4 rfl) ?_
        refine lv_bipush (v := (nI 48)) hx hb dX1_stepsTo_20 (by decide) ?_
        refine x_icmp_geN (i := k) (j := 48) (tgt := 40) hx hb (by omega) (by omega) dX1_stepsTo_22 (by decide) (fun c22 => ?_) (fun c22 => ?_)
        · skip
          exact absurd c22 (by omega)
        · skip
          refine lv_aload_n hx hb dX1_stepsTo_25 rfl (lv_at hl 0 rfl) ?_
          refine lv_iload_n hx hb dX1_stepsTo_26 rfl (lv_at hl 1 rfl) ?_
          refine lv_iload hx hb dX1_stepsTo_27 (lv_at hl 5 rfl) ?_
          have hPc := hP.sub (ws' := (LW cI cJ lb aR aV aH aD aP rk vb rc hs D Pp)) [0, 1, 2, 3, 4, 5] rfl
          refine x_ri (W.runV (As := [.int (nI r), .int (nI (cl P r v k))]) (rest := []) ⟨hx, hb, hml, hown, hts⟩ (c_parentTowards l dG cI cJ lb aR aV aH aD aP rk vb rc hs D Pp L P hR r (cl P r v k) hr0 (hC.2 k hk).2.1 (hC.2 k hk).2.2.1) (cwV 2 hts gX1_stepsTo_X1_parentTowards rfl rfl rfl (by decide +kernel) ⟨Nat.le_of_ble_eq_true rfl, Nat.le_of_ble_eq_true rfl⟩) (RPc.pre hPc hK (va_recv hK.1 hPc (ci := 1) (q0 := 0) rfl rfl)) rfl rfl hl.1 rfl (lv_room (Nat.le_of_ble_eq_true rfl)) dX1_stepsTo_29 ⟨Nat.zero_le _, Nat.zero_le _⟩) ?_
          rw [show P (cl P r v k) r = some (cl P r v (k + 1)) from hC.par hk]
          refine lv_istore (lv' := [(5, .int (nI (cl P r v (k + 1)))), (0, .ref lb), (1, .int (nI r)), (2, .int (nI v)), (3, .int (nI h)), (4, .int (nI k))]) hx hb dX1_stepsTo_32 hl (by decide) rfl (fun ls hl => ?_)
          refine x_iincN (lv' := [(4, .int (nI (k + 1))), (5, .int (nI (cl P r v (k + 1)))), (0, .ref lb), (1, .int (nI r)), (2, .int (nI v)), (3, .int (nI h))]) hx hb dX1_stepsTo_34 hl (k := 5) rfl (by decide) rfl (fun ls hl => ?_)
          refine lv_goto (tgt := 12) hx hb dX1_stepsTo_37 (by decide) ?_
          exact ih (k + 1) (by omega) (by omega) kx ls (lv_sub hl [2, 3, 4, 5, 0, 1] rfl)
  refine loop _ 49 0 (by omega) (by omega) (fun  ls hl => ?_) ls (lv_sub hl [3, 4, 5, 2, 1, 0] rfl)
  refine lv_iload hx hb dX1_stepsTo_40 (lv_at hl 4 rfl) ?_
  exact W.iret (v := (nI t)) hx hb hr (fun t ht hW => ⟨_, rfl, rfl, ht⟩) (fun _ h => nomatch h) dX1_stepsTo_42

set_option maxHeartbeats 4000000 in
set_option maxRecDepth 100000 in
/-- Labels.climb -/
theorem c_climb (l : Launch) (dG : va_G) (cI cJ : ClassId) (lb aR aV aH aD aP : Nat) (rk vb : Nat → Int32) (rc : Int32) (hs : Nat → Int64) (D Pp : Nat → Int32) (L P : Nat → Nat → Option Nat) (hR : RepL L P hs D Pp) (r v h t : Nat) (hr0 : r < 48) (hv : v < 48) (ht : t < 48) (hC : Chain L P r h v t) (n : Nat) (hn : n ≤ t) : Met l yX1_climb wsX1_climb ({ frames := 3, cells := 0, slots := 0, locals := 66 } : Room) (RPc dG cI cJ [.ref lb, .int (nI r), .int (nI v), .int (nI n)] (LW cI cJ lb aR aV aH aD aP rk vb rc hs D Pp)) (vp_Si (fun r9 => r9 = (nI (cl P r v n)))) 0 0 (fun _ => False) := by
  refine Met.ofW (cc := cX1_climb) (maxL := 6) (ret := (some .int)) (by decide) rfl ?_
  intro p e s m args below meth c s₁ B9 hml hv
  obtain ⟨rfl, hP, hK⟩ := hv
  have hx := B9.exec
  have hb := B9.bytes
  have hr := B9.returns
  have hts := atoms_spec (ws := wsX1_climb) B9.pre
  have hown : s.vm.findClass RX1 = some m.cls := findClass_of_methodNamed B9.named
  have hlocks := B9.notSynchronized
  have hl := lv_entry ([.ref lb, .int (nI r), .int (nI v), .int (nI n)]) (n := 6) (Nat.le_of_ble_eq_true rfl)
  rw [lg_entry_eq]
  generalize (lg_sl ([.ref lb, .int (nI r), .int (nI v), .int (nI n)]) ++ List.replicate (6 - (lg_sl ([.ref lb, .int (nI r), .int (nI v), .int (nI n)])).length) Slot.unset).toArray = ls at hl ⊢
  have hl : lv_has ls 6 [(0, .ref lb), (1, .int (nI r)), (2, .int (nI v)), (3, .int (nI n))] := hl
  refine lv_iload_n hx hb dX1_climb_0 rfl (lv_at hl 2 rfl) ?_
  refine lv_istore (lv' := [(4, .int (nI v)), (0, .ref lb), (1, .int (nI r)), (2, .int (nI v)), (3, .int (nI n))]) hx hb dX1_climb_1 hl (by decide) rfl (fun ls hl => ?_)
  refine lv_iconst (v := (nI 0)) hx hb dX1_climb_3 (by decide) ?_
  refine lv_istore (lv' := [(5, .int (nI 0)), (4, .int (nI v)), (0, .ref lb), (1, .int (nI r)), (2, .int (nI v)), (3, .int (nI n))]) hx hb dX1_climb_4 hl (by decide) rfl (fun ls hl => ?_)
  have loop : ∀ (QQ : State → Prop) (n1 : Nat) (k : Nat), n < k + n1 → k ≤ n → (∀ ls : Array Slot, lv_has ls 6 [(0, .ref lb), (1, .int (nI r)), (2, .int (nI v)), (3, .int (nI n)), (4, .int (nI (cl P r v n))), (5, .int (nI n))] → W p l e ({ frames := 3, cells := 0, slots := 0, locals := 66 } : Room) s m ([.ref lb, .int (nI r), .int (nI v), .int (nI n)] : List Value).toArray below meth c s.heap [] 0 0 QQ (F0 m 34 ls [])) → ∀ ls : Array Slot, lv_has ls 6 [(0, .ref lb), (1, .int (nI r)), (2, .int (nI v)), (3, .int (nI n)), (4, .int (nI (cl P r v k))), (5, .int (nI k))] → W p l e ({ frames := 3, cells := 0, slots := 0, locals := 66 } : Room) s m ([.ref lb, .int (nI r), .int (nI v), .int (nI n)] : List Value).toArray below meth c s.heap [] 0 0 QQ (F0 m 6 ls []) := by
    intro QQ n1
    induction n1 with
    | zero => intro k h1 h2; exact absurd h1 (by omega)
    | succ n1 ih =>
      intro k h1 h2 kx ls hl
      refine lv_iload hx hb dX1_climb_6 (lv_at hl 5 rfl) ?_
      refine lv_iload_n hx hb dX1_climb_8 rfl (lv_at hl 3 rfl) ?_
      refine x_icmp_geN (i := k) (j := n) (tgt := 34) hx hb (by omega) (by omega) dX1_climb_9 (by decide) (fun c9 => ?_) (fun c9 => ?_)
      · skip
        have ek : k = n := by omega
        subst ek
        exact kx  ls (lv_sub hl [0, 1, 2, 3, 4, 5] rfl)
      · skip
        have hk : k < t := by omega
        refine lv_iload hx hb dX1_climb_12 (lv_at hl 5 rfl) ?_
        refine lv_bipush (v := (nI 48)) hx hb dX1_climb_14 (by decide) ?_
        refine x_icmp_geN (i := k) (j := 48) (tgt := 34) hx hb (by omega) (by omega) dX1_climb_16 (by decide) (fun c16 => ?_) (fun c16 => ?_)
        · skip
          exact absurd c16 (by omega)
        · skip
          refine lv_aload_n hx hb dX1_climb_19 rfl (lv_at hl 0 rfl) ?_
          refine lv_iload_n hx hb dX1_climb_20 rfl (lv_at hl 1 rfl) ?_
          refine lv_iload hx hb dX1_climb_21 (lv_at hl 4 rfl) ?_
          have hPc := hP.sub (ws' := (LW cI cJ lb aR aV aH aD aP rk vb rc hs D Pp)) [0, 1, 2, 3, 4, 5] rfl
          refine x_ri (W.runV (As := [.int (nI r), .int (nI (cl P r v k))]) (rest := []) ⟨hx, hb, hml, hown, hts⟩ (c_parentTowards l dG cI cJ lb aR aV aH aD aP rk vb rc hs D Pp L P hR r (cl P r v k) hr0 (hC.2 k hk).2.1 (hC.2 k hk).2.2.1) (cwV 2 hts gX1_climb_X1_parentTowards rfl rfl rfl (by decide +kernel) ⟨Nat.le_of_ble_eq_true rfl, Nat.le_of_ble_eq_true rfl⟩) (RPc.pre hPc hK (va_recv hK.1 hPc (ci := 1) (q0 := 0) rfl rfl)) rfl rfl hl.1 rfl (lv_room (Nat.le_of_ble_eq_true rfl)) dX1_climb_23 ⟨Nat.zero_le _, Nat.zero_le _⟩) ?_
          rw [show P (cl P r v k) r = some (cl P r v (k + 1)) from hC.par hk]
          refine lv_istore (lv' := [(4, .int (nI (cl P r v (k + 1)))), (0, .ref lb), (1, .int (nI r)), (2, .int (nI v)), (3, .int (nI n)), (5, .int (nI k))]) hx hb dX1_climb_26 hl (by decide) rfl (fun ls hl => ?_)
          refine x_iincN (lv' := [(5, .int (nI (k + 1))), (4, .int (nI (cl P r v (k + 1)))), (0, .ref lb), (1, .int (nI r)), (2, .int (nI v)), (3, .int (nI n))]) hx hb dX1_climb_28 hl (k := 5) rfl (by decide) rfl (fun ls hl => ?_)
          refine lv_goto (tgt := 6) hx hb dX1_climb_31 (by decide) ?_
          exact ih (k + 1) (by omega) (by omega) kx ls (lv_sub hl [2, 3, 4, 5, 1, 0] rfl)
  refine loop _ 49 0 (by omega) (by omega) (fun  ls hl => ?_) ls (lv_sub hl [2, 3, 4, 5, 1, 0] rfl)
  refine lv_iload hx hb dX1_climb_34 (lv_at hl 4 rfl) ?_
  exact W.iret (v := (nI (cl P r v n))) hx hb hr (fun t ht hW => ⟨_, rfl, rfl, ht⟩) (fun _ h => nomatch h) dX1_climb_36

set_option maxHeartbeats 4000000 in
set_option maxRecDepth 100000 in
/-- Labels.vertexOnPath -/
theorem c_vopNone (l : Launch) (dG : va_G) (cI cJ : ClassId) (lb aR aV aH aD aP : Nat) (rk vb : Nat → Int32) (rc : Int32) (hs : Nat → Int64) (D Pp : Nat → Int32) (L P : Nat → Nat → Option Nat) (hR : RepL L P hs D Pp) (hB : LBd L (2 ^ 30)) (u v pl : Nat) (hu : u < 48) (hv : v < 48) (hpl : pl < 2 ^ 31) (hm : mr L u v 48 = none) : Met l yX1_vertexOnPath wsX1_vertexOnPath ({ frames := 4, cells := 0, slots := 0, locals := 91 } : Room) (RPc dG cI cJ [.ref lb, .int (nI u), .int (nI v), .int (nI pl)] (LW cI cJ lb aR aV aH aD aP rk vb rc hs D Pp)) (vp_Si (fun r9 => r9 = (-1))) 0 0 (fun _ => False) := by
  refine Met.ofW (cc := cX1_vertexOnPath) (maxL := 7) (ret := (some .int)) (by decide) rfl ?_
  intro p e s m args below meth c s₁ B9 hml hv
  obtain ⟨rfl, hP, hK⟩ := hv
  have hx := B9.exec
  have hb := B9.bytes
  have hr := B9.returns
  have hts := atoms_spec (ws := wsX1_vertexOnPath) B9.pre
  have hown : s.vm.findClass RX1 = some m.cls := findClass_of_methodNamed B9.named
  have hlocks := B9.notSynchronized
  have hl := lv_entry ([.ref lb, .int (nI u), .int (nI v), .int (nI pl)]) (n := 7) (Nat.le_of_ble_eq_true rfl)
  rw [lg_entry_eq]
  generalize (lg_sl ([.ref lb, .int (nI u), .int (nI v), .int (nI pl)]) ++ List.replicate (7 - (lg_sl ([.ref lb, .int (nI u), .int (nI v), .int (nI pl)])).length) Slot.unset).toArray = ls at hl ⊢
  have hl : lv_has ls 7 [(0, .ref lb), (1, .int (nI u)), (2, .int (nI v)), (3, .int (nI pl))] := hl
  refine lv_aload_n hx hb dX1_vertexOnPath_0 rfl (lv_at hl 0 rfl) ?_
  refine lv_iload_n hx hb dX1_vertexOnPath_1 rfl (lv_at hl 1 rfl) ?_
  refine lv_iload_n hx hb dX1_vertexOnPath_2 rfl (lv_at hl 2 rfl) ?_
  have hPc := hP.sub (ws' := (LW cI cJ lb aR aV aH aD aP rk vb rc hs D Pp)) [0, 1, 2, 3, 4, 5] rfl
  refine x_ri (W.runV (As := [.int (nI u), .int (nI v)]) (rest := []) ⟨hx, hb, hml, hown, hts⟩ (c_meetingRank l dG cI cJ lb aR aV aH aD aP rk vb rc hs D Pp L P hR hB u v hu hv) (cwV 2 hts gX1_vertexOnPath_X1_meetingRank rfl rfl rfl (by decide +kernel) ⟨Nat.le_of_ble_eq_true rfl, Nat.le_of_ble_eq_true rfl⟩) (RPc.pre hPc hK (va_recv hK.1 hPc (ci := 1) (q0 := 0) rfl rfl)) rfl rfl hl.1 rfl (lv_room (Nat.le_of_ble_eq_true rfl)) dX1_vertexOnPath_3 ⟨Nat.zero_le _, Nat.zero_le _⟩) ?_
  rw [hm]
  refine lv_istore (lv' := [(4, .int (-1)), (0, .ref lb), (1, .int (nI u)), (2, .int (nI v)), (3, .int (nI pl))]) hx hb dX1_vertexOnPath_6 hl (by decide) rfl (fun ls hl => ?_)
  refine lv_iload hx hb dX1_vertexOnPath_8 (lv_at hl 0 rfl) ?_
  refine lv_iconst (v := (-1)) hx hb dX1_vertexOnPath_10 (by decide) ?_
  refine x_neM_M (tgt := 16) hx hb dX1_vertexOnPath_11 (by decide) ?_
  refine lv_iconst (v := (-1)) hx hb dX1_vertexOnPath_14 (by decide) ?_
  exact W.iret (v := (-1)) hx hb hr (fun t ht hW => ⟨_, rfl, rfl, ht⟩) (fun _ h => nomatch h) dX1_vertexOnPath_15

set_option maxHeartbeats 4000000 in
set_option maxRecDepth 100000 in
/-- Labels.vertexOnPath -/
theorem c_vop (l : Launch) (dG : va_G) (cI cJ : ClassId) (lb aR aV aH aD aP : Nat) (rk vb : Nat → Int32) (rc : Int32) (hs : Nat → Int64) (D Pp : Nat → Int32) (L P : Nat → Nat → Option Nat) (hR : RepL L P hs D Pp) (hB : LBd L (2 ^ 30)) (u v pl : Nat) (hu : u < 48) (hv : v < 48) (hpl : pl < 2 ^ 31) (r h tu tv : Nat) (hm : mr L u v 48 = some r) (hr0 : r < 48) (hh : h < 48) (eh : vb r = nI h) (htu : tu < 48) (htv : tv < 48) (hCu : Chain L P r h u tu) (hCv : Chain L P r h v tv) : Met l yX1_vertexOnPath wsX1_vertexOnPath ({ frames := 4, cells := 0, slots := 0, locals := 91 } : Room) (RPc dG cI cJ [.ref lb, .int (nI u), .int (nI v), .int (nI pl)] (LW cI cJ lb aR aV aH aD aP rk vb rc hs D Pp)) (vp_Si (fun r9 => r9 = (if tu + tv < pl then -1 else if pl ≤ tu then nI (cl P r u pl) else nI (cl P r v (tu + tv - pl))))) 0 0 (fun _ => False) := by
  refine Met.ofW (cc := cX1_vertexOnPath) (maxL := 7) (ret := (some .int)) (by decide) rfl ?_
  intro p e s m args below meth c s₁ B9 hml hv
  obtain ⟨rfl, hP, hK⟩ := hv
  have hx := B9.exec
  have hb := B9.bytes
  have hr := B9.returns
  have hts := atoms_spec (ws := wsX1_vertexOnPath) B9.pre
  have hown : s.vm.findClass RX1 = some m.cls := findClass_of_methodNamed B9.named
  have hlocks := B9.notSynchronized
  have hl := lv_entry ([.ref lb, .int (nI u), .int (nI v), .int (nI pl)]) (n := 7) (Nat.le_of_ble_eq_true rfl)
  rw [lg_entry_eq]
  generalize (lg_sl ([.ref lb, .int (nI u), .int (nI v), .int (nI pl)]) ++ List.replicate (7 - (lg_sl ([.ref lb, .int (nI u), .int (nI v), .int (nI pl)])).length) Slot.unset).toArray = ls at hl ⊢
  have hl : lv_has ls 7 [(0, .ref lb), (1, .int (nI u)), (2, .int (nI v)), (3, .int (nI pl))] := hl
  refine lv_aload_n hx hb dX1_vertexOnPath_0 rfl (lv_at hl 0 rfl) ?_
  refine lv_iload_n hx hb dX1_vertexOnPath_1 rfl (lv_at hl 1 rfl) ?_
  refine lv_iload_n hx hb dX1_vertexOnPath_2 rfl (lv_at hl 2 rfl) ?_
  have hPc := hP.sub (ws' := (LW cI cJ lb aR aV aH aD aP rk vb rc hs D Pp)) [0, 1, 2, 3, 4, 5] rfl
  refine x_ri (W.runV (As := [.int (nI u), .int (nI v)]) (rest := []) ⟨hx, hb, hml, hown, hts⟩ (c_meetingRank l dG cI cJ lb aR aV aH aD aP rk vb rc hs D Pp L P hR hB u v hu hv) (cwV 2 hts gX1_vertexOnPath_X1_meetingRank rfl rfl rfl (by decide +kernel) ⟨Nat.le_of_ble_eq_true rfl, Nat.le_of_ble_eq_true rfl⟩) (RPc.pre hPc hK (va_recv hK.1 hPc (ci := 1) (q0 := 0) rfl rfl)) rfl rfl hl.1 rfl (lv_room (Nat.le_of_ble_eq_true rfl)) dX1_vertexOnPath_3 ⟨Nat.zero_le _, Nat.zero_le _⟩) ?_
  rw [hm]
  show W _ _ _ _ _ _ _ _ _ _ _ _ _ _ _ (F0 m 6 ls [.int (nI r)])
  refine lv_istore (lv' := [(4, .int (nI r)), (0, .ref lb), (1, .int (nI u)), (2, .int (nI v)), (3, .int (nI pl))]) hx hb dX1_vertexOnPath_6 hl (by decide) rfl (fun ls hl => ?_)
  refine lv_iload hx hb dX1_vertexOnPath_8 (lv_at hl 0 rfl) ?_
  refine lv_iconst (v := (-1)) hx hb dX1_vertexOnPath_10 (by decide) ?_
  refine x_neM_N (tgt := 16) hx hb (by omega) dX1_vertexOnPath_11 (by decide) ?_
  refine lv_aload_n hx hb dX1_vertexOnPath_16 rfl (lv_at hl 1 rfl) ?_
  refine lv_iload hx hb dX1_vertexOnPath_17 (lv_at hl 0 rfl) ?_
  refine lv_iload_n hx hb dX1_vertexOnPath_19 rfl (lv_at hl 2 rfl) ?_
  have hPc := hP.sub (ws' := (LW cI cJ lb aR aV aH aD aP rk vb rc hs D Pp)) [0, 1, 2, 3, 4, 5] rfl
  refine x_ri (W.runV (As := [.int (nI r), .int (nI u)]) (rest := []) ⟨hx, hb, hml, hown, hts⟩ (c_stepsTo l dG cI cJ lb aR aV aH aD aP rk vb rc hs D Pp L P hR r u h tu hr0 hu htu hCu hh eh) (cwV 2 hts gX1_vertexOnPath_X1_stepsTo rfl rfl rfl (by decide +kernel) ⟨Nat.le_of_ble_eq_true rfl, Nat.le_of_ble_eq_true rfl⟩) (RPc.pre hPc hK (va_recv hK.1 hPc (ci := 1) (q0 := 0) rfl rfl)) rfl rfl hl.1 rfl (lv_room (Nat.le_of_ble_eq_true rfl)) dX1_vertexOnPath_20 ⟨Nat.zero_le _, Nat.zero_le _⟩) ?_
  refine lv_istore (lv' := [(5, .int (nI tu)), (4, .int (nI r)), (0, .ref lb), (1, .int (nI u)), (2, .int (nI v)), (3, .int (nI pl))]) hx hb dX1_vertexOnPath_23 hl (by decide) rfl (fun ls hl => ?_)
  refine lv_aload_n hx hb dX1_vertexOnPath_25 rfl (lv_at hl 2 rfl) ?_
  refine lv_iload hx hb dX1_vertexOnPath_26 (lv_at hl 1 rfl) ?_
  refine lv_iload_n hx hb dX1_vertexOnPath_28 rfl (lv_at hl 4 rfl) ?_
  have hPc := hP.sub (ws' := (LW cI cJ lb aR aV aH aD aP rk vb rc hs D Pp)) [0, 1, 2, 3, 4, 5] rfl
  refine x_ri (W.runV (As := [.int (nI r), .int (nI v)]) (rest := []) ⟨hx, hb, hml, hown, hts⟩ (c_stepsTo l dG cI cJ lb aR aV aH aD aP rk vb rc hs D Pp L P hR r v h tv hr0 hv htv hCv hh eh) (cwV 2 hts gX1_vertexOnPath_X1_stepsTo rfl rfl rfl (by decide +kernel) ⟨Nat.le_of_ble_eq_true rfl, Nat.le_of_ble_eq_true rfl⟩) (RPc.pre hPc hK (va_recv hK.1 hPc (ci := 1) (q0 := 0) rfl rfl)) rfl rfl hl.1 rfl (lv_room (Nat.le_of_ble_eq_true rfl)) dX1_vertexOnPath_29 ⟨Nat.zero_le _, Nat.zero_le _⟩) ?_
  refine lv_istore (lv' := [(6, .int (nI tv)), (5, .int (nI tu)), (4, .int (nI r)), (0, .ref lb), (1, .int (nI u)), (2, .int (nI v)), (3, .int (nI pl))]) hx hb dX1_vertexOnPath_32 hl (by decide) rfl (fun ls hl => ?_)
  refine lv_iload_n hx hb dX1_vertexOnPath_34 rfl (lv_at hl 6 rfl) ?_
  refine lv_iload hx hb dX1_vertexOnPath_35 (lv_at hl 1 rfl) ?_
  refine lv_iload hx hb dX1_vertexOnPath_37 (lv_at hl 0 rfl) ?_
  refine x_addN (i := tu) (j := tv) hx hb dX1_vertexOnPath_39 ?_
  refine x_icmp_leN (i := pl) (j := (tu + tv)) (tgt := 45) hx hb (by omega) (by omega) dX1_vertexOnPath_40 (by decide) (fun c40 => ?_) (fun c40 => ?_)
  · skip
    refine lv_iload_n hx hb dX1_vertexOnPath_45 rfl (lv_at hl 6 rfl) ?_
    refine lv_iload hx hb dX1_vertexOnPath_46 (lv_at hl 1 rfl) ?_
    refine x_icmp_gtN (i := pl) (j := tu) (tgt := 62) hx hb (by omega) (by omega) dX1_vertexOnPath_48 (by decide) (fun c48 => ?_) (fun c48 => ?_)
    · skip
      refine lv_aload_n hx hb dX1_vertexOnPath_62 rfl (lv_at hl 3 rfl) ?_
      refine lv_iload hx hb dX1_vertexOnPath_63 (lv_at hl 2 rfl) ?_
      refine lv_iload_n hx hb dX1_vertexOnPath_65 rfl (lv_at hl 5 rfl) ?_
      refine lv_iload hx hb dX1_vertexOnPath_66 (lv_at hl 1 rfl) ?_
      refine lv_iload hx hb dX1_vertexOnPath_68 (lv_at hl 0 rfl) ?_
      refine x_addN (i := tu) (j := tv) hx hb dX1_vertexOnPath_70 ?_
      refine lv_iload_n hx hb dX1_vertexOnPath_71 rfl (lv_at hl 6 rfl) ?_
      refine x_subN (i := (tu + tv)) (j := pl) hx hb (by omega) dX1_vertexOnPath_72 ?_
      have hPc := hP.sub (ws' := (LW cI cJ lb aR aV aH aD aP rk vb rc hs D Pp)) [0, 1, 2, 3, 4, 5] rfl
      refine x_ri (W.runV (As := [.int (nI r), .int (nI v), .int (nI ((tu + tv) - pl))]) (rest := []) ⟨hx, hb, hml, hown, hts⟩ (c_climb l dG cI cJ lb aR aV aH aD aP rk vb rc hs D Pp L P hR r v h tv hr0 hv htv hCv (tu + tv - pl) (by omega)) (cwV 3 hts gX1_vertexOnPath_X1_climb rfl rfl rfl (by decide +kernel) ⟨Nat.le_of_ble_eq_true rfl, Nat.le_of_ble_eq_true rfl⟩) (RPc.pre hPc hK (va_recv hK.1 hPc (ci := 1) (q0 := 0) rfl rfl)) rfl rfl hl.1 rfl (lv_room (Nat.le_of_ble_eq_true rfl)) dX1_vertexOnPath_73 ⟨Nat.zero_le _, Nat.zero_le _⟩) ?_
      exact W.iret (v := (nI (cl P r v (tu + tv - pl)))) hx hb hr (fun t ht hW => ⟨_, rfl, (show (nI (cl P r v (tu + tv - pl))) = (if tu + tv < pl then -1 else if pl ≤ tu then nI (cl P r u pl) else nI (cl P r v (tu + tv - pl))) from by rw [if_neg (by omega), if_neg (by omega)]), ht⟩) (fun _ h => nomatch h) dX1_vertexOnPath_76
    · skip
      refine lv_aload_n hx hb dX1_vertexOnPath_51 rfl (lv_at hl 3 rfl) ?_
      refine lv_iload hx hb dX1_vertexOnPath_52 (lv_at hl 2 rfl) ?_
      refine lv_iload_n hx hb dX1_vertexOnPath_54 rfl (lv_at hl 4 rfl) ?_
      refine lv_iload_n hx hb dX1_vertexOnPath_55 rfl (lv_at hl 6 rfl) ?_
      have hPc := hP.sub (ws' := (LW cI cJ lb aR aV aH aD aP rk vb rc hs D Pp)) [0, 1, 2, 3, 4, 5] rfl
      refine x_ri (W.runV (As := [.int (nI r), .int (nI u), .int (nI pl)]) (rest := []) ⟨hx, hb, hml, hown, hts⟩ (c_climb l dG cI cJ lb aR aV aH aD aP rk vb rc hs D Pp L P hR r u h tu hr0 hu htu hCu pl (by omega)) (cwV 3 hts gX1_vertexOnPath_X1_climb rfl rfl rfl (by decide +kernel) ⟨Nat.le_of_ble_eq_true rfl, Nat.le_of_ble_eq_true rfl⟩) (RPc.pre hPc hK (va_recv hK.1 hPc (ci := 1) (q0 := 0) rfl rfl)) rfl rfl hl.1 rfl (lv_room (Nat.le_of_ble_eq_true rfl)) dX1_vertexOnPath_56 ⟨Nat.zero_le _, Nat.zero_le _⟩) ?_
      refine lv_goto (tgt := 76) hx hb dX1_vertexOnPath_59 (by decide) ?_
      exact W.iret (v := (nI (cl P r u pl))) hx hb hr (fun t ht hW => ⟨_, rfl, (show (nI (cl P r u pl)) = (if tu + tv < pl then -1 else if pl ≤ tu then nI (cl P r u pl) else nI (cl P r v (tu + tv - pl))) from by rw [if_neg (by omega), if_pos (by omega)]), ht⟩) (fun _ h => nomatch h) dX1_vertexOnPath_76
  · skip
    refine lv_iconst (v := (-1)) hx hb dX1_vertexOnPath_43 (by decide) ?_
    exact W.iret (v := (-1)) hx hb hr (fun t ht hW => ⟨_, rfl, (show (-1) = (if tu + tv < pl then -1 else if pl ≤ tu then nI (cl P r u pl) else nI (cl P r v (tu + tv - pl))) from by rw [if_pos (by omega)]), ht⟩) (fun _ h => nomatch h) dX1_vertexOnPath_44
