/-! the law's askers, without edges and labels -/
theorem zshr (n : Nat) : (0 : Int64) >>> ((nI n).toInt64 &&& 63) = 0 := by
  apply Int64.toBitVec_inj.mp
  rw [Int64.toBitVec_shiftRight]
  show (0#64).sshiftRight' _ = 0#64
  rw [BitVec.sshiftRight_eq']
  simp
set_option maxHeartbeats 4000000 in
set_option maxRecDepth 100000 in
theorem r_isNear (l : Launch) (dG : va_G) (cI cJ : ClassId) (xo tl ts se lb g gA n : Nat) (ns : Nat → Int64) (aR aV aH aD aP : Nat) (rk vb : Nat → Int32) (rc : Int32) (hs : Nat → Int64) (D Pp : Nat → Int32) (qa qb qc : Nat) (qv qd qp : Nat → Int32) (ql : Int32) (qs : Int64) (vi pr wr : Int32) (hn : n ≤ 48) (hns : ∀ v, ns v = 0) (a b : Nat) (ha : a < n) (hb64 : b < 64) : Met l yL_isNear wsL_isNear ({ frames := 3, cells := 0, slots := 0, locals := 63 } : Room) (RPc dG cI cJ [.ref xo, .int (nI a), .int (nI b)] (XW xo g lb se tl ts (bI false) ++ (GW cJ g gA (nI n) (nI 0) ns ++ (LW cI cJ lb aR aV aH aD aP rk vb rc hs D Pp ++ (SW cI g lb se qa qb qc qv qd qp ql qs vi pr wr))))) (vp_Si (fun r9 => r9 = (bI false))) 0 0 (fun _ => False) := by
  refine Met.ofW (cc := cL_isNear) (maxL := 3) (ret := (some .boolean)) (by decide) rfl ?_
  intro p e s m args below meth c s₁ B9 hml hv
  obtain ⟨rfl, hP, hK⟩ := hv
  have hx := B9.exec
  have hb := B9.bytes
  have hr := B9.returns
  have hts := atoms_spec (ws := wsL_isNear) B9.pre
  have hown : s.vm.findClass RL = some m.cls := findClass_of_methodNamed B9.named
  have hlocks := B9.notSynchronized
  have hl := lv_entry ([.ref xo, .int (nI a), .int (nI b)]) (n := 3) (Nat.le_of_ble_eq_true rfl)
  rw [lg_entry_eq]
  generalize (lg_sl ([.ref xo, .int (nI a), .int (nI b)]) ++ List.replicate (3 - (lg_sl ([.ref xo, .int (nI a), .int (nI b)])).length) Slot.unset).toArray = ls at hl ⊢
  have hl : lv_has ls 3 [(0, .ref xo), (1, .int (nI a)), (2, .int (nI b))] := hl
  refine lv_aload_n hx hb dL_isNear_0 rfl (lv_at hl 0 rfl) ?_
  refine lv_iload_n hx hb dL_isNear_1 rfl (lv_at hl 1 rfl) ?_
  have hPc := hP.sub (ws' := (XW xo g lb se tl ts (bI false) ++ (GW cJ g gA (nI n) (nI 0) ns ++ (LW cI cJ lb aR aV aH aD aP rk vb rc hs D Pp)))) [0, 1, 2, 3, 4, 5, 6, 7, 8] rfl
  refine x_rl (W.runV (As := [.int (nI a)]) (rest := []) ⟨hx, hb, hml, hown, hts⟩ (c_neighbours l dG cI cJ xo tl ts false se g gA n 0 ns lb aR aV aH aD aP rk vb rc hs D Pp hn a ha) (cwV 1 hts gL_isNear_X3_neighbours rfl rfl rfl (by decide +kernel) ⟨Nat.le_of_ble_eq_true rfl, Nat.le_of_ble_eq_true rfl⟩) (RPc.pre hPc hK (va_recv hK.1 hPc (ci := 3) (q0 := 0) rfl rfl)) rfl rfl hl.1 rfl (lv_room (Nat.le_of_ble_eq_true rfl)) dL_isNear_2 ⟨Nat.zero_le _, Nat.zero_le _⟩) ?_
  refine lv_iload_n hx hb dL_isNear_5 rfl (lv_at hl 2 rfl) ?_
  refine lv_lshr (v := ((ns a) >>> ((nI b).toInt64 &&& 63))) hx hb dL_isNear_6 rfl ?_
  refine lv_lconst (v := 1) hx hb dL_isNear_7 rfl ?_
  refine lv_land hx hb dL_isNear_8 ?_
  refine lv_lconst (v := 1) hx hb dL_isNear_9 rfl ?_
  refine W.lcmp hx hb dL_isNear_10 ?_
  rw [show lg_cmp ((ns a >>> ((nI b).toInt64 &&& 63)) &&& 1) 1 = (bC (gb (ns a) b)) from gb_cmp1 hb64]
  refine x_ifneC (tgt := 18) hx hb dL_isNear_11 (by decide) (fun c11 => ?_) (fun c11 => ?_)
  · skip
    refine lv_iconst (v := (nI 0)) hx hb dL_isNear_18 (by decide) ?_
    exact W.zret (v := (nI 0)) (ty := .boolean) hx hb hr (by decide) (fun t ht hW => ⟨_, rfl, rfl, ht⟩) (fun _ h => nomatch h) dL_isNear_19
  · skip
    rw [hns a, gb_0] at c11; cases c11

set_option maxHeartbeats 4000000 in
set_option maxRecDepth 100000 in
theorem r_isGraph (l : Launch) (dG : va_G) (cI cJ : ClassId) (xo tl ts se lb g gA n : Nat) (ns : Nat → Int64) (aR aV aH aD aP : Nat) (rk vb : Nat → Int32) (rc : Int32) (hs : Nat → Int64) (D Pp : Nat → Int32) (qa qb qc : Nat) (qv qd qp : Nat → Int32) (ql : Int32) (qs : Int64) (vi pr wr : Int32) (hn : n ≤ 48) (hns : ∀ v, ns v = 0) : Met l yL_isGraph wsL_isGraph ({ frames := 4, cells := 0, slots := 0, locals := 85 } : Room) (RPc dG cI cJ [.ref xo] (XW xo g lb se tl ts (bI false) ++ (GW cJ g gA (nI n) (nI 0) ns ++ (LW cI cJ lb aR aV aH aD aP rk vb rc hs D Pp ++ (SW cI g lb se qa qb qc qv qd qp ql qs vi pr wr))))) (vp_Si (fun r9 => r9 = (bI true))) 0 0 (fun _ => False) := by
  refine Met.ofW (cc := cL_isGraph) (maxL := 5) (ret := (some .boolean)) (by decide) rfl ?_
  intro p e s m args below meth c s₁ B9 hml hv
  obtain ⟨rfl, hP, hK⟩ := hv
  have hx := B9.exec
  have hb := B9.bytes
  have hr := B9.returns
  have hts := atoms_spec (ws := wsL_isGraph) B9.pre
  have hown : s.vm.findClass RL = some m.cls := findClass_of_methodNamed B9.named
  have hlocks := B9.notSynchronized
  have hl := lv_entry ([.ref xo]) (n := 5) (Nat.le_of_ble_eq_true rfl)
  rw [lg_entry_eq]
  generalize (lg_sl ([.ref xo]) ++ List.replicate (5 - (lg_sl ([.ref xo])).length) Slot.unset).toArray = ls at hl ⊢
  have hl : lv_has ls 5 [(0, .ref xo)] := hl
  refine lv_iconst (v := (nI 0)) hx hb dL_isGraph_0 (by decide) ?_
  refine lv_istore_n (lv' := [(1, .int (nI 0)), (0, .ref xo)]) hx hb dL_isGraph_1 rfl hl (by decide) rfl (fun ls hl => ?_)
  refine lv_iconst (v := (nI 1)) hx hb dL_isGraph_2 (by decide) ?_
  refine lv_istore_n (lv' := [(2, .int (nI 1)), (1, .int (nI 0)), (0, .ref xo)]) hx hb dL_isGraph_3 rfl hl (by decide) rfl (fun ls hl => ?_)
  refine lv_iconst (v := (nI 0)) hx hb dL_isGraph_4 (by decide) ?_
  refine lv_istore_n (lv' := [(3, .int (nI 0)), (2, .int (nI 1)), (1, .int (nI 0)), (0, .ref xo)]) hx hb dL_isGraph_5 rfl hl (by decide) rfl (fun ls hl => ?_)
  have hl : lv_has ls 5 [(3, .int (nI 0)), (2, .int (bI true)), (1, .int (nI 0)), (0, .ref xo)] := by exact hl
  have loop : ∀ (QQ : State → Prop) (n1 : Nat) (a : Nat), n < a + n1 → a ≤ n → (∀ ls : Array Slot, lv_has ls 5 [(0, .ref xo), (1, .int (nI 0)), (2, .int (bI true))] → W p l e ({ frames := 4, cells := 0, slots := 0, locals := 85 } : Room) s m ([.ref xo] : List Value).toArray below meth c s.heap [] 0 0 QQ (F0 m 117 ls [])) → ∀ ls : Array Slot, lv_has ls 5 [(0, .ref xo), (1, .int (nI 0)), (2, .int (bI true)), (3, .int (nI a))] → W p l e ({ frames := 4, cells := 0, slots := 0, locals := 85 } : Room) s m ([.ref xo] : List Value).toArray below meth c s.heap [] 0 0 QQ (F0 m 6 ls []) := by
    intro QQ n1
    induction n1 with
    | zero => intro a h1 h2; exact absurd h1 (by omega)
    | succ n1 ih =>
      intro a h1 h2 kx ls hl
      refine lv_iload_n hx hb dL_isGraph_6 rfl (lv_at hl 3 rfl) ?_
      refine lv_aload_n hx hb dL_isGraph_7 rfl (lv_at hl 0 rfl) ?_
      have hPc := hP.sub (ws' := (XW xo g lb se tl ts (bI false) ++ (GW cJ g gA (nI n) (nI 0) ns ++ (LW cI cJ lb aR aV aH aD aP rk vb rc hs D Pp)))) [0, 1, 2, 3, 4, 5, 6, 7, 8] rfl
      refine x_ri (W.runV (As := []) (rest := [.int (nI a)]) ⟨hx, hb, hml, hown, hts⟩ (c_vertices l dG cI cJ xo tl ts false se g gA n 0 ns lb aR aV aH aD aP rk vb rc hs D Pp hn) (cwV 0 hts gL_isGraph_X3_vertices rfl rfl rfl (by decide +kernel) ⟨Nat.le_of_ble_eq_true rfl, Nat.le_of_ble_eq_true rfl⟩) (RPc.pre hPc hK (va_recv hK.1 hPc (ci := 3) (q0 := 0) rfl rfl)) rfl rfl hl.1 rfl (lv_room (Nat.le_of_ble_eq_true rfl)) dL_isGraph_8 ⟨Nat.zero_le _, Nat.zero_le _⟩) ?_
      refine x_icmp_geN (i := a) (j := n) (tgt := 117) hx hb (by omega) (by omega) dL_isGraph_11 (by decide) (fun c11 => ?_) (fun c11 => ?_)
      · skip
        exact kx  ls (lv_sub hl [0, 1, 2] rfl)
      · skip
        refine lv_iload_n hx hb dL_isGraph_14 rfl (lv_at hl 2 rfl) ?_
        refine x_ifeqB (tgt := 117) hx hb dL_isGraph_15 (by decide) (fun h9 => absurd h9 (by decide)) (fun h9 => ?_)
        refine lv_aload_n hx hb dL_isGraph_18 rfl (lv_at hl 0 rfl) ?_
        refine lv_iload_n hx hb dL_isGraph_19 rfl (lv_at hl 3 rfl) ?_
        refine lv_iload_n hx hb dL_isGraph_20 rfl (lv_at hl 3 rfl) ?_
        have hPc := hP.sub (ws' := (XW xo g lb se tl ts (bI false) ++ (GW cJ g gA (nI n) (nI 0) ns ++ (LW cI cJ lb aR aV aH aD aP rk vb rc hs D Pp ++ (SW cI g lb se qa qb qc qv qd qp ql qs vi pr wr))))) [0, 1, 2, 3, 4, 5, 6, 7, 8, 9, 10, 11, 12] rfl
        refine x_ri (W.runS (As := [.ref xo, .int (nI a), .int (nI a)]) (rest := []) ⟨hx, hb, hml, hown, hts⟩ (r_isNear l dG cI cJ xo tl ts se lb g gA n ns aR aV aH aD aP rk vb rc hs D Pp qa qb qc qv qd qp ql qs vi pr wr hn hns a a (by omega) (by omega)) (va_cwS 3 hts gL_isGraph_L_isNear rfl rfl rfl (by decide +kernel) ⟨Nat.le_of_ble_eq_true rfl, Nat.le_of_ble_eq_true rfl⟩) (RPc.preS hPc hK) rfl rfl hl.1 rfl (lv_room (Nat.le_of_ble_eq_true rfl)) dL_isGraph_21 ⟨Nat.zero_le _, Nat.zero_le _⟩) ?_
        refine x_ifneB (tgt := 46) hx hb dL_isGraph_24 (by decide) (fun h9 => absurd h9 (by decide)) (fun h9 => ?_)
        refine lv_aload_n hx hb dL_isGraph_27 rfl (lv_at hl 0 rfl) ?_
        refine lv_iload_n hx hb dL_isGraph_28 rfl (lv_at hl 3 rfl) ?_
        have hPc := hP.sub (ws' := (XW xo g lb se tl ts (bI false) ++ (GW cJ g gA (nI n) (nI 0) ns ++ (LW cI cJ lb aR aV aH aD aP rk vb rc hs D Pp)))) [0, 1, 2, 3, 4, 5, 6, 7, 8] rfl
        refine x_rl (W.runV (As := [.int (nI a)]) (rest := []) ⟨hx, hb, hml, hown, hts⟩ (c_neighbours l dG cI cJ xo tl ts false se g gA n 0 ns lb aR aV aH aD aP rk vb rc hs D Pp hn a (by omega)) (cwV 1 hts gL_isGraph_X3_neighbours rfl rfl rfl (by decide +kernel) ⟨Nat.le_of_ble_eq_true rfl, Nat.le_of_ble_eq_true rfl⟩) (RPc.pre hPc hK (va_recv hK.1 hPc (ci := 3) (q0 := 0) rfl rfl)) rfl rfl hl.1 rfl (lv_room (Nat.le_of_ble_eq_true rfl)) dL_isGraph_29 ⟨Nat.zero_le _, Nat.zero_le _⟩) ?_
        rw [hns a]
        refine lv_aload_n hx hb dL_isGraph_32 rfl (lv_at hl 0 rfl) ?_
        have hPc := hP.sub (ws' := (XW xo g lb se tl ts (bI false) ++ (GW cJ g gA (nI n) (nI 0) ns ++ (LW cI cJ lb aR aV aH aD aP rk vb rc hs D Pp)))) [0, 1, 2, 3, 4, 5, 6, 7, 8] rfl
        refine x_ri (W.runV (As := []) (rest := [.long (0 : Int64)]) ⟨hx, hb, hml, hown, hts⟩ (c_vertices l dG cI cJ xo tl ts false se g gA n 0 ns lb aR aV aH aD aP rk vb rc hs D Pp hn) (cwV 0 hts gL_isGraph_X3_vertices rfl rfl rfl (by decide +kernel) ⟨Nat.le_of_ble_eq_true rfl, Nat.le_of_ble_eq_true rfl⟩) (RPc.pre hPc hK (va_recv hK.1 hPc (ci := 3) (q0 := 0) rfl rfl)) rfl rfl hl.1 rfl (lv_room (Nat.le_of_ble_eq_true rfl)) dL_isGraph_33 ⟨Nat.zero_le _, Nat.zero_le _⟩) ?_
        refine lv_lshr (v := ((0 : Int64) >>> ((nI n).toInt64 &&& 63))) hx hb dL_isGraph_36 rfl ?_
        rw [show ((0 : Int64) >>> ((nI n).toInt64 &&& 63)) = (0 : Int64) from zshr n]
        refine lv_lconst (v := 0) hx hb dL_isGraph_37 rfl ?_
        refine W.lcmp hx hb dL_isGraph_38 ?_
        rw [show lg_cmp (0 : Int64) 0 = (nI 0) from by decide +kernel]
        refine lv_if_ne (tgt := 46) hx hb dL_isGraph_39 (by decide) (fun h9 => absurd rfl h9) (fun _ => ?_)
        refine lv_iconst (v := (nI 1)) hx hb dL_isGraph_42 (by decide) ?_
        refine lv_goto (tgt := 47) hx hb dL_isGraph_43 (by decide) ?_
        refine lv_istore_n (lv' := [(2, .int (nI 1)), (0, .ref xo), (1, .int (nI 0)), (3, .int (nI a))]) hx hb dL_isGraph_47 rfl hl (by decide) rfl (fun ls hl => ?_)
        refine lv_iconst (v := (nI 0)) hx hb dL_isGraph_48 (by decide) ?_
        refine lv_istore (lv' := [(4, .int (nI 0)), (2, .int (nI 1)), (0, .ref xo), (1, .int (nI 0)), (3, .int (nI a))]) hx hb dL_isGraph_49 hl (by decide) rfl (fun ls hl => ?_)
        have hl : lv_has ls 5 [(4, .int (nI 0)), (2, .int (bI true)), (0, .ref xo), (1, .int (nI 0)), (3, .int (nI a))] := by exact hl
        have loop2 : ∀ (QQ : State → Prop) (n2 : Nat) (a b : Nat), n < b + n2 → b ≤ n → a < n → (∀ ls : Array Slot, lv_has ls 5 [(0, .ref xo), (1, .int (nI 0)), (2, .int (bI true)), (3, .int (nI a))] → W p l e ({ frames := 4, cells := 0, slots := 0, locals := 85 } : Room) s m ([.ref xo] : List Value).toArray below meth c s.heap [] 0 0 QQ (F0 m 111 ls [])) → ∀ ls : Array Slot, lv_has ls 5 [(0, .ref xo), (1, .int (nI 0)), (2, .int (bI true)), (3, .int (nI a)), (4, .int (nI b))] → W p l e ({ frames := 4, cells := 0, slots := 0, locals := 85 } : Room) s m ([.ref xo] : List Value).toArray below meth c s.heap [] 0 0 QQ (F0 m 51 ls []) := by
          intro QQ n2
          induction n2 with
          | zero => intro a b h1 h2 h3; exact absurd h1 (by omega)
          | succ n2 ih =>
            intro a b h1 h2 h3 kx2 ls hl
            refine lv_iload hx hb dL_isGraph_51 (lv_at hl 4 rfl) ?_
            refine lv_aload_n hx hb dL_isGraph_53 rfl (lv_at hl 0 rfl) ?_
            have hPc := hP.sub (ws' := (XW xo g lb se tl ts (bI false) ++ (GW cJ g gA (nI n) (nI 0) ns ++ (LW cI cJ lb aR aV aH aD aP rk vb rc hs D Pp)))) [0, 1, 2, 3, 4, 5, 6, 7, 8] rfl
            refine x_ri (W.runV (As := []) (rest := [.int (nI b)]) ⟨hx, hb, hml, hown, hts⟩ (c_vertices l dG cI cJ xo tl ts false se g gA n 0 ns lb aR aV aH aD aP rk vb rc hs D Pp hn) (cwV 0 hts gL_isGraph_X3_vertices rfl rfl rfl (by decide +kernel) ⟨Nat.le_of_ble_eq_true rfl, Nat.le_of_ble_eq_true rfl⟩) (RPc.pre hPc hK (va_recv hK.1 hPc (ci := 3) (q0 := 0) rfl rfl)) rfl rfl hl.1 rfl (lv_room (Nat.le_of_ble_eq_true rfl)) dL_isGraph_54 ⟨Nat.zero_le _, Nat.zero_le _⟩) ?_
            refine x_icmp_geN (i := b) (j := n) (tgt := 111) hx hb (by omega) (by omega) dL_isGraph_57 (by decide) (fun c57 => ?_) (fun c57 => ?_)
            · skip
              exact kx2  ls (lv_sub hl [0, 1, 2, 3] rfl)
            · skip
              refine lv_iload_n hx hb dL_isGraph_60 rfl (lv_at hl 2 rfl) ?_
              refine x_ifeqB (tgt := 111) hx hb dL_isGraph_61 (by decide) (fun h9 => absurd h9 (by decide)) (fun h9 => ?_)
              refine lv_iload_n hx hb dL_isGraph_64 rfl (lv_at hl 1 rfl) ?_
              refine lv_aload_n hx hb dL_isGraph_65 rfl (lv_at hl 0 rfl) ?_
              refine lv_iload_n hx hb dL_isGraph_66 rfl (lv_at hl 3 rfl) ?_
              refine lv_iload hx hb dL_isGraph_67 (lv_at hl 4 rfl) ?_
              have hPc := hP.sub (ws' := (XW xo g lb se tl ts (bI false) ++ (GW cJ g gA (nI n) (nI 0) ns ++ (LW cI cJ lb aR aV aH aD aP rk vb rc hs D Pp ++ (SW cI g lb se qa qb qc qv qd qp ql qs vi pr wr))))) [0, 1, 2, 3, 4, 5, 6, 7, 8, 9, 10, 11, 12] rfl
              refine x_ri (W.runS (As := [.ref xo, .int (nI a), .int (nI b)]) (rest := [.int (nI 0)]) ⟨hx, hb, hml, hown, hts⟩ (r_isNear l dG cI cJ xo tl ts se lb g gA n ns aR aV aH aD aP rk vb rc hs D Pp qa qb qc qv qd qp ql qs vi pr wr hn hns a b (by omega) (by omega)) (va_cwS 3 hts gL_isGraph_L_isNear rfl rfl rfl (by decide +kernel) ⟨Nat.le_of_ble_eq_true rfl, Nat.le_of_ble_eq_true rfl⟩) (RPc.preS hPc hK) rfl rfl hl.1 rfl (lv_room (Nat.le_of_ble_eq_true rfl)) dL_isGraph_69 ⟨Nat.zero_le _, Nat.zero_le _⟩) ?_
              refine x_ifeqB (tgt := 79) hx hb dL_isGraph_72 (by decide) (fun h9 => ?_) (fun h9 => absurd h9 (by decide))
              refine lv_iconst (v := (nI 0)) hx hb dL_isGraph_79 (by decide) ?_
              refine lv_iadd hx hb dL_isGraph_80 ?_
              rw [show (nI 0) + (nI 0) = (nI 0) from by decide +kernel]
              refine lv_istore_n (lv' := [(1, .int (nI 0)), (0, .ref xo), (2, .int (bI true)), (3, .int (nI a)), (4, .int (nI b))]) hx hb dL_isGraph_81 rfl hl (by decide) rfl (fun ls hl => ?_)
              refine lv_aload_n hx hb dL_isGraph_82 rfl (lv_at hl 1 rfl) ?_
              refine lv_iload_n hx hb dL_isGraph_83 rfl (lv_at hl 3 rfl) ?_
              refine lv_iload hx hb dL_isGraph_84 (lv_at hl 4 rfl) ?_
              have hPc := hP.sub (ws' := (XW xo g lb se tl ts (bI false) ++ (GW cJ g gA (nI n) (nI 0) ns ++ (LW cI cJ lb aR aV aH aD aP rk vb rc hs D Pp ++ (SW cI g lb se qa qb qc qv qd qp ql qs vi pr wr))))) [0, 1, 2, 3, 4, 5, 6, 7, 8, 9, 10, 11, 12] rfl
              refine x_ri (W.runS (As := [.ref xo, .int (nI a), .int (nI b)]) (rest := []) ⟨hx, hb, hml, hown, hts⟩ (r_isNear l dG cI cJ xo tl ts se lb g gA n ns aR aV aH aD aP rk vb rc hs D Pp qa qb qc qv qd qp ql qs vi pr wr hn hns a b (by omega) (by omega)) (va_cwS 3 hts gL_isGraph_L_isNear rfl rfl rfl (by decide +kernel) ⟨Nat.le_of_ble_eq_true rfl, Nat.le_of_ble_eq_true rfl⟩) (RPc.preS hPc hK) rfl rfl hl.1 rfl (lv_room (Nat.le_of_ble_eq_true rfl)) dL_isGraph_86 ⟨Nat.zero_le _, Nat.zero_le _⟩) ?_
              refine lv_aload_n hx hb dL_isGraph_89 rfl (lv_at hl 1 rfl) ?_
              refine lv_iload hx hb dL_isGraph_90 (lv_at hl 4 rfl) ?_
              refine lv_iload_n hx hb dL_isGraph_92 rfl (lv_at hl 3 rfl) ?_
              have hPc := hP.sub (ws' := (XW xo g lb se tl ts (bI false) ++ (GW cJ g gA (nI n) (nI 0) ns ++ (LW cI cJ lb aR aV aH aD aP rk vb rc hs D Pp ++ (SW cI g lb se qa qb qc qv qd qp ql qs vi pr wr))))) [0, 1, 2, 3, 4, 5, 6, 7, 8, 9, 10, 11, 12] rfl
              refine x_ri (W.runS (As := [.ref xo, .int (nI b), .int (nI a)]) (rest := [.int (bI false)]) ⟨hx, hb, hml, hown, hts⟩ (r_isNear l dG cI cJ xo tl ts se lb g gA n ns aR aV aH aD aP rk vb rc hs D Pp qa qb qc qv qd qp ql qs vi pr wr hn hns b a (by omega) (by omega)) (va_cwS 3 hts gL_isGraph_L_isNear rfl rfl rfl (by decide +kernel) ⟨Nat.le_of_ble_eq_true rfl, Nat.le_of_ble_eq_true rfl⟩) (RPc.preS hPc hK) rfl rfl hl.1 rfl (lv_room (Nat.le_of_ble_eq_true rfl)) dL_isGraph_93 ⟨Nat.zero_le _, Nat.zero_le _⟩) ?_
              refine lv_icmp_ne (tgt := 103) hx hb dL_isGraph_96 (by decide) (fun h9 => (show False by revert h9; decide +kernel).elim) (fun _ => ?_)
              refine lv_iconst (v := (nI 1)) hx hb dL_isGraph_99 (by decide) ?_
              refine lv_goto (tgt := 104) hx hb dL_isGraph_100 (by decide) ?_
              refine lv_istore_n (lv' := [(2, .int (nI 1)), (1, .int (nI 0)), (0, .ref xo), (3, .int (nI a)), (4, .int (nI b))]) hx hb dL_isGraph_104 rfl hl (by decide) rfl (fun ls hl => ?_)
              refine x_iincN (lv' := [(4, .int (nI (b + 1))), (2, .int (nI 1)), (1, .int (nI 0)), (0, .ref xo), (3, .int (nI a))]) hx hb dL_isGraph_105 hl (k := 4) rfl (by decide) rfl (fun ls hl => ?_)
              refine lv_goto (tgt := 51) hx hb dL_isGraph_108 (by decide) ?_
              have hl : lv_has ls 5 [(4, .int (nI (b + 1))), (2, .int (bI true)), (1, .int (nI 0)), (0, .ref xo), (3, .int (nI a))] := by exact hl
              exact ih a (b + 1) (by omega) (by omega) (by omega) kx2 ls (lv_sub hl [3, 2, 1, 4, 0] rfl)
        refine loop2 _ 49 a 0 (by omega) (by omega) (by omega) (fun  ls hl => ?_) ls (lv_sub hl [2, 3, 1, 4, 0] rfl)
        refine x_iincN (lv' := [(3, .int (nI (a + 1))), (0, .ref xo), (1, .int (nI 0)), (2, .int (bI true))]) hx hb dL_isGraph_111 hl (k := 3) rfl (by decide) rfl (fun ls hl => ?_)
        refine lv_goto (tgt := 6) hx hb dL_isGraph_114 (by decide) ?_
        exact ih (a + 1) (by omega) (by omega) kx ls (lv_sub hl [1, 2, 3, 0] rfl)
  refine loop _ 49 0 (by omega) (by omega) (fun  ls hl => ?_) ls (lv_sub hl [3, 2, 1, 0] rfl)
  refine lv_iload_n hx hb dL_isGraph_117 rfl (lv_at hl 2 rfl) ?_
  refine x_ifeqB (tgt := 135) hx hb dL_isGraph_118 (by decide) (fun h9 => absurd h9 (by decide)) (fun h9 => ?_)
  refine lv_iload_n hx hb dL_isGraph_121 rfl (lv_at hl 1 rfl) ?_
  refine lv_iconst (v := (nI 2)) hx hb dL_isGraph_122 (by decide) ?_
  refine lv_aload_n hx hb dL_isGraph_123 rfl (lv_at hl 0 rfl) ?_
  have hPc := hP.sub (ws' := (XW xo g lb se tl ts (bI false) ++ (GW cJ g gA (nI n) (nI 0) ns ++ (LW cI cJ lb aR aV aH aD aP rk vb rc hs D Pp)))) [0, 1, 2, 3, 4, 5, 6, 7, 8] rfl
  refine x_ri (W.runV (As := []) (rest := [.int (nI 2), .int (nI 0)]) ⟨hx, hb, hml, hown, hts⟩ (c_edges l dG cI cJ xo tl ts false se g gA n 0 ns lb aR aV aH aD aP rk vb rc hs D Pp hn) (cwV 0 hts gL_isGraph_X3_edges rfl rfl rfl (by decide +kernel) ⟨Nat.le_of_ble_eq_true rfl, Nat.le_of_ble_eq_true rfl⟩) (RPc.pre hPc hK (va_recv hK.1 hPc (ci := 3) (q0 := 0) rfl rfl)) rfl rfl hl.1 rfl (lv_room (Nat.le_of_ble_eq_true rfl)) dL_isGraph_124 ⟨Nat.zero_le _, Nat.zero_le _⟩) ?_
  refine lv_imul hx hb dL_isGraph_127 ?_
  rw [show (nI 2) * (nI 0) = (nI 0) from by decide +kernel]
  refine lv_icmp_ne (tgt := 135) hx hb dL_isGraph_128 (by decide) (fun h9 => (show False by revert h9; decide +kernel).elim) (fun _ => ?_)
  refine lv_iconst (v := (nI 1)) hx hb dL_isGraph_131 (by decide) ?_
  refine lv_goto (tgt := 136) hx hb dL_isGraph_132 (by decide) ?_
  exact W.zret (v := (nI 1)) (ty := .boolean) hx hb hr (by decide) (fun t ht hW => ⟨_, rfl, rfl, ht⟩) (fun _ h => nomatch h) dL_isGraph_136

set_option maxHeartbeats 4000000 in
set_option maxRecDepth 100000 in
theorem r_graph (l : Launch) (dG : va_G) (cI cJ : ClassId) (xo tl ts se lb g gA n : Nat) (ns : Nat → Int64) (aR aV aH aD aP : Nat) (rk vb : Nat → Int32) (rc : Int32) (hs : Nat → Int64) (D Pp : Nat → Int32) (qa qb qc : Nat) (qv qd qp : Nat → Int32) (ql : Int32) (qs : Int64) (vi pr wr : Int32) (hn : n ≤ 48) (hns : ∀ v, ns v = 0) : Met l yL_graph wsL_graph ({ frames := 3, cells := 0, slots := 0, locals := 63 } : Room) (RPc dG cI cJ [.ref xo] (XW xo g lb se tl ts (bI false) ++ (GW cJ g gA (nI n) (nI 0) ns ++ (LW cI cJ lb aR aV aH aD aP rk vb rc hs D Pp ++ (SW cI g lb se qa qb qc qv qd qp ql qs vi pr wr))))) (vp_Sl (fun r9 => r9 = (gph n pr wr))) 0 0 (fun _ => False) := by
  refine Met.ofW (cc := cL_graph) (maxL := 4) (ret := (some .long)) (by decide) rfl ?_
  intro p e s m args below meth c s₁ B9 hml hv
  obtain ⟨rfl, hP, hK⟩ := hv
  have hx := B9.exec
  have hb := B9.bytes
  have hr := B9.returns
  have hts := atoms_spec (ws := wsL_graph) B9.pre
  have hown : s.vm.findClass RL = some m.cls := findClass_of_methodNamed B9.named
  have hlocks := B9.notSynchronized
  have hl := lv_entry ([.ref xo]) (n := 4) (Nat.le_of_ble_eq_true rfl)
  rw [lg_entry_eq]
  generalize (lg_sl ([.ref xo]) ++ List.replicate (4 - (lg_sl ([.ref xo])).length) Slot.unset).toArray = ls at hl ⊢
  have hl : lv_has ls 4 [(0, .ref xo)] := hl
  refine lv_ldc2 hx hb hown (hts (.constantLong RL 83 (31)) (by decide +kernel)) dL_graph_0 ?_
  refine lv_aload_n hx hb dL_graph_3 rfl (lv_at hl 0 rfl) ?_
  have hPc := hP.sub (ws' := (XW xo g lb se tl ts (bI false) ++ (GW cJ g gA (nI n) (nI 0) ns ++ (LW cI cJ lb aR aV aH aD aP rk vb rc hs D Pp)))) [0, 1, 2, 3, 4, 5, 6, 7, 8] rfl
  refine x_ri (W.runV (As := []) (rest := [.long (31)]) ⟨hx, hb, hml, hown, hts⟩ (c_vertices l dG cI cJ xo tl ts false se g gA n 0 ns lb aR aV aH aD aP rk vb rc hs D Pp hn) (cwV 0 hts gL_graph_X3_vertices rfl rfl rfl (by decide +kernel) ⟨Nat.le_of_ble_eq_true rfl, Nat.le_of_ble_eq_true rfl⟩) (RPc.pre hPc hK (va_recv hK.1 hPc (ci := 3) (q0 := 0) rfl rfl)) rfl rfl hl.1 rfl (lv_room (Nat.le_of_ble_eq_true rfl)) dL_graph_4 ⟨Nat.zero_le _, Nat.zero_le _⟩) ?_
  refine lv_i2l (v := (nI n).toInt64) hx hb dL_graph_7 rfl ?_
  refine lv_lmul hx hb dL_graph_8 ?_
  refine lv_ldc2 hx hb hown (hts (.constantLong RL 85 (7)) (by decide +kernel)) dL_graph_9 ?_
  refine lv_aload_n hx hb dL_graph_12 rfl (lv_at hl 0 rfl) ?_
  have hPc := hP.sub (ws' := (XW xo g lb se tl ts (bI false) ++ (GW cJ g gA (nI n) (nI 0) ns ++ (LW cI cJ lb aR aV aH aD aP rk vb rc hs D Pp)))) [0, 1, 2, 3, 4, 5, 6, 7, 8] rfl
  refine x_ri (W.runV (As := []) (rest := [.long (7), .long ((31) * ((nI n).toInt64))]) ⟨hx, hb, hml, hown, hts⟩ (c_edges l dG cI cJ xo tl ts false se g gA n 0 ns lb aR aV aH aD aP rk vb rc hs D Pp hn) (cwV 0 hts gL_graph_X3_edges rfl rfl rfl (by decide +kernel) ⟨Nat.le_of_ble_eq_true rfl, Nat.le_of_ble_eq_true rfl⟩) (RPc.pre hPc hK (va_recv hK.1 hPc (ci := 3) (q0 := 0) rfl rfl)) rfl rfl hl.1 rfl (lv_room (Nat.le_of_ble_eq_true rfl)) dL_graph_13 ⟨Nat.zero_le _, Nat.zero_le _⟩) ?_
  refine lv_i2l (v := (nI 0).toInt64) hx hb dL_graph_16 rfl ?_
  refine lv_lmul hx hb dL_graph_17 ?_
  refine lv_ladd hx hb dL_graph_18 ?_
  refine lv_aload_n hx hb dL_graph_19 rfl (lv_at hl 0 rfl) ?_
  have hPc := hP.sub (ws' := (XW xo g lb se tl ts (bI false) ++ (GW cJ g gA (nI n) (nI 0) ns ++ (LW cI cJ lb aR aV aH aD aP rk vb rc hs D Pp)))) [0, 1, 2, 3, 4, 5, 6, 7, 8] rfl
  refine x_ri (W.runV (As := []) (rest := [.long (((31) * ((nI n).toInt64)) + ((7) * ((nI 0).toInt64)))]) ⟨hx, hb, hml, hown, hts⟩ (c_isBuilt l dG cI cJ xo tl ts false se g gA n 0 ns lb aR aV aH aD aP rk vb rc hs D Pp hn) (cwV 0 hts gL_graph_X3_isBuilt rfl rfl rfl (by decide +kernel) ⟨Nat.le_of_ble_eq_true rfl, Nat.le_of_ble_eq_true rfl⟩) (RPc.pre hPc hK (va_recv hK.1 hPc (ci := 3) (q0 := 0) rfl rfl)) rfl rfl hl.1 rfl (lv_room (Nat.le_of_ble_eq_true rfl)) dL_graph_20 ⟨Nat.zero_le _, Nat.zero_le _⟩) ?_
  refine x_ifeqB (tgt := 32) hx hb dL_graph_23 (by decide) (fun h9 => ?_) (fun h9 => absurd h9 (by decide))
  refine lv_lconst (v := 0) hx hb dL_graph_32 rfl ?_
  refine lv_ladd hx hb dL_graph_33 ?_
  refine lv_ldc2 hx hb hown (hts (.constantLong RL 93 (101)) (by decide +kernel)) dL_graph_34 ?_
  refine lv_aload_n hx hb dL_graph_37 rfl (lv_at hl 0 rfl) ?_
  have hPc := hP.sub (ws' := (XW xo g lb se tl ts (bI false) ++ (SW cI g lb se qa qb qc qv qd qp ql qs vi pr wr))) [0, 9, 10, 11, 12] rfl
  refine x_ri (W.runV (As := []) (rest := [.long (101), .long ((((31) * ((nI n).toInt64)) + ((7) * ((nI 0).toInt64))) + 0)]) ⟨hx, hb, hml, hown, hts⟩ (c_pruned l dG cI cJ xo tl ts false qa qb qc qv qd qp ql qs vi pr wr g lb se) (cwV 0 hts gL_graph_X3_pruned rfl rfl rfl (by decide +kernel) ⟨Nat.le_of_ble_eq_true rfl, Nat.le_of_ble_eq_true rfl⟩) (RPc.pre hPc hK (va_recv hK.1 hPc (ci := 3) (q0 := 0) rfl rfl)) rfl rfl hl.1 rfl (lv_room (Nat.le_of_ble_eq_true rfl)) dL_graph_38 ⟨Nat.zero_le _, Nat.zero_le _⟩) ?_
  refine lv_i2l (v := pr.toInt64) hx hb dL_graph_41 rfl ?_
  refine lv_lmul hx hb dL_graph_42 ?_
  refine lv_ladd hx hb dL_graph_43 ?_
  refine lv_ldc2 hx hb hown (hts (.constantLong RL 98 (10007)) (by decide +kernel)) dL_graph_44 ?_
  refine lv_aload_n hx hb dL_graph_47 rfl (lv_at hl 0 rfl) ?_
  have hPc := hP.sub (ws' := (XW xo g lb se tl ts (bI false) ++ (SW cI g lb se qa qb qc qv qd qp ql qs vi pr wr))) [0, 9, 10, 11, 12] rfl
  refine x_ri (W.runV (As := []) (rest := [.long (10007), .long (((((31) * ((nI n).toInt64)) + ((7) * ((nI 0).toInt64))) + 0) + ((101) * pr.toInt64))]) ⟨hx, hb, hml, hown, hts⟩ (c_written l dG cI cJ xo tl ts false qa qb qc qv qd qp ql qs vi pr wr g lb se) (cwV 0 hts gL_graph_X3_written rfl rfl rfl (by decide +kernel) ⟨Nat.le_of_ble_eq_true rfl, Nat.le_of_ble_eq_true rfl⟩) (RPc.pre hPc hK (va_recv hK.1 hPc (ci := 3) (q0 := 0) rfl rfl)) rfl rfl hl.1 rfl (lv_room (Nat.le_of_ble_eq_true rfl)) dL_graph_48 ⟨Nat.zero_le _, Nat.zero_le _⟩) ?_
  refine lv_i2l (v := wr.toInt64) hx hb dL_graph_51 rfl ?_
  refine lv_lmul hx hb dL_graph_52 ?_
  refine lv_ladd hx hb dL_graph_53 ?_
  rw [show ((((((31) * ((nI n).toInt64)) + ((7) * ((nI 0).toInt64))) + 0) + ((101) * pr.toInt64)) + ((10007) * wr.toInt64)) = gph0 n pr wr from rfl]
  refine lv_lstore_n (lv' := [(1, .long (gph0 n pr wr)), (0, .ref xo)]) hx hb dL_graph_54 rfl hl (by decide) rfl (fun ls hl => ?_)
  refine lv_iconst (v := (nI 0)) hx hb dL_graph_55 (by decide) ?_
  refine lv_istore_n (lv' := [(3, .int (nI 0)), (1, .long (gph0 n pr wr)), (0, .ref xo)]) hx hb dL_graph_56 rfl hl (by decide) rfl (fun ls hl => ?_)
  have hl : lv_has ls 4 [(3, .int (nI 0)), (1, .long (gphR (gph0 n pr wr) 0)), (0, .ref xo)] := by exact hl
  have loop : ∀ (QQ : State → Prop) (n1 : Nat) (k : Nat), n < k + n1 → k ≤ n → (∀ ls : Array Slot, lv_has ls 4 [(0, .ref xo), (1, .long (gphR (gph0 n pr wr) n)), (3, .int (nI n))] → W p l e ({ frames := 3, cells := 0, slots := 0, locals := 63 } : Room) s m ([.ref xo] : List Value).toArray below meth c s.heap [] 0 0 QQ (F0 m 83 ls [])) → ∀ ls : Array Slot, lv_has ls 4 [(0, .ref xo), (1, .long (gphR (gph0 n pr wr) k)), (3, .int (nI k))] → W p l e ({ frames := 3, cells := 0, slots := 0, locals := 63 } : Room) s m ([.ref xo] : List Value).toArray below meth c s.heap [] 0 0 QQ (F0 m 57 ls []) := by
    intro QQ n1
    induction n1 with
    | zero => intro k h1 h2; exact absurd h1 (by omega)
    | succ n1 ih =>
      intro k h1 h2 kx ls hl
      refine lv_iload_n hx hb dL_graph_57 rfl (lv_at hl 2 rfl) ?_
      refine lv_aload_n hx hb dL_graph_58 rfl (lv_at hl 0 rfl) ?_
      have hPc := hP.sub (ws' := (XW xo g lb se tl ts (bI false) ++ (GW cJ g gA (nI n) (nI 0) ns ++ (LW cI cJ lb aR aV aH aD aP rk vb rc hs D Pp)))) [0, 1, 2, 3, 4, 5, 6, 7, 8] rfl
      refine x_ri (W.runV (As := []) (rest := [.int (nI k)]) ⟨hx, hb, hml, hown, hts⟩ (c_vertices l dG cI cJ xo tl ts false se g gA n 0 ns lb aR aV aH aD aP rk vb rc hs D Pp hn) (cwV 0 hts gL_graph_X3_vertices rfl rfl rfl (by decide +kernel) ⟨Nat.le_of_ble_eq_true rfl, Nat.le_of_ble_eq_true rfl⟩) (RPc.pre hPc hK (va_recv hK.1 hPc (ci := 3) (q0 := 0) rfl rfl)) rfl rfl hl.1 rfl (lv_room (Nat.le_of_ble_eq_true rfl)) dL_graph_59 ⟨Nat.zero_le _, Nat.zero_le _⟩) ?_
      refine x_icmp_geN (i := k) (j := n) (tgt := 83) hx hb (by omega) (by omega) dL_graph_62 (by decide) (fun c62 => ?_) (fun c62 => ?_)
      · skip
        have ek : k = n := by omega
        subst ek
        exact kx  ls (lv_sub hl [0, 1, 2] rfl)
      · skip
        refine lv_ldc2 hx hb hown (hts (.constantLong RL 103 (1000003)) (by decide +kernel)) dL_graph_65 ?_
        refine lv_lload_n hx hb dL_graph_68 rfl (lv_at hl 1 rfl) ?_
        refine lv_lmul hx hb dL_graph_69 ?_
        refine lv_aload_n hx hb dL_graph_70 rfl (lv_at hl 0 rfl) ?_
        refine lv_iload_n hx hb dL_graph_71 rfl (lv_at hl 2 rfl) ?_
        have hPc := hP.sub (ws' := (XW xo g lb se tl ts (bI false) ++ (GW cJ g gA (nI n) (nI 0) ns ++ (LW cI cJ lb aR aV aH aD aP rk vb rc hs D Pp)))) [0, 1, 2, 3, 4, 5, 6, 7, 8] rfl
        refine x_rl (W.runV (As := [.int (nI k)]) (rest := [.long ((1000003) * (gphR (gph0 n pr wr) k))]) ⟨hx, hb, hml, hown, hts⟩ (c_neighbours l dG cI cJ xo tl ts false se g gA n 0 ns lb aR aV aH aD aP rk vb rc hs D Pp hn k (by omega)) (cwV 1 hts gL_graph_X3_neighbours rfl rfl rfl (by decide +kernel) ⟨Nat.le_of_ble_eq_true rfl, Nat.le_of_ble_eq_true rfl⟩) (RPc.pre hPc hK (va_recv hK.1 hPc (ci := 3) (q0 := 0) rfl rfl)) rfl rfl hl.1 rfl (lv_room (Nat.le_of_ble_eq_true rfl)) dL_graph_72 ⟨Nat.zero_le _, Nat.zero_le _⟩) ?_
        rw [hns k]
        refine lv_ladd hx hb dL_graph_75 ?_
        refine lv_lstore_n (lv' := [(1, .long (((1000003) * (gphR (gph0 n pr wr) k)) + (0 : Int64))), (0, .ref xo), (3, .int (nI k))]) hx hb dL_graph_76 rfl hl (by decide) rfl (fun ls hl => ?_)
        refine x_iincN (lv' := [(3, .int (nI (k + 1))), (1, .long (((1000003) * (gphR (gph0 n pr wr) k)) + (0 : Int64))), (0, .ref xo)]) hx hb dL_graph_77 hl (k := 2) rfl (by decide) rfl (fun ls hl => ?_)
        refine lv_goto (tgt := 57) hx hb dL_graph_80 (by decide) ?_
        have hl : lv_has ls 4 [(3, .int (nI (k + 1))), (1, .long (gphR (gph0 n pr wr) (k + 1))), (0, .ref xo)] := by exact hl
        exact ih (k + 1) (by omega) (by omega) kx ls (lv_sub hl [2, 1, 0] rfl)
  refine loop _ 49 0 (by omega) (by omega) (fun  ls hl => ?_) ls (lv_sub hl [2, 1, 0] rfl)
  refine lv_lload_n hx hb dL_graph_83 rfl (lv_at hl 1 rfl) ?_
  exact W.lret (v := (gphR (gph0 n pr wr) n)) hx hb hr (fun t ht hW => ⟨_, rfl, rfl, ht⟩) (fun _ h => nomatch h) dL_graph_84

set_option maxHeartbeats 4000000 in
set_option maxRecDepth 100000 in
theorem r_labels (l : Launch) (dG : va_G) (cI cJ : ClassId) (xo tl ts se lb g gA n : Nat) (ns : Nat → Int64) (aR aV aH aD aP : Nat) (rk vb : Nat → Int32) (rc : Int32) (hs : Nat → Int64) (D Pp : Nat → Int32) (qa qb qc : Nat) (qv qd qp : Nat → Int32) (ql : Int32) (qs : Int64) (vi pr wr : Int32) (hn : n ≤ 48) (hns : ∀ v, ns v = 0) : Met l yL_labels wsL_labels ({ frames := 4, cells := 0, slots := 0, locals := 84 } : Room) (RPc dG cI cJ [.ref xo] (XW xo g lb se tl ts (bI false) ++ (GW cJ g gA (nI n) (nI 0) ns ++ (LW cI cJ lb aR aV aH aD aP rk vb rc hs D Pp ++ (SW cI g lb se qa qb qc qv qd qp ql qs vi pr wr))))) (vp_Sl (fun r9 => r9 = ((nI 0).toInt64))) 0 0 (fun _ => False) := by
  refine Met.ofW (cc := cL_labels) (maxL := 5) (ret := (some .long)) (by decide) rfl ?_
  intro p e s m args below meth c s₁ B9 hml hv
  obtain ⟨rfl, hP, hK⟩ := hv
  have hx := B9.exec
  have hb := B9.bytes
  have hr := B9.returns
  have hts := atoms_spec (ws := wsL_labels) B9.pre
  have hown : s.vm.findClass RL = some m.cls := findClass_of_methodNamed B9.named
  have hlocks := B9.notSynchronized
  have hl := lv_entry ([.ref xo]) (n := 5) (Nat.le_of_ble_eq_true rfl)
  rw [lg_entry_eq]
  generalize (lg_sl ([.ref xo]) ++ List.replicate (5 - (lg_sl ([.ref xo])).length) Slot.unset).toArray = ls at hl ⊢
  have hl : lv_has ls 5 [(0, .ref xo)] := hl
  refine lv_aload_n hx hb dL_labels_0 rfl (lv_at hl 0 rfl) ?_
  have hPc := hP.sub (ws' := (XW xo g lb se tl ts (bI false) ++ (GW cJ g gA (nI n) (nI 0) ns ++ (LW cI cJ lb aR aV aH aD aP rk vb rc hs D Pp)))) [0, 1, 2, 3, 4, 5, 6, 7, 8] rfl
  refine x_ri (W.runV (As := []) (rest := []) ⟨hx, hb, hml, hown, hts⟩ (c_entriesU l dG cI cJ xo tl ts false se g gA n 0 ns lb aR aV aH aD aP rk vb rc hs D Pp hn rfl) (cwV 0 hts gL_labels_X3_entries rfl rfl rfl (by decide +kernel) ⟨Nat.le_of_ble_eq_true rfl, Nat.le_of_ble_eq_true rfl⟩) (RPc.pre hPc hK (va_recv hK.1 hPc (ci := 3) (q0 := 0) rfl rfl)) rfl rfl hl.1 rfl (lv_room (Nat.le_of_ble_eq_true rfl)) dL_labels_1 ⟨Nat.zero_le _, Nat.zero_le _⟩) ?_
  refine lv_i2l (v := (nI 0).toInt64) hx hb dL_labels_4 rfl ?_
  refine lv_lstore_n (lv' := [(1, .long ((nI 0).toInt64)), (0, .ref xo)]) hx hb dL_labels_5 rfl hl (by decide) rfl (fun ls hl => ?_)
  refine lv_iconst (v := (nI 0)) hx hb dL_labels_6 (by decide) ?_
  refine lv_istore_n (lv' := [(3, .int (nI 0)), (1, .long ((nI 0).toInt64)), (0, .ref xo)]) hx hb dL_labels_7 rfl hl (by decide) rfl (fun ls hl => ?_)
  refine lv_iload_n hx hb dL_labels_8 rfl (lv_at hl 0 rfl) ?_
  refine lv_aload_n hx hb dL_labels_9 rfl (lv_at hl 2 rfl) ?_
  have hPc := hP.sub (ws' := (XW xo g lb se tl ts (bI false) ++ (GW cJ g gA (nI n) (nI 0) ns ++ (LW cI cJ lb aR aV aH aD aP rk vb rc hs D Pp)))) [0, 1, 2, 3, 4, 5, 6, 7, 8] rfl
  refine x_ri (W.runV (As := []) (rest := [.int (nI 0)]) ⟨hx, hb, hml, hown, hts⟩ (c_vertices l dG cI cJ xo tl ts false se g gA n 0 ns lb aR aV aH aD aP rk vb rc hs D Pp hn) (cwV 0 hts gL_labels_X3_vertices rfl rfl rfl (by decide +kernel) ⟨Nat.le_of_ble_eq_true rfl, Nat.le_of_ble_eq_true rfl⟩) (RPc.pre hPc hK (va_recv hK.1 hPc (ci := 3) (q0 := 0) rfl rfl)) rfl rfl hl.1 rfl (lv_room (Nat.le_of_ble_eq_true rfl)) dL_labels_10 ⟨Nat.zero_le _, Nat.zero_le _⟩) ?_
  refine x_icmp_geN (i := 0) (j := n) (tgt := 102) hx hb (by omega) (by omega) dL_labels_13 (by decide) (fun c13 => ?_) (fun c13 => ?_)
  · skip
    refine lv_lload_n hx hb dL_labels_102 rfl (lv_at hl 1 rfl) ?_
    exact W.lret (v := ((nI 0).toInt64)) hx hb hr (fun t ht hW => ⟨_, rfl, rfl, ht⟩) (fun _ h => nomatch h) dL_labels_103
  · skip
    refine lv_aload_n hx hb dL_labels_16 rfl (lv_at hl 2 rfl) ?_
    have hPc := hP.sub (ws' := (XW xo g lb se tl ts (bI false) ++ (GW cJ g gA (nI n) (nI 0) ns ++ (LW cI cJ lb aR aV aH aD aP rk vb rc hs D Pp)))) [0, 1, 2, 3, 4, 5, 6, 7, 8] rfl
    refine x_ri (W.runV (As := []) (rest := []) ⟨hx, hb, hml, hown, hts⟩ (c_isBuilt l dG cI cJ xo tl ts false se g gA n 0 ns lb aR aV aH aD aP rk vb rc hs D Pp hn) (cwV 0 hts gL_labels_X3_isBuilt rfl rfl rfl (by decide +kernel) ⟨Nat.le_of_ble_eq_true rfl, Nat.le_of_ble_eq_true rfl⟩) (RPc.pre hPc hK (va_recv hK.1 hPc (ci := 3) (q0 := 0) rfl rfl)) rfl rfl hl.1 rfl (lv_room (Nat.le_of_ble_eq_true rfl)) dL_labels_17 ⟨Nat.zero_le _, Nat.zero_le _⟩) ?_
    refine x_ifeqB (tgt := 102) hx hb dL_labels_20 (by decide) (fun h9 => ?_) (fun h9 => absurd h9 (by decide))
    refine lv_lload_n hx hb dL_labels_102 rfl (lv_at hl 1 rfl) ?_
    exact W.lret (v := ((nI 0).toInt64)) hx hb hr (fun t ht hW => ⟨_, rfl, rfl, ht⟩) (fun _ h => nomatch h) dL_labels_103
