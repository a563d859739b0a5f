/-! the start -/
theorem st_KK {s : State} {args : Array Value} (hts : ∀ w ∈ lw_tbl, w.before args s = true) : ∃ (dG : va_G) (cI cJ : ClassId), KK dG cI cJ s := by
  obtain ⟨c0, i0, hK0⟩ := u_known (C := RX0) (T := TX0) (N := 3) (n := 3) hts wlx_X0 (hts (.instantiable RX0 3) (by decide +kernel))
  obtain ⟨c1, i1, hK1⟩ := u_known (C := RX1) (T := TX1) (N := 6) (n := 6) hts wlx_X1 (hts (.instantiable RX1 6) (by decide +kernel))
  obtain ⟨c2, i2, hK2⟩ := u_known (C := RX2) (T := TX2) (N := 10) (n := 10) hts wlx_X2 (hts (.instantiable RX2 10) (by decide +kernel))
  obtain ⟨c3, i3, hK3⟩ := u_known (C := RX3) (T := TX3) (N := 6) (n := 6) hts wlx_X3 (hts (.instantiable RX3 6) (by decide +kernel))
  obtain ⟨cI, kI, pI, eI1, eI2, eI3⟩ := Cond.arrayClass_spec (hts (.arrayClass .int) (by decide +kernel))
  obtain ⟨cJ, kJ, pJ, eJ1, eJ2, eJ3⟩ := Cond.arrayClass_spec (hts (.arrayClass .long) (by decide +kernel))
  refine ⟨(fun k => if k = 0 then c0 else if k = 1 then c1 else if k = 2 then c2 else c3, fun k => if k = 0 then i0 else if k = 1 then i1 else if k = 2 then i2 else i3), cI, cJ, ⟨?_, ?_⟩, va_Nw.of rfl (hts _ (by decide +kernel)), va_Nw.of rfl (hts _ (by decide +kernel)), va_Nw.of rfl (hts _ (by decide +kernel)), va_Nw.of rfl (hts _ (by decide +kernel)), va_Nw.of rfl (hts _ (by decide +kernel)), va_Nw.of rfl (hts _ (by decide +kernel))⟩
  · intro k q hq
    match k, hq with
    | 0, hq => cases hq; exact hK0
    | 1, hq => cases hq; exact hK1
    | 2, hq => cases hq; exact hK2
    | 3, hq => cases hq; exact hK3
    | k + 4, hq => simp [vwCl] at hq
  · intro k q hq
    match k, hq with
    | 0, hq => cases hq; exact ⟨fun n z => ⟨fun k h => (by cases h), kI, eI2, pI, eI3⟩, eI1⟩
    | 1, hq => cases hq; exact ⟨fun n z => ⟨fun k h => (by cases h), kJ, eJ2, pJ, eJ3⟩, eJ1⟩
    | k + 2, hq => simp at hq
theorem st_vkR {s : State} {args : Array Value} (hts : ∀ w ∈ lw_tbl, w.before args s = true) {k : Nat} {tx : String} (h1 : Cond.stringRef RX3 k tx ∈ lw_tbl) (h2 : (Cond.exactly (.string RX3 k) "java/lang/String").before args s = true) : ∃ a, vk_R RX3 k tx a s := by
  obtain ⟨a, c, cell, kc, ha, -⟩ := Cond.exactly_spec h2
  exact ⟨a, vk_R.of (hts _ h1) ha⟩
theorem st_TK {s : State} {b : Nat} (hts : ∀ w ∈ lw_tbl, w.before #[Value.ref b] s = true) (hgv : (Jvm.Cond.and given_1 narrow_1).before #[Value.ref b] s = true) : TK s := by
  have hs := flat_of_before _ hgv
  refine ⟨⟨va_Nw.of rfl (hts _ (by decide +kernel)), va_Nw.of rfl (hts _ (by decide +kernel)), va_Nw.of rfl (hts _ (by decide +kernel))⟩, ?_, ?_, ?_⟩
  · exact List.forall_mem_cons.mpr ⟨va_Nw.of rfl (hts _ (by decide +kernel)), List.forall_mem_cons.mpr ⟨va_Nw.of rfl (hts _ (by decide +kernel)), List.forall_mem_cons.mpr ⟨va_Nw.of rfl (hts _ (by decide +kernel)), fun _ h => absurd h List.not_mem_nil⟩⟩⟩
  · exact List.forall_mem_cons.mpr ⟨List.forall_mem_cons.mpr ⟨fun h => absurd rfl h, List.forall_mem_cons.mpr ⟨fun _ => va_Nc.of (hs (.not (.castable exI exS)) (by decide +kernel)), List.forall_mem_cons.mpr ⟨fun _ => va_Nc.of (hs (.not (.castable exI exA)) (by decide +kernel)), fun _ h => absurd h List.not_mem_nil⟩⟩⟩, List.forall_mem_cons.mpr ⟨List.forall_mem_cons.mpr ⟨fun _ => va_Nc.of (hs (.not (.castable exS exI)) (by decide +kernel)), List.forall_mem_cons.mpr ⟨fun h => absurd rfl h, List.forall_mem_cons.mpr ⟨fun _ => va_Nc.of (hs (.not (.castable exS exA)) (by decide +kernel)), fun _ h => absurd h List.not_mem_nil⟩⟩⟩, List.forall_mem_cons.mpr ⟨List.forall_mem_cons.mpr ⟨fun _ => va_Nc.of (hs (.not (.castable exA exI)) (by decide +kernel)), List.forall_mem_cons.mpr ⟨fun _ => va_Nc.of (hs (.not (.castable exA exS)) (by decide +kernel)), List.forall_mem_cons.mpr ⟨fun h => absurd rfl h, fun _ h => absurd h List.not_mem_nil⟩⟩⟩, fun _ h => absurd h List.not_mem_nil⟩⟩⟩
  · exact List.forall_mem_cons.mpr ⟨st_vkR hts (by decide +kernel) (hs (.exactly (.string RX3 173) "java/lang/String") (by decide +kernel)), List.forall_mem_cons.mpr ⟨st_vkR hts (by decide +kernel) (hs (.exactly (.string RX3 165) "java/lang/String") (by decide +kernel)), List.forall_mem_cons.mpr ⟨st_vkR hts (by decide +kernel) (hs (.exactly (.string RX3 176) "java/lang/String") (by decide +kernel)), List.forall_mem_cons.mpr ⟨st_vkR hts (by decide +kernel) (hs (.exactly (.string RX3 178) "java/lang/String") (by decide +kernel)), List.forall_mem_cons.mpr ⟨st_vkR hts (by decide +kernel) (hs (.exactly (.string RX3 52) "java/lang/String") (by decide +kernel)), List.forall_mem_cons.mpr ⟨st_vkR hts (by decide +kernel) (hs (.exactly (.string RX3 69) "java/lang/String") (by decide +kernel)), List.forall_mem_cons.mpr ⟨st_vkR hts (by decide +kernel) (hs (.exactly (.string RX3 136) "java/lang/String") (by decide +kernel)), List.forall_mem_cons.mpr ⟨st_vkR hts (by decide +kernel) (hs (.exactly (.string RX3 142) "java/lang/String") (by decide +kernel)), fun _ h => absurd h List.not_mem_nil⟩⟩⟩⟩⟩⟩⟩⟩
theorem st_TH {s : State} {b : Nat} {A : Nat → Prop} (hts : ∀ w ∈ lw_tbl, w.before #[Value.ref b] s = true) (hgv : (Jvm.Cond.and given_1 narrow_1).before #[Value.ref b] s = true) (hA : ∀ a : Nat, a < s.heap.size → ¬ A a) : TH A s s.heap := by
  have hs := flat_of_before _ hgv
  exact ⟨vx_Zqof (hts _ (by decide +kernel)) (hts _ (by decide +kernel)) (hs _ (by decide +kernel)) hA, vx_Zqof (hts _ (by decide +kernel)) (hts _ (by decide +kernel)) (hs _ (by decide +kernel)) hA⟩
set_option maxHeartbeats 16000000 in
set_option maxRecDepth 100000 in
theorem law_start {p : Program} {e : Env} {s : State} {m : MethodId} {below : List Frame} {meth : Method} {c : Code} (l : Launch) (hflags : l.flags = flags0) {b : Nat} {xs : Nat → Int32} (hx0 : xs 0 = nI 64) (hxs : ∀ k, 1 ≤ k → k < 70 → xs k = nI 63) (C0 : p.tables.exec = Jvm.exec ∧ c.code = cL_law ∧ meth.sig.returnType = ret ∧ c.maxLocals = 10 ∧ s.vm.findClass RL = some m.cls ∧ (∀ w ∈ lw_tbl, w.before #[Value.ref b] s = true) ∧ va_X b 70 xs s s.heap ∧ b < s.heap.size ∧ meth.locks = false ∧ (Jvm.Cond.and given_1 narrow_1).before #[Value.ref b] s = true) : W p l e Rb s m #[Value.ref b] below meth c s.heap [] 0 0 (lz_Z below #[Value.ref b] s) (entryFrame m ([Value.ref b] : List Value).toArray 10) := by
  obtain ⟨hx, hb, hr, hml, hown, hts2, hX, hbl, hlocks, hgv⟩ := id C0
  have hts : ∀ w ∈ wsL_law, w.before #[Value.ref b] s = true := fun w hw => hts2 w (wsL_law_in w hw)
  obtain ⟨A, eA⟩ : ∃ A : Nat → Prop, A = (fun q : Nat => s.heap.size ≤ q) := ⟨_, rfl⟩
  have hA : ∀ q : Nat, s.heap.size ≤ q → A q := fun q h => by rw [eA]; exact h
  have hA2 : ∀ q : Nat, q < s.heap.size → ¬ A q := fun q h => by rw [eA]; exact Nat.not_le.mpr h
  have hbA : ¬ A b := hA2 b hbl
  have hlt : l.stackTraces = false := by unfold Launch.stackTraces; rw [hflags]; decide +kernel
  obtain ⟨dG, cI, cJ, hK⟩ := st_KK hts2
  have hTK := st_TK hts2 hgv
  have hTH : TH A s s.heap := st_TH hts2 hgv hA2
  have CC : LZ p l s m meth c b xs dG cI cJ A := ⟨hx, hb, hr, hml, hown, hts, hX, hbl, hlocks, hK, hTK, hTH, hlt, hbA, hx0, hxs⟩
  have hS : va_S A s.heap s.heap [] := va_S.rf
  have hP : va_P dG vwCl [] s.heap := fun k q h => by simp at h
  have hD : va_D A [] := ⟨fun i j p q h => by simp at h, fun k q h => by simp at h⟩
  have hl := lv_entry ([.ref b]) (n := 10) (Nat.le_of_ble_eq_true rfl)
  rw [lg_entry_eq]
  generalize (lg_sl ([.ref b]) ++ List.replicate (10 - (lg_sl ([.ref b])).length) Slot.unset).toArray = ls at hl ⊢
  have hl : lv_has ls 10 [(0, .ref b)] := hl
  refine va_new (ci := 3) (fs := [.null, .null, .null, .null, .null, .int (nI 0)]) (C := RX3) (T := TX3) (N := 6) hx hb hts2 wlx_X3 tyX3 tyX3_ok hown (hts (.classLink RL 10 RX3) (by decide +kernel)) (hts (.instantiable RX3 6) (by decide +kernel)) (hts (.initialized RX3) (by decide +kernel)) hK.1 hP hD hS hA rfl (fun j hj => by rcases (show j = 0 ∨ j = 1 ∨ j = 2 ∨ j = 3 ∨ j = 4 ∨ j = 5 by omega) with rfl | rfl | rfl | rfl | rfl | rfl <;> rfl) (Nat.le_of_ble_eq_true rfl) (Nat.le_of_ble_eq_true rfl) dL_law_0 (fun xo H hP hD hS => ?_)
  have hP : va_P dG vwCl (([(xo, .inr (3, [.null, .null, .null, .null, .null, .int (nI 0)]))] : va_W) ++ []) H := hP
  have hD : va_D A (([(xo, .inr (3, [.null, .null, .null, .null, .null, .int (nI 0)]))] : va_W) ++ []) := hD
  refine lv_dup hx hb dL_law_3 rfl ?_
  refine va_callv (va_runI (As := []) (rest := [.ref xo]) ⟨hx, hb, hml, hown, hts⟩ (i_main l dG cI cJ A xo []) (cwI 0 hts gL_law_X3_init rfl rfl rfl (hts (.initialized RX3) (by decide +kernel)) (hts (.methodLink RL 160 yX3_init) (by decide +kernel)) (hts (.instanceMethod yX3_init) (by decide +kernel)) rfl (by decide +kernel) ⟨Nat.le_of_ble_eq_true rfl, Nat.le_of_ble_eq_true rfl⟩) (CPc.preS hP hD hK (fun q h => hA q (Nat.le_trans hS.1 h))) rfl rfl hl.1 rfl (lv_room (Nat.le_of_ble_eq_true rfl)) dL_law_4 ⟨Nat.le_of_ble_eq_true rfl, Nat.le_of_ble_eq_true rfl⟩) hS (fun q _ h => h) (fun q h => h) (fun u t H locs ht hvm hw hB hz1 hk1 hS => ?_)
  obtain ⟨g, gA, lb, aR, aV, aH, aD, aP, se, qa, qb, qc, tl, d14, d15, d16, d17, d18, ts, d20, d21, d22⟩ := u
  obtain ⟨hP, hD⟩ := hB
  rw [ht] at hP
  have hP : va_P dG vwCl (XW xo g lb se tl ts (bI false) ++ (SW cI g lb se qa qb qc (fun _ => 0) (fun _ => 0) (fun _ => 0) (nI 0) 0 (nI 0) (nI 0) (nI 0) ++ (GW cJ g gA (nI 0) (nI 0) (fun _ => 0) ++ (LW cI cJ lb aR aV aH aD aP (fun _ => 0) (fun _ => 0) (nI 0) (fun _ => 0) (fun _ => 0) (fun _ => 0) ++ (SW cI g tl ts d20 d21 d22 (fun _ => 0) (fun _ => 0) (fun _ => 0) (nI 0) 0 (nI 0) (nI 0) (nI 0) ++ (LW cI cJ tl d14 d15 d16 d17 d18 (fun _ => 0) (fun _ => 0) (nI 0) (fun _ => 0) (fun _ => 0) (fun _ => 0) ++ [])))))) H := hP
  have hD : va_D A (XW xo g lb se tl ts (bI false) ++ (SW cI g lb se qa qb qc (fun _ => 0) (fun _ => 0) (fun _ => 0) (nI 0) 0 (nI 0) (nI 0) (nI 0) ++ (GW cJ g gA (nI 0) (nI 0) (fun _ => 0) ++ (LW cI cJ lb aR aV aH aD aP (fun _ => 0) (fun _ => 0) (nI 0) (fun _ => 0) (fun _ => 0) (fun _ => 0) ++ (SW cI g tl ts d20 d21 d22 (fun _ => 0) (fun _ => 0) (fun _ => 0) (nI 0) 0 (nI 0) (nI 0) (nI 0) ++ (LW cI cJ tl d14 d15 d16 d17 d18 (fun _ => 0) (fun _ => 0) (nI 0) (fun _ => 0) (fun _ => 0) (fun _ => 0) ++ [])))))) := hD
  generalize (SW cI g tl ts d20 d21 d22 (fun _ => 0) (fun _ => 0) (fun _ => 0) (nI 0) 0 (nI 0) (nI 0) (nI 0) ++ (LW cI cJ tl d14 d15 d16 d17 d18 (fun _ => 0) (fun _ => 0) (nI 0) (fun _ => 0) (fun _ => 0) (fun _ => 0) ++ [])) = X at hP hD
  have hP : va_P dG vwCl (XW xo g lb se tl ts (bI false) ++ (SW cI g lb se qa qb qc (fun _ => 0) (fun _ => 0) (fun _ => 0) (nI 0) 0 (nI 0) (nI 0) (nI 0) ++ (GW cJ g gA (nI 0) (nI 0) (fun _ => 0) ++ (LW cI cJ lb aR aV aH aD aP (fun _ => 0) (fun _ => 0) (nI 0) (fun _ => 0) (fun _ => 0) (fun _ => 0) ++ X)))) H := hP
  have hD : va_D A (XW xo g lb se tl ts (bI false) ++ (SW cI g lb se qa qb qc (fun _ => 0) (fun _ => 0) (fun _ => 0) (nI 0) 0 (nI 0) (nI 0) (nI 0) ++ (GW cJ g gA (nI 0) (nI 0) (fun _ => 0) ++ (LW cI cJ lb aR aV aH aD aP (fun _ => 0) (fun _ => 0) (nI 0) (fun _ => 0) (fun _ => 0) (fun _ => 0) ++ X)))) := hD
  have hN : s.heap.size ≤ H.size := hS.1
  refine lv_astore_n (lv' := [(1, .ref xo), (0, .ref b)]) hx hb dL_law_7 rfl hl (by decide) rfl (fun ls hl => ?_)
  refine lv_aload_n hx hb dL_law_8 rfl (lv_at hl 0 rfl) ?_
  have hPc := hP.sub (ws' := (XW xo g lb se tl ts (bI false) ++ (GW cJ g gA (nI 0) (nI 0) (fun _ => 0) ++ (LW cI cJ lb aR aV aH aD aP (fun _ => 0) (fun _ => 0) (nI 0) (fun _ => 0) (fun _ => 0) (fun _ => 0))))) [0, 5, 6, 7, 8, 9, 10, 11, 12] rfl
  refine x_ri (W.runV (As := []) (rest := []) ⟨hx, hb, hml, hown, hts⟩ (c_vertices l dG cI cJ xo tl ts false se g gA 0 0 (fun _ => 0) lb aR aV aH aD aP (fun _ => 0) (fun _ => 0) (nI 0) (fun _ => 0) (fun _ => 0) (fun _ => 0) (by decide)) (cwV 0 hts gL_law_X3_vertices rfl rfl rfl (by decide +kernel) ⟨Nat.le_of_ble_eq_true rfl, Nat.le_of_ble_eq_true rfl⟩) (RPc.pre hPc hK (va_recv hK.1 hPc (ci := 3) (q0 := 0) rfl rfl)) rfl rfl hl.1 rfl (lv_room (Nat.le_of_ble_eq_true rfl)) dL_law_9 ⟨(show 0 + 1 + 22 + 0 ≤ 1000 by omega), (show 0 + 6 + 9875 + 0 ≤ 20000 by omega)⟩) ?_
  refine lv_if_ne (tgt := 49) hx hb dL_law_12 (by decide) (fun h9 => absurd rfl h9) (fun _ => ?_)
  refine lv_aload_n hx hb dL_law_15 rfl (lv_at hl 0 rfl) ?_
  have hPc : va_P dG vwCl (XW xo g lb se tl ts (bI false) ++ (SW cI g lb se qa qb qc (fun _ => 0) (fun _ => 0) (fun _ => 0) (nI 0) 0 (nI 0) (nI 0) (nI 0) ++ (GW cJ g gA (nI 0) (nI 0) (fun _ => 0) ++ (LW cI cJ lb aR aV aH aD aP (fun _ => 0) (fun _ => 0) (nI 0) (fun _ => 0) (fun _ => 0) (fun _ => 0) ++ X)))) H := hP
  have hDc : va_D A (XW xo g lb se tl ts (bI false) ++ (SW cI g lb se qa qb qc (fun _ => 0) (fun _ => 0) (fun _ => 0) (nI 0) 0 (nI 0) (nI 0) (nI 0) ++ (GW cJ g gA (nI 0) (nI 0) (fun _ => 0) ++ (LW cI cJ lb aR aV aH aD aP (fun _ => 0) (fun _ => 0) (nI 0) (fun _ => 0) (fun _ => 0) (fun _ => 0) ++ X)))) := hD
  refine va_calli (va_runV (As := []) (rest := []) ⟨hx, hb, hml, hown, hts⟩ (c_build l dG cI cJ A qa qb qc (fun _ => 0) (fun _ => 0) (fun _ => 0) (nI 0) 0 (nI 0) (nI 0) (nI 0) xo tl ts false se g gA 0 0 (fun _ => 0) lb aR aV aH aD aP (fun _ => 0) (fun _ => 0) (nI 0) (fun _ => 0) (fun _ => 0) (fun _ => 0) (by decide) (fun v => fb_ct (gb ((fun _ => 0 : Nat → Int64) v)) 64) rfl (fun v hv => absurd hv (Nat.not_lt_zero v)) _ rfl _) (cwV 0 hts gL_law_X3_build rfl rfl rfl (by decide +kernel) ⟨Nat.le_of_ble_eq_true rfl, Nat.le_of_ble_eq_true rfl⟩) (WPc.pre hPc hDc hK (va_recv hK.1 hPc (ci := 3) (q0 := 0) rfl rfl)) rfl rfl hl.1 rfl (lv_room (Nat.le_of_ble_eq_true rfl)) dL_law_16 ⟨(show 0 + 1 + 22 + 0 ≤ 1000 by omega), (show 0 + 6 + 9875 + 0 ≤ 20000 by omega)⟩) hS (fun q _ h => h) (fun q h => h) (fun r9 u t H locs ht hvm hw hB hz1 hk1 hS => ?_)
  obtain ⟨rk, vb, ql, qs, qv, qd, qp, hs, D, Pp⟩ := u
  obtain ⟨hP, hD⟩ := hB
  rw [ht] at hP
  have hP : va_P dG vwCl (XW xo g lb se tl ts (bI true) ++ (SW cI g lb se qa qb qc qv qd qp ql qs (nI 0) (nI 0) (nI 0) ++ (GW cJ g gA (nI 0) (nI 0) (fun _ => 0) ++ (LW cI cJ lb aR aV aH aD aP rk vb (nI 0) hs D Pp ++ X)))) H := hP
  have hD : va_D A (XW xo g lb se tl ts (bI true) ++ (SW cI g lb se qa qb qc qv qd qp ql qs (nI 0) (nI 0) (nI 0) ++ (GW cJ g gA (nI 0) (nI 0) (fun _ => 0) ++ (LW cI cJ lb aR aV aH aD aP rk vb (nI 0) hs D Pp ++ X)))) := hD
  rw [show r9 = nI 0 from hw.1]
  have hN : s.heap.size ≤ H.size := Nat.le_trans hN hz1
  refine lv_if_ne (tgt := 49) hx hb dL_law_19 (by decide) (fun h9 => absurd rfl h9) (fun _ => ?_)
  refine lv_aload_n hx hb dL_law_22 rfl (lv_at hl 0 rfl) ?_
  have hPc : va_P dG vwCl (XW xo g lb se tl ts (bI true) ++ (SW cI g lb se qa qb qc qv qd qp ql qs (nI 0) (nI 0) (nI 0) ++ (GW cJ g gA (nI 0) (nI 0) (fun _ => 0) ++ (LW cI cJ lb aR aV aH aD aP rk vb (nI 0) hs D Pp ++ X)))) H := hP
  have hDc : va_D A (XW xo g lb se tl ts (bI true) ++ (SW cI g lb se qa qb qc qv qd qp ql qs (nI 0) (nI 0) (nI 0) ++ (GW cJ g gA (nI 0) (nI 0) (fun _ => 0) ++ (LW cI cJ lb aR aV aH aD aP rk vb (nI 0) hs D Pp ++ X)))) := hD
  refine va_calli (va_runV (As := []) (rest := []) ⟨hx, hb, hml, hown, hts⟩ (c_clear l dG cI cJ A qa qb qc qv qd qp ql qs (nI 0) (nI 0) (nI 0) xo tl ts true se g gA 0 0 (fun _ => 0) lb aR aV aH aD aP rk vb (nI 0) hs D Pp _) (cwV 0 hts gL_law_X3_clear rfl rfl rfl (by decide +kernel) ⟨Nat.le_of_ble_eq_true rfl, Nat.le_of_ble_eq_true rfl⟩) (WPc.pre hPc hDc hK (va_recv hK.1 hPc (ci := 3) (q0 := 0) rfl rfl)) rfl rfl hl.1 rfl (lv_room (Nat.le_of_ble_eq_true rfl)) dL_law_23 ⟨(show 0 + 1 + 22 + 0 ≤ 1000 by omega), (show 0 + 6 + 9875 + 0 ≤ 20000 by omega)⟩) hS (fun q _ h => h) (fun q h => h) (fun r9 u9 t H locs ht hvm hw hB hz1 hk1 hS => ?_)
  obtain ⟨hP, hD⟩ := hB
  rw [ht] at hP
  have hP : va_P dG vwCl (XW xo g lb se tl ts (bI false) ++ (SW cI g lb se qa qb qc qv qd qp ql qs (nI 0) (nI 0) (nI 0) ++ (GW cJ g gA (nI 0) (nI 0) (cut0 (fun _ => 0) 48) ++ (LW cI cJ lb aR aV aH aD aP rk vb (nI 0) (cut0 hs 48) D Pp ++ X)))) H := hP
  have hD : va_D A (XW xo g lb se tl ts (bI false) ++ (SW cI g lb se qa qb qc qv qd qp ql qs (nI 0) (nI 0) (nI 0) ++ (GW cJ g gA (nI 0) (nI 0) (cut0 (fun _ => 0) 48) ++ (LW cI cJ lb aR aV aH aD aP rk vb (nI 0) (cut0 hs 48) D Pp ++ X)))) := hD
  rw [show r9 = nI 0 from hw]
  obtain ⟨ns, hns9⟩ : ∃ ns : Nat → Int64, ns = cut0 (fun _ => 0) 48 := ⟨_, rfl⟩
  have hns : ∀ v, ns v = 0 := fun v => by rw [hns9]; unfold cut0; split <;> rfl
  rw [← hns9] at hP hD
  generalize cut0 hs 48 = hs1 at hP hD
  have hP : va_P dG vwCl (XW xo g lb se tl ts (bI false) ++ (GW cJ g gA (nI 0) (nI 0) ns ++ (LW cI cJ lb aR aV aH aD aP rk vb (nI 0) hs1 D Pp ++ (SW cI g lb se qa qb qc qv qd qp ql qs (nI 0) (nI 0) (nI 0) ++ X)))) H := va_P.perm hP (List.Perm.trans (List.Perm.append_left _ (List.perm_append_comm_assoc _ _ _)) (List.Perm.append_left _ (List.Perm.append_left _ (List.perm_append_comm_assoc _ _ _))))
  have hD : va_D A (XW xo g lb se tl ts (bI false) ++ (GW cJ g gA (nI 0) (nI 0) ns ++ (LW cI cJ lb aR aV aH aD aP rk vb (nI 0) hs1 D Pp ++ (SW cI g lb se qa qb qc qv qd qp ql qs (nI 0) (nI 0) (nI 0) ++ X)))) := va_D.perm hD (List.Perm.trans (List.Perm.append_left _ (List.perm_append_comm_assoc _ _ _)) (List.Perm.append_left _ (List.Perm.append_left _ (List.perm_append_comm_assoc _ _ _))))
  have hN : s.heap.size ≤ H.size := Nat.le_trans hN hz1
  refine lv_if_ne (tgt := 49) hx hb dL_law_26 (by decide) (fun h9 => absurd rfl h9) (fun _ => ?_)
  refine lv_aload_n hx hb dL_law_29 rfl (lv_at hl 0 rfl) ?_
  refine lv_iconst (v := (nI 0)) hx hb dL_law_30 (by decide) ?_
  refine va_calli (va_runS (As := [.ref xo, .int (nI 0)]) (rest := []) ⟨hx, hb, hml, hown, hts⟩ (y_refused_0 l hlt dG cI cJ A xo tl ts se lb g gA ns aR aV aH aD aP rk vb (nI 0) hs1 D Pp qa qb qc qv qd qp ql qs (nI 0) (nI 0) (nI 0) hns _ _) (va_cwS 2 hts gL_law_L_isRefused rfl rfl rfl (by decide +kernel) ⟨Nat.le_of_ble_eq_true rfl, Nat.le_of_ble_eq_true rfl⟩) (YPc.preS hP hD hK hTK (hTH.kept hS.2.1) hN) rfl rfl hl.1 rfl (lv_room (Nat.le_of_ble_eq_true rfl)) dL_law_31 ⟨(show 0 + 1 + 22 + 14 ≤ 1000 by omega), (show 0 + 6 + 9875 + 84 ≤ 20000 by omega)⟩) hS (fun q _ h => h) (fun q h => h) (fun r9 u9 t H locs ht hvm hw hB hz1 hk1 hS => ?_)
  obtain ⟨hP, hD, hN⟩ := hB
  rw [ht] at hP hN
  have hN : s.heap.size + 14 ≤ H.size := hN
  have hP : va_P dG vwCl (XW xo g lb se tl ts (bI false) ++ (GW cJ g gA (nI 0) (nI 0) ns ++ (LW cI cJ lb aR aV aH aD aP rk vb (nI 0) hs1 D Pp ++ (SW cI g lb se qa qb qc qv qd qp ql qs (nI 0) (nI 0) (nI 0) ++ X)))) H := hP
  have hD : va_D A (XW xo g lb se tl ts (bI false) ++ (GW cJ g gA (nI 0) (nI 0) ns ++ (LW cI cJ lb aR aV aH aD aP rk vb (nI 0) hs1 D Pp ++ (SW cI g lb se qa qb qc qv qd qp ql qs (nI 0) (nI 0) (nI 0) ++ X)))) := hD
  rw [show r9 = (bI true) from hw]
  refine x_ifeqB (tgt := 49) hx hb dL_law_34 (by decide) (fun h9 => absurd h9 (by decide)) (fun h9 => ?_)
  refine lv_aload_n hx hb dL_law_37 rfl (lv_at hl 0 rfl) ?_
  refine lv_iconst (v := (nI 1)) hx hb dL_law_38 (by decide) ?_
  refine va_calli (va_runS (As := [.ref xo, .int (nI 1)]) (rest := []) ⟨hx, hb, hml, hown, hts⟩ (y_refused_1 l hlt dG cI cJ A xo tl ts se lb g gA ns aR aV aH aD aP rk vb (nI 0) hs1 D Pp qa qb qc qv qd qp ql qs (nI 0) (nI 0) (nI 0) hns _ _) (va_cwS 2 hts gL_law_L_isRefused rfl rfl rfl (by decide +kernel) ⟨Nat.le_of_ble_eq_true rfl, Nat.le_of_ble_eq_true rfl⟩) (YPc.preS hP hD hK hTK (hTH.kept hS.2.1) hN) rfl rfl hl.1 rfl (lv_room (Nat.le_of_ble_eq_true rfl)) dL_law_39 ⟨(show 0 + 1 + 22 + 14 + 14 ≤ 1000 by omega), (show 0 + 6 + 9875 + 84 + 84 ≤ 20000 by omega)⟩) hS (fun q _ h => h) (fun q h => h) (fun r9 u9 t H locs ht hvm hw hB hz1 hk1 hS => ?_)
  obtain ⟨hP, hD, hN⟩ := hB
  rw [ht] at hP hN
  have hN : s.heap.size + 14 + 14 ≤ H.size := hN
  have hP : va_P dG vwCl (XW xo g lb se tl ts (bI false) ++ (GW cJ g gA (nI 0) (nI 0) ns ++ (LW cI cJ lb aR aV aH aD aP rk vb (nI 0) hs1 D Pp ++ (SW cI g lb se qa qb qc qv qd qp ql qs (nI 0) (nI 0) (nI 0) ++ X)))) H := hP
  have hD : va_D A (XW xo g lb se tl ts (bI false) ++ (GW cJ g gA (nI 0) (nI 0) ns ++ (LW cI cJ lb aR aV aH aD aP rk vb (nI 0) hs1 D Pp ++ (SW cI g lb se qa qb qc qv qd qp ql qs (nI 0) (nI 0) (nI 0) ++ X)))) := hD
  rw [show r9 = (bI true) from hw]
  refine x_ifeqB (tgt := 49) hx hb dL_law_42 (by decide) (fun h9 => absurd h9 (by decide)) (fun h9 => ?_)
  refine lv_iconst (v := (nI 1)) hx hb dL_law_45 (by decide) ?_
  refine lv_goto (tgt := 50) hx hb dL_law_46 (by decide) ?_
  refine lv_istore_n (lv' := [(2, .int (nI 1)), (1, .ref xo), (0, .ref b)]) hx hb dL_law_50 rfl hl (by decide) rfl (fun ls hl => ?_)
  refine lv_iconst (v := (nI 0)) hx hb dL_law_51 (by decide) ?_
  refine lv_istore_n (lv' := [(3, .int (nI 0)), (2, .int (nI 1)), (1, .ref xo), (0, .ref b)]) hx hb dL_law_52 rfl hl (by decide) rfl (fun ls hl => ?_)
  refine W.widen (k := 51) (n := 10049) (by omega) (by omega) ?_
  exact law_first (vi := nI 0) (pr := nI 0) (wr := nI 0) (rc := nI 0) hns CC hP hD hS (by omega) (lv_sub hl [3, 2, 1, 0] rfl)
