/-! the law at the script 64, 63, 63, .. -/
abbrev Rb : Room := { frames := 40, cells := 1000, slots := 20000, locals := 4000 }
def lz_Z (below : List Frame) (a : Array Value) (s : State) : State → Prop := fun t => ∃ o, t.status = .running ∧ Ended t below o ∧ s.heap.size + 162 ≤ t.heap.size
theorem lz_narrow : narrow .boolean (.int (nI 1)) = .int (nI 1) := by decide
theorem lz_ret {p : Program} {l : Launch} {e : Env} {s : State} {m : MethodId} {below : List Frame} {meth : Method} {c : Code} {b : Nat} (hx : p.tables.exec = Jvm.exec) (hb : c.code = cL_law) (hr : meth.sig.returnType = ret) (hlocks : meth.locks = false) {pc : Nat} {H : Heap} {locs : List Loc} {ce sl : Nat} {ls : Array Slot} (hz : s.heap.size + 162 ≤ H.size) (hdg : decode cL_law pc = .ok (.ireturn, 1)) : W p l e Rb s m #[Value.ref b] below meth c H locs ce sl (lz_Z below #[Value.ref b] s) (F0 m pc ls [.int (nI 1)]) := by
  intro T hT X
  obtain ⟨fs, hret, hrun, hended, hW, hframe⟩ := X.leave (v := some (.int (nI 1))) (hlocks := hlocks) (fun h => by rw [hr] at h; cases h)
  have hmeth' : T.vm.method? m = some meth := X.method'
  refine ⟨T.setFrames fs, ?_, .returned (some (.int (nI 1))), hrun, hended, by show s.heap.size + 162 ≤ T.heap.size; rw [hT]; exact hz⟩
  jvm_step X.here [X.here.top, hx, hb, hdg, hmeth', hr, ret, lz_narrow]
  (try refine ⟨rfl, ?_⟩); (try refine ⟨rfl, ?_⟩)
  first | (intro acts; rw [hret _ acts rfl rfl rfl]) | rw [hret _ _ rfl rfl rfl]
  exact Steps.refl _
theorem rem14 : ∀ k, k < 70 → nI k - nI k / nI 14 * nI 14 = nI (k % 14) := by decide +kernel
theorem pos14 : ∀ k, k < 70 → ¬ k % 14 = 0 → (0 : Int32) < nI (k % 14) := by decide +kernel
/-- what holds all through the law's run -/
def LZ (p : Program) (l : Launch) (s : State) (m : MethodId) (meth : Method) (c : Code) (b : Nat) (xs : Nat → Int32) (dG : va_G) (cI cJ : ClassId) (A : Nat → Prop) : Prop :=
  p.tables.exec = Jvm.exec ∧ c.code = cL_law ∧ meth.sig.returnType = ret ∧ c.maxLocals = 10 ∧ s.vm.findClass RL = some m.cls ∧ (∀ w ∈ wsL_law, w.before #[Value.ref b] s = true) ∧ va_X b 70 xs s s.heap ∧ b < s.heap.size ∧ meth.locks = false ∧ KK dG cI cJ s ∧ TK s ∧ TH A s s.heap ∧ l.stackTraces = false ∧ ¬ A b ∧ xs 0 = nI 64 ∧ ∀ k, 1 ≤ k → k < 70 → xs k = nI 63

set_option maxHeartbeats 16000000 in
set_option maxRecDepth 100000 in
/-- the turns behind the first: 29 cells more at each that 14 divides -/
theorem law_turns {p : Program} {e : Env} {s : State} {m : MethodId} {below : List Frame} {meth : Method} {c : Code} {l : Launch} {dG : va_G} {cI cJ : ClassId} {A : Nat → Prop} {b : Nat} {xs : Nat → Int32} {xo tl ts se lb g gA : Nat} {ns : Nat → Int64} {aR aV aH aD aP : Nat} {rk vb : Nat → Int32} {rc : Int32} {hs : Nat → Int64} {D Pp : Nat → Int32} {qa qb qc : Nat} {qv qd qp : Nat → Int32} {ql : Int32} {qs : Int64} {vi pr wr : Int32} (hns : ∀ v, ns v = 0) {X : va_W} (C0 : LZ p l s m meth c b xs dG cI cJ A) : ∀ (f k q : Nat), k + f = 70 → 1 ≤ k → 14 * q ≤ k + 13 → k + 13 < 14 * q + 14 → ∀ (H : Heap) (locs : List Loc), va_P dG vwCl (XW xo g lb se tl ts (bI false) ++ (GW cJ g gA (nI 3) (nI 0) ns ++ (LW cI cJ lb aR aV aH aD aP rk vb rc hs D Pp ++ (SW cI g lb se qa qb qc qv qd qp ql qs vi pr wr ++ X)))) H → va_D A (XW xo g lb se tl ts (bI false) ++ (GW cJ g gA (nI 3) (nI 0) ns ++ (LW cI cJ lb aR aV aH aD aP rk vb rc hs D Pp ++ (SW cI g lb se qa qb qc qv qd qp ql qs vi pr wr ++ X)))) → va_S A s.heap H locs → s.heap.size + 28 + 29 * q ≤ H.size → ∀ ls : Array Slot, lv_has ls 10 [(0, .ref b), (1, .ref xo), (2, .int (nI 1)), (3, .int (nI k))] → W p l e Rb s m #[Value.ref b] below meth c H locs (51 + 29 * q) (9881 + 6 * (28 + 29 * q)) (lz_Z below #[Value.ref b] s) (F0 m 53 ls []) := by
  obtain ⟨hx, hb, hr, hml, hown, hts, hX, hbl, hlocks, hK, hTK, hTH, hlt, hbA, hx0, hxs⟩ := id C0
  intro f
  induction f with
  | zero =>
    intro k q h1 h2 h3 h4 H locs hP hD hS hN ls hl
    have ek : k = 70 := by omega
    subst ek
    refine lv_iload_n hx hb dL_law_53 rfl (lv_at hl 3 rfl) ?_
    refine lv_bipush (v := (nI 70)) hx hb dL_law_54 (by decide) ?_
    refine lv_icmp_ge (tgt := 427) hx hb dL_law_56 (by decide) (fun _ => ?_) (fun h9 => absurd (by decide +kernel) h9)
    refine lv_iload_n hx hb dL_law_427 rfl (lv_at hl 2 rfl) ?_
    exact lz_ret hx hb hr hlocks (by omega) dL_law_428
  | succ f ih =>
    intro k q h1 h2 h3 h4 H locs hP hD hS hN ls hl
    refine lv_iload_n hx hb dL_law_53 rfl (lv_at hl 3 rfl) ?_
    refine lv_bipush (v := (nI 70)) hx hb dL_law_54 (by decide) ?_
    refine x_icmp_geN (i := k) (j := 70) (tgt := 427) hx hb (by omega) (by decide) dL_law_56 (by decide) (fun c56 => ?_) (fun c56 => ?_)
    · skip
      exact absurd c56 (by omega)
    · skip
      refine lv_iload_n hx hb dL_law_59 rfl (lv_at hl 2 rfl) ?_
      refine lv_if_eq (tgt := 427) hx hb dL_law_60 (by decide) (fun h9 => absurd h9 (by decide)) (fun _ => ?_)
      refine lv_aload_n hx hb dL_law_63 rfl (lv_at hl 0 rfl) ?_
      refine lv_iload_n hx hb dL_law_64 rfl (lv_at hl 3 rfl) ?_
      refine x_ri (W.runS (As := [.ref b, .int (nI k)]) (rest := []) ⟨hx, hb, hml, hown, hts⟩ (r_dice l b 70 xs k (by omega) (by decide)) (va_cwS 2 hts gL_law_L_dice rfl rfl rfl (by decide +kernel) ⟨Nat.le_of_ble_eq_true rfl, Nat.le_of_ble_eq_true rfl⟩) (dice_pre hX hbl hbA hS) rfl rfl hl.1 rfl (lv_room (Nat.le_of_ble_eq_true rfl)) dL_law_65 ⟨(show 51 + 29 * q + 0 ≤ 1000 by omega), (show 9881 + 6 * (28 + 29 * q) + 0 ≤ 20000 by omega)⟩) ?_
      rw [show (xs k &&& 2147483647) = nI 63 from by rw [hxs k (by omega) (by omega)]; decide +kernel]
      refine lv_istore (lv' := [(4, .int (nI 63)), (0, .ref b), (1, .ref xo), (2, .int (nI 1)), (3, .int (nI k))]) hx hb dL_law_68 hl (by decide) rfl (fun ls hl => ?_)
      refine lv_iload hx hb dL_law_70 (lv_at hl 0 rfl) ?_
      refine lv_bipush (v := (nI 32)) hx hb dL_law_72 (by decide) ?_
      refine lv_idiv hx hb dL_law_74 (by decide) ?_
      rw [show (nI 63) / (nI 32) = (nI 1) from by decide +kernel]
      refine lv_istore (lv' := [(5, .int (nI 1)), (4, .int (nI 63)), (0, .ref b), (1, .ref xo), (2, .int (nI 1)), (3, .int (nI k))]) hx hb dL_law_75 hl (by decide) rfl (fun ls hl => ?_)
      refine lv_iload hx hb dL_law_77 (lv_at hl 1 rfl) ?_
      refine lv_bipush (v := (nI 32)) hx hb dL_law_79 (by decide) ?_
      refine lv_irem hx hb dL_law_81 (by decide) ?_
      rw [show (nI 63) - (nI 63) / (nI 32) * (nI 32) = (nI 31) from by decide +kernel]
      refine lv_istore (lv' := [(6, .int (nI 31)), (5, .int (nI 1)), (4, .int (nI 63)), (0, .ref b), (1, .ref xo), (2, .int (nI 1)), (3, .int (nI k))]) hx hb dL_law_82 hl (by decide) rfl (fun ls hl => ?_)
      refine lv_aload_n hx hb dL_law_84 rfl (lv_at hl 4 rfl) ?_
      have hPc := hP.sub (ws' := (XW xo g lb se tl ts (bI false) ++ (GW cJ g gA (nI 3) (nI 0) ns ++ (LW cI cJ lb aR aV aH aD aP rk vb rc hs D Pp)))) [0, 1, 2, 3, 4, 5, 6, 7, 8] rfl
      refine x_ri (W.runV (As := []) (rest := []) ⟨hx, hb, hml, hown, hts⟩ (c_vertices l dG cI cJ xo tl ts false se g gA 3 0 ns lb aR aV aH aD aP rk vb rc hs D Pp (by decide)) (cwV 0 hts gL_law_X3_vertices rfl rfl rfl (by decide +kernel) ⟨Nat.le_of_ble_eq_true rfl, Nat.le_of_ble_eq_true rfl⟩) (RPc.pre hPc hK (va_recv hK.1 hPc (ci := 3) (q0 := 0) rfl rfl)) rfl rfl hl.1 rfl (lv_room (Nat.le_of_ble_eq_true rfl)) dL_law_85 ⟨(show 51 + 29 * q + 0 ≤ 1000 by omega), (show 9881 + 6 * (28 + 29 * q) + 0 ≤ 20000 by omega)⟩) ?_
      refine lv_iconst (v := (nI 3)) hx hb dL_law_88 (by decide) ?_
      refine lv_icmp_lt (tgt := 98) hx hb dL_law_89 (by decide) (fun h9 => (show False by revert h9; decide +kernel).elim) (fun _ => ?_)
      refine lv_iload hx hb dL_law_92 (lv_at hl 0 rfl) ?_
      refine lv_iconst (v := (nI 2)) hx hb dL_law_94 (by decide) ?_
      refine lv_icmp_ge (tgt := 128) hx hb dL_law_95 (by decide) (fun _ => ?_) (fun h9 => (show False by revert h9; decide +kernel).elim)
      refine lv_iload hx hb dL_law_128 (lv_at hl 0 rfl) ?_
      refine lv_bipush (v := (nI 26)) hx hb dL_law_130 (by decide) ?_
      refine lv_icmp_ge (tgt := 217) hx hb dL_law_132 (by decide) (fun _ => ?_) (fun h9 => (show False by revert h9; decide +kernel).elim)
      refine lv_iload hx hb dL_law_217 (lv_at hl 0 rfl) ?_
      refine lv_bipush (v := (nI 30)) hx hb dL_law_219 (by decide) ?_
      refine lv_icmp_ge (tgt := 232) hx hb dL_law_221 (by decide) (fun _ => ?_) (fun h9 => (show False by revert h9; decide +kernel).elim)
      refine lv_iload hx hb dL_law_232 (lv_at hl 0 rfl) ?_
      refine lv_bipush (v := (nI 30)) hx hb dL_law_234 (by decide) ?_
      refine lv_icmp_ne (tgt := 323) hx hb dL_law_236 (by decide) (fun _ => ?_) (fun h9 => (show False by revert h9; decide +kernel).elim)
      refine lv_iload_n hx hb dL_law_323 rfl (lv_at hl 5 rfl) ?_
      refine lv_if_eq (tgt := 419) hx hb dL_law_324 (by decide) (fun h9 => absurd h9 (by decide)) (fun _ => ?_)
      refine lv_aload_n hx hb dL_law_327 rfl (lv_at hl 4 rfl) ?_
      have hPc := hP.sub (ws' := (XW xo g lb se tl ts (bI false) ++ (GW cJ g gA (nI 3) (nI 0) ns ++ (LW cI cJ lb aR aV aH aD aP rk vb rc hs D Pp ++ (SW cI g lb se qa qb qc qv qd qp ql qs vi pr wr))))) [0, 1, 2, 3, 4, 5, 6, 7, 8, 9, 10, 11, 12] rfl
      refine x_ri (W.runS (As := [.ref xo]) (rest := []) ⟨hx, hb, hml, hown, hts⟩ (r_isGraph l dG cI cJ xo tl ts se lb g gA 3 ns aR aV aH aD aP rk vb rc hs D Pp qa qb qc qv qd qp ql qs vi pr wr (by decide) hns) (va_cwS 1 hts gL_law_L_isGraph rfl rfl rfl (by decide +kernel) ⟨Nat.le_of_ble_eq_true rfl, Nat.le_of_ble_eq_true rfl⟩) (RPc.preS hPc hK) rfl rfl hl.1 rfl (lv_room (Nat.le_of_ble_eq_true rfl)) dL_law_328 ⟨(show 51 + 29 * q + 0 ≤ 1000 by omega), (show 9881 + 6 * (28 + 29 * q) + 0 ≤ 20000 by omega)⟩) ?_
      refine x_ifeqB (tgt := 419) hx hb dL_law_331 (by decide) (fun h9 => absurd h9 (by decide)) (fun h9 => ?_)
      refine lv_aload_n hx hb dL_law_334 rfl (lv_at hl 4 rfl) ?_
      have hPc := hP.sub (ws' := (XW xo g lb se tl ts (bI false) ++ (GW cJ g gA (nI 3) (nI 0) ns ++ (LW cI cJ lb aR aV aH aD aP rk vb rc hs D Pp)))) [0, 1, 2, 3, 4, 5, 6, 7, 8] rfl
      refine x_ri (W.runV (As := []) (rest := []) ⟨hx, hb, hml, hown, hts⟩ (c_isBuilt l dG cI cJ xo tl ts false se g gA 3 0 ns lb aR aV aH aD aP rk vb rc hs D Pp (by decide)) (cwV 0 hts gL_law_X3_isBuilt rfl rfl rfl (by decide +kernel) ⟨Nat.le_of_ble_eq_true rfl, Nat.le_of_ble_eq_true rfl⟩) (RPc.pre hPc hK (va_recv hK.1 hPc (ci := 3) (q0 := 0) rfl rfl)) rfl rfl hl.1 rfl (lv_room (Nat.le_of_ble_eq_true rfl)) dL_law_335 ⟨(show 51 + 29 * q + 0 ≤ 1000 by omega), (show 9881 + 6 * (28 + 29 * q) + 0 ≤ 20000 by omega)⟩) ?_
      refine x_ifeqB (tgt := 397) hx hb dL_law_338 (by decide) (fun h9 => ?_) (fun h9 => absurd h9 (by decide))
      refine lv_iload_n hx hb dL_law_397 rfl (lv_at hl 6 rfl) ?_
      refine lv_bipush (v := (nI 14)) hx hb dL_law_398 (by decide) ?_
      refine lv_irem hx hb dL_law_400 (by decide) ?_
      rw [rem14 k (by omega)]
      by_cases hz : k % 14 = 0
      · skip
        rw [hz]
        refine lv_if_gt (tgt := 415) hx hb dL_law_401 (by decide) (fun h9 => (show False by revert h9; decide +kernel).elim) (fun _ => ?_)
        refine lv_aload_n hx hb dL_law_404 rfl (lv_at hl 4 rfl) ?_
        refine lv_iload hx hb dL_law_405 (lv_at hl 2 rfl) ?_
        refine lv_iconst (v := (nI 3)) hx hb dL_law_407 (by decide) ?_
        refine lv_idiv hx hb dL_law_408 (by decide) ?_
        rw [show (nI 63) / (nI 3) = (nI 21) from by decide +kernel]
        refine va_calli (va_runS (As := [.ref xo, .int (nI 21)]) (rest := []) ⟨hx, hb, hml, hown, hts⟩ (y_refused_3 l hlt dG cI cJ A xo tl ts se lb g gA ns aR aV aH aD aP rk vb rc hs D Pp qa qb qc qv qd qp ql qs vi pr wr hns _ _) (va_cwS 2 hts gL_law_L_isRefused rfl rfl rfl (by decide +kernel) ⟨Nat.le_of_ble_eq_true rfl, Nat.le_of_ble_eq_true rfl⟩) (YPc.preS hP hD hK hTK (hTH.kept hS.2.1) hN) rfl rfl hl.1 rfl (lv_room (Nat.le_of_ble_eq_true rfl)) dL_law_409 ⟨(show 51 + 29 * q + 29 ≤ 1000 by omega), (show 9881 + 6 * (28 + 29 * q) + 174 ≤ 20000 by omega)⟩) hS (fun q _ h => h) (fun q h => h) (fun r9 u9 t H locs ht hvm hw hB hz1 hk1 hS => ?_)
        obtain ⟨hP, hD, hN⟩ := hB
        rw [ht] at hP hN
        have hN : s.heap.size + 28 + 29 * q + 29 ≤ H.size := hN
        have hP : va_P dG vwCl (XW xo g lb se tl ts (bI false) ++ (GW cJ g gA (nI 3) (nI 0) ns ++ (LW cI cJ lb aR aV aH aD aP rk vb rc hs D Pp ++ (SW cI g lb se qa qb qc qv qd qp ql qs vi pr wr ++ X)))) H := hP
        have hD : va_D A (XW xo g lb se tl ts (bI false) ++ (GW cJ g gA (nI 3) (nI 0) ns ++ (LW cI cJ lb aR aV aH aD aP rk vb rc hs D Pp ++ (SW cI g lb se qa qb qc qv qd qp ql qs vi pr wr ++ X)))) := hD
        rw [show r9 = (bI true) from hw]
        refine x_ifeqB (tgt := 419) hx hb dL_law_412 (by decide) (fun h9 => absurd h9 (by decide)) (fun h9 => ?_)
        refine lv_iconst (v := (nI 1)) hx hb dL_law_415 (by decide) ?_
        refine lv_goto (tgt := 420) hx hb dL_law_416 (by decide) ?_
        refine lv_istore_n (lv' := [(2, .int (nI 1)), (6, .int (nI 31)), (5, .int (nI 1)), (4, .int (nI 63)), (0, .ref b), (1, .ref xo), (3, .int (nI k))]) hx hb dL_law_420 rfl hl (by decide) rfl (fun ls hl => ?_)
        refine x_iincN (lv' := [(3, .int (nI (k + 1))), (2, .int (nI 1)), (6, .int (nI 31)), (5, .int (nI 1)), (4, .int (nI 63)), (0, .ref b), (1, .ref xo)]) hx hb dL_law_421 hl (k := 6) rfl (by decide) rfl (fun ls hl => ?_)
        refine lv_goto (tgt := 53) hx hb dL_law_424 (by decide) ?_
        refine W.widen (k := 51 + 29 * (q + 1)) (n := 9881 + 6 * (28 + 29 * (q + 1))) (by omega) (by omega) ?_
        exact ih (k + 1) (q + 1) (by omega) (by omega) (by omega) (by omega) H locs hP hD hS (by omega) ls (lv_sub hl [5, 6, 1, 0] rfl)
      · skip
        refine lv_if_gt (tgt := 415) hx hb dL_law_401 (by decide) (fun _ => ?_) (fun h9 => absurd (pos14 k (by omega) hz) h9)
        refine lv_iconst (v := (nI 1)) hx hb dL_law_415 (by decide) ?_
        refine lv_goto (tgt := 420) hx hb dL_law_416 (by decide) ?_
        refine lv_istore_n (lv' := [(2, .int (nI 1)), (6, .int (nI 31)), (5, .int (nI 1)), (4, .int (nI 63)), (0, .ref b), (1, .ref xo), (3, .int (nI k))]) hx hb dL_law_420 rfl hl (by decide) rfl (fun ls hl => ?_)
        refine x_iincN (lv' := [(3, .int (nI (k + 1))), (2, .int (nI 1)), (6, .int (nI 31)), (5, .int (nI 1)), (4, .int (nI 63)), (0, .ref b), (1, .ref xo)]) hx hb dL_law_421 hl (k := 6) rfl (by decide) rfl (fun ls hl => ?_)
        refine lv_goto (tgt := 53) hx hb dL_law_424 (by decide) ?_
        exact ih (k + 1) q (by omega) (by omega) (by omega) (by omega) H locs hP hD hS (by omega) ls (lv_sub hl [5, 6, 1, 0] rfl)

set_option maxHeartbeats 16000000 in
set_option maxRecDepth 100000 in
/-- the first turn: three vertices, a refusal of 29 -/
theorem law_first {p : Program} {e : Env} {s : State} {m : MethodId} {below : List Frame} {meth : Method} {c : Code} {l : Launch} {dG : va_G} {cI cJ : ClassId} {A : Nat → Prop} {b : Nat} {xs : Nat → Int32} {xo tl ts se lb g gA : Nat} {ns : Nat → Int64} {aR aV aH aD aP : Nat} {rk vb : Nat → Int32} {rc : Int32} {hs : Nat → Int64} {D Pp : Nat → Int32} {qa qb qc : Nat} {qv qd qp : Nat → Int32} {ql : Int32} {qs : Int64} {vi pr wr : Int32} (hns : ∀ v, ns v = 0) {X : va_W} (C0 : LZ p l s m meth c b xs dG cI cJ A) {H : Heap} {locs : List Loc} (hP : va_P dG vwCl (XW xo g lb se tl ts (bI false) ++ (GW cJ g gA (nI 0) (nI 0) ns ++ (LW cI cJ lb aR aV aH aD aP rk vb rc hs D Pp ++ (SW cI g lb se qa qb qc qv qd qp ql qs vi pr wr ++ X)))) H) (hD : va_D A (XW xo g lb se tl ts (bI false) ++ (GW cJ g gA (nI 0) (nI 0) ns ++ (LW cI cJ lb aR aV aH aD aP rk vb rc hs D Pp ++ (SW cI g lb se qa qb qc qv qd qp ql qs vi pr wr ++ X))))) (hS : va_S A s.heap H locs) (hN : s.heap.size + 28 ≤ H.size) {ls : Array Slot} (hl : lv_has ls 10 [(0, .ref b), (1, .ref xo), (2, .int (nI 1)), (3, .int (nI 0))]) : W p l e Rb s m #[Value.ref b] below meth c H locs 51 10049 (lz_Z below #[Value.ref b] s) (F0 m 53 ls []) := by
  obtain ⟨hx, hb, hr, hml, hown, hts, hX, hbl, hlocks, hK, hTK, hTH, hlt, hbA, hx0, hxs⟩ := id C0
  refine lv_iload_n hx hb dL_law_53 rfl (lv_at hl 3 rfl) ?_
  refine lv_bipush (v := (nI 70)) hx hb dL_law_54 (by decide) ?_
  refine lv_icmp_ge (tgt := 427) hx hb dL_law_56 (by decide) (fun h9 => (show False by revert h9; decide +kernel).elim) (fun _ => ?_)
  refine lv_iload_n hx hb dL_law_59 rfl (lv_at hl 2 rfl) ?_
  refine lv_if_eq (tgt := 427) hx hb dL_law_60 (by decide) (fun h9 => absurd h9 (by decide)) (fun _ => ?_)
  refine lv_aload_n hx hb dL_law_63 rfl (lv_at hl 0 rfl) ?_
  refine lv_iload_n hx hb dL_law_64 rfl (lv_at hl 3 rfl) ?_
  refine x_ri (W.runS (As := [.ref b, .int (nI 0)]) (rest := []) ⟨hx, hb, hml, hown, hts⟩ (r_dice l b 70 xs 0 (by omega) (by decide)) (va_cwS 2 hts gL_law_L_dice rfl rfl rfl (by decide +kernel) ⟨Nat.le_of_ble_eq_true rfl, Nat.le_of_ble_eq_true rfl⟩) (dice_pre hX hbl hbA hS) rfl rfl hl.1 rfl (lv_room (Nat.le_of_ble_eq_true rfl)) dL_law_65 ⟨(show 51 + 0 ≤ 1000 by omega), (show 10049 + 0 ≤ 20000 by omega)⟩) ?_
  rw [show (xs 0 &&& 2147483647) = nI 64 from by rw [hx0]; decide +kernel]
  refine lv_istore (lv' := [(4, .int (nI 64)), (0, .ref b), (1, .ref xo), (2, .int (nI 1)), (3, .int (nI 0))]) hx hb dL_law_68 hl (by decide) rfl (fun ls hl => ?_)
  refine lv_iload hx hb dL_law_70 (lv_at hl 0 rfl) ?_
  refine lv_bipush (v := (nI 32)) hx hb dL_law_72 (by decide) ?_
  refine lv_idiv hx hb dL_law_74 (by decide) ?_
  rw [show (nI 64) / (nI 32) = (nI 2) from by decide +kernel]
  refine lv_istore (lv' := [(5, .int (nI 2)), (4, .int (nI 64)), (0, .ref b), (1, .ref xo), (2, .int (nI 1)), (3, .int (nI 0))]) hx hb dL_law_75 hl (by decide) rfl (fun ls hl => ?_)
  refine lv_iload hx hb dL_law_77 (lv_at hl 1 rfl) ?_
  refine lv_bipush (v := (nI 32)) hx hb dL_law_79 (by decide) ?_
  refine lv_irem hx hb dL_law_81 (by decide) ?_
  rw [show (nI 64) - (nI 64) / (nI 32) * (nI 32) = (nI 0) from by decide +kernel]
  refine lv_istore (lv' := [(6, .int (nI 0)), (5, .int (nI 2)), (4, .int (nI 64)), (0, .ref b), (1, .ref xo), (2, .int (nI 1)), (3, .int (nI 0))]) hx hb dL_law_82 hl (by decide) rfl (fun ls hl => ?_)
  refine lv_aload_n hx hb dL_law_84 rfl (lv_at hl 4 rfl) ?_
  have hPc := hP.sub (ws' := (XW xo g lb se tl ts (bI false) ++ (GW cJ g gA (nI 0) (nI 0) ns ++ (LW cI cJ lb aR aV aH aD aP rk vb rc hs D Pp)))) [0, 1, 2, 3, 4, 5, 6, 7, 8] rfl
  refine x_ri (W.runV (As := []) (rest := []) ⟨hx, hb, hml, hown, hts⟩ (c_vertices l dG cI cJ xo tl ts false se g gA 0 0 ns lb aR aV aH aD aP rk vb rc hs D Pp (by decide)) (cwV 0 hts gL_law_X3_vertices rfl rfl rfl (by decide +kernel) ⟨Nat.le_of_ble_eq_true rfl, Nat.le_of_ble_eq_true rfl⟩) (RPc.pre hPc hK (va_recv hK.1 hPc (ci := 3) (q0 := 0) rfl rfl)) rfl rfl hl.1 rfl (lv_room (Nat.le_of_ble_eq_true rfl)) dL_law_85 ⟨(show 51 + 0 ≤ 1000 by omega), (show 10049 + 0 ≤ 20000 by omega)⟩) ?_
  refine lv_iconst (v := (nI 3)) hx hb dL_law_88 (by decide) ?_
  refine lv_icmp_lt (tgt := 98) hx hb dL_law_89 (by decide) (fun _ => ?_) (fun h9 => (show False by revert h9; decide +kernel).elim)
  refine lv_aload_n hx hb dL_law_98 rfl (lv_at hl 4 rfl) ?_
  refine lv_iconst (v := (nI 1)) hx hb dL_law_99 (by decide) ?_
  refine lv_iload hx hb dL_law_100 (lv_at hl 1 rfl) ?_
  refine lv_iload hx hb dL_law_102 (lv_at hl 1 rfl) ?_
  refine lv_bipush (v := (nI 50)) hx hb dL_law_104 (by decide) ?_
  refine lv_idiv hx hb dL_law_106 (by decide) ?_
  rw [show (nI 2) / (nI 50) = (nI 0) from by decide +kernel]
  refine lv_bipush (v := (nI 6)) hx hb dL_law_107 (by decide) ?_
  refine lv_irem hx hb dL_law_109 (by decide) ?_
  rw [show (nI 0) - (nI 0) / (nI 6) * (nI 6) = (nI 0) from by decide +kernel]
  refine lv_if_ne (tgt := 118) hx hb dL_law_110 (by decide) (fun h9 => absurd rfl h9) (fun _ => ?_)
  refine lv_bipush (v := (nI 20)) hx hb dL_law_113 (by decide) ?_
  refine lv_goto (tgt := 119) hx hb dL_law_115 (by decide) ?_
  refine lv_irem hx hb dL_law_119 (by decide) ?_
  rw [show (nI 2) - (nI 2) / (nI 20) * (nI 20) = (nI 2) from by decide +kernel]
  refine lv_iadd hx hb dL_law_120 ?_
  rw [show (nI 1) + (nI 2) = (nI 3) from by decide +kernel]
  refine va_calli (va_runS (As := [.ref xo, .int (nI 3)]) (rest := []) ⟨hx, hb, hml, hown, hts⟩ (h_isAdded l dG cI cJ A xo tl ts se lb g gA ns aR aV aH aD aP rk vb rc hs D Pp qa qb qc qv qd qp ql qs vi pr wr hns _) (va_cwS 2 hts gL_law_L_isAdded rfl rfl rfl (by decide +kernel) ⟨Nat.le_of_ble_eq_true rfl, Nat.le_of_ble_eq_true rfl⟩) (WPc.preS hP hD hK) rfl rfl hl.1 rfl (lv_room (Nat.le_of_ble_eq_true rfl)) dL_law_121 ⟨(show 51 + 0 ≤ 1000 by omega), (show 10049 + 0 ≤ 20000 by omega)⟩) hS (fun q _ h => h) (fun q h => h) (fun r9 u9 t H locs ht hvm hw hB hz1 hk1 hS => ?_)
  obtain ⟨hP, hD⟩ := hB
  rw [ht] at hP
  have hP : va_P dG vwCl (XW xo g lb se tl ts (bI false) ++ (GW cJ g gA (nI 3) (nI 0) ns ++ (LW cI cJ lb aR aV aH aD aP rk vb rc hs D Pp ++ (SW cI g lb se qa qb qc qv qd qp ql qs vi pr wr ++ X)))) H := hP
  have hD : va_D A (XW xo g lb se tl ts (bI false) ++ (GW cJ g gA (nI 3) (nI 0) ns ++ (LW cI cJ lb aR aV aH aD aP rk vb rc hs D Pp ++ (SW cI g lb se qa qb qc qv qd qp ql qs vi pr wr ++ X)))) := hD
  rw [show r9 = (bI true) from hw]
  have hN : s.heap.size + 28 ≤ H.size := Nat.le_trans hN hz1
  refine lv_istore_n (lv' := [(2, .int (bI true)), (6, .int (nI 0)), (5, .int (nI 2)), (4, .int (nI 64)), (0, .ref b), (1, .ref xo), (3, .int (nI 0))]) hx hb dL_law_124 rfl hl (by decide) rfl (fun ls hl => ?_)
  refine lv_goto (tgt := 323) hx hb dL_law_125 (by decide) ?_
  refine lv_iload_n hx hb dL_law_323 rfl (lv_at hl 0 rfl) ?_
  refine x_ifeqB (tgt := 419) hx hb dL_law_324 (by decide) (fun h9 => absurd h9 (by decide)) (fun h9 => ?_)
  refine lv_aload_n hx hb dL_law_327 rfl (lv_at hl 5 rfl) ?_
  have hPc := hP.sub (ws' := (XW xo g lb se tl ts (bI false) ++ (GW cJ g gA (nI 3) (nI 0) ns ++ (LW cI cJ lb aR aV aH aD aP rk vb rc hs D Pp ++ (SW cI g lb se qa qb qc qv qd qp ql qs vi pr wr))))) [0, 1, 2, 3, 4, 5, 6, 7, 8, 9, 10, 11, 12] rfl
  refine x_ri (W.runS (As := [.ref xo]) (rest := []) ⟨hx, hb, hml, hown, hts⟩ (r_isGraph l dG cI cJ xo tl ts se lb g gA 3 ns aR aV aH aD aP rk vb rc hs D Pp qa qb qc qv qd qp ql qs vi pr wr (by decide) hns) (va_cwS 1 hts gL_law_L_isGraph rfl rfl rfl (by decide +kernel) ⟨Nat.le_of_ble_eq_true rfl, Nat.le_of_ble_eq_true rfl⟩) (RPc.preS hPc hK) rfl rfl hl.1 rfl (lv_room (Nat.le_of_ble_eq_true rfl)) dL_law_328 ⟨(show 51 + 0 ≤ 1000 by omega), (show 10049 + 0 ≤ 20000 by omega)⟩) ?_
  refine x_ifeqB (tgt := 419) hx hb dL_law_331 (by decide) (fun h9 => absurd h9 (by decide)) (fun h9 => ?_)
  refine lv_aload_n hx hb dL_law_334 rfl (lv_at hl 5 rfl) ?_
  have hPc := hP.sub (ws' := (XW xo g lb se tl ts (bI false) ++ (GW cJ g gA (nI 3) (nI 0) ns ++ (LW cI cJ lb aR aV aH aD aP rk vb rc hs D Pp)))) [0, 1, 2, 3, 4, 5, 6, 7, 8] rfl
  refine x_ri (W.runV (As := []) (rest := []) ⟨hx, hb, hml, hown, hts⟩ (c_isBuilt l dG cI cJ xo tl ts false se g gA 3 0 ns lb aR aV aH aD aP rk vb rc hs D Pp (by decide)) (cwV 0 hts gL_law_X3_isBuilt rfl rfl rfl (by decide +kernel) ⟨Nat.le_of_ble_eq_true rfl, Nat.le_of_ble_eq_true rfl⟩) (RPc.pre hPc hK (va_recv hK.1 hPc (ci := 3) (q0 := 0) rfl rfl)) rfl rfl hl.1 rfl (lv_room (Nat.le_of_ble_eq_true rfl)) dL_law_335 ⟨(show 51 + 0 ≤ 1000 by omega), (show 10049 + 0 ≤ 20000 by omega)⟩) ?_
  refine x_ifeqB (tgt := 397) hx hb dL_law_338 (by decide) (fun h9 => ?_) (fun h9 => absurd h9 (by decide))
  refine lv_iload_n hx hb dL_law_397 rfl (lv_at hl 6 rfl) ?_
  refine lv_bipush (v := (nI 14)) hx hb dL_law_398 (by decide) ?_
  refine lv_irem hx hb dL_law_400 (by decide) ?_
  rw [show (nI 0) - (nI 0) / (nI 14) * (nI 14) = (nI 0) from by decide +kernel]
  refine lv_if_gt (tgt := 415) hx hb dL_law_401 (by decide) (fun h9 => (show False by revert h9; decide +kernel).elim) (fun _ => ?_)
  refine lv_aload_n hx hb dL_law_404 rfl (lv_at hl 5 rfl) ?_
  refine lv_iload hx hb dL_law_405 (lv_at hl 3 rfl) ?_
  refine lv_iconst (v := (nI 3)) hx hb dL_law_407 (by decide) ?_
  refine lv_idiv hx hb dL_law_408 (by decide) ?_
  rw [show (nI 64) / (nI 3) = (nI 21) from by decide +kernel]
  refine va_calli (va_runS (As := [.ref xo, .int (nI 21)]) (rest := []) ⟨hx, hb, hml, hown, hts⟩ (y_refused_3 l hlt dG cI cJ A xo tl ts se lb g gA ns aR aV aH aD aP rk vb rc hs D Pp qa qb qc qv qd qp ql qs vi pr wr hns _ _) (va_cwS 2 hts gL_law_L_isRefused rfl rfl rfl (by decide +kernel) ⟨Nat.le_of_ble_eq_true rfl, Nat.le_of_ble_eq_true rfl⟩) (YPc.preS hP hD hK hTK (hTH.kept hS.2.1) hN) rfl rfl hl.1 rfl (lv_room (Nat.le_of_ble_eq_true rfl)) dL_law_409 ⟨(show 51 + 29 ≤ 1000 by omega), (show 10049 + 174 ≤ 20000 by omega)⟩) hS (fun q _ h => h) (fun q h => h) (fun r9 u9 t H locs ht hvm hw hB hz1 hk1 hS => ?_)
  obtain ⟨hP, hD, hN⟩ := hB
  rw [ht] at hP hN
  have hN : s.heap.size + 28 + 29 ≤ H.size := hN
  have hP : va_P dG vwCl (XW xo g lb se tl ts (bI false) ++ (GW cJ g gA (nI 3) (nI 0) ns ++ (LW cI cJ lb aR aV aH aD aP rk vb rc hs D Pp ++ (SW cI g lb se qa qb qc qv qd qp ql qs vi pr wr ++ X)))) H := hP
  have hD : va_D A (XW xo g lb se tl ts (bI false) ++ (GW cJ g gA (nI 3) (nI 0) ns ++ (LW cI cJ lb aR aV aH aD aP rk vb rc hs D Pp ++ (SW cI g lb se qa qb qc qv qd qp ql qs vi pr wr ++ X)))) := hD
  rw [show r9 = (bI true) from hw]
  refine x_ifeqB (tgt := 419) hx hb dL_law_412 (by decide) (fun h9 => absurd h9 (by decide)) (fun h9 => ?_)
  refine lv_iconst (v := (nI 1)) hx hb dL_law_415 (by decide) ?_
  refine lv_goto (tgt := 420) hx hb dL_law_416 (by decide) ?_
  refine lv_istore_n (lv' := [(2, .int (nI 1)), (6, .int (nI 0)), (5, .int (nI 2)), (4, .int (nI 64)), (0, .ref b), (1, .ref xo), (3, .int (nI 0))]) hx hb dL_law_420 rfl hl (by decide) rfl (fun ls hl => ?_)
  refine lv_iinc (v := (nI 1)) (lv' := [(3, .int (nI 1)), (2, .int (nI 1)), (6, .int (nI 0)), (5, .int (nI 2)), (4, .int (nI 64)), (0, .ref b), (1, .ref xo)]) hx hb dL_law_421 hl (k := 6) rfl (by decide +kernel) (by decide) rfl (fun ls hl => ?_)
  refine lv_goto (tgt := 53) hx hb dL_law_424 (by decide) ?_
  refine W.widen (k := 51 + 29 * 1) (n := 9881 + 6 * (28 + 29 * 1)) (by omega) (by omega) ?_
  exact law_turns hns C0 69 1 1 (by omega) (by omega) (by omega) (by omega) H locs hP hD hS (by omega) ls (lv_sub hl [5, 6, 1, 0] rfl)
