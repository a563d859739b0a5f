/-! the law's loop -/
set_option maxHeartbeats 4000000 in
set_option maxRecDepth 100000 in
/-- one turn: the switch -/
theorem law_turn {p : Program} {e : Env} {s : State} {m : MethodId} {below : List Frame} {meth : Method} {c : Code} {l : Launch} {dG : va_G} {cI cJ : ClassId} {A : Nat → Prop} {b L9 : Nat} {xs : Nat → Int32} {QQ : State → Prop} {fx : Nat → Nat} {turn i ce sl : Nat} {Wd : va_W} {H : Heap} {locs : List Loc} {ls : Array Slot} (C0 : LC p l s m meth c b L9 xs dG cI cJ A) (hce : ce + 1 ≤ 1065) (hsl : sl + 6 ≤ 27739) (ht9 : turn < 512) (hi9 : i + 4 ≤ L9) (hI : LI cI cJ fx turn Wd) (hP : va_P dG vwCl Wd H) (hD : va_D A Wd) (hS : va_S A s.heap H locs) (hl : lv_has ls 8 [(0, .ref b), (1, .ref (fx 0)), (2, .ref (fx 23)), (3, .ref (fx 32)), (4, .int (nI i))])
    (kk : KT p l e s m below meth c dG cI cJ A b QQ fx (turn + 1) i (ce + 1) (sl + 6)) : W p l e room_1 s m #[Value.ref b] below meth c H locs ce sl QQ (F0 m 32 ls []) := by
  obtain ⟨hx, hb, hr, hml, hown, hts, hX, hbl, hlocks, hK, hTK, hTH, hlt, hbA, hL9⟩ := id C0
  refine lv_aload_n hx hb dL_law_32 rfl (lv_at hl 0 rfl) ?_
  refine lv_iload hx hb dL_law_33 (lv_at hl 4 rfl) ?_
  refine va_sld hx hb hX hbl hbA hS (vp_in_nI (n := i) (by omega) (by omega)) dL_law_35 ?_
  refine lv_bipush (v := nI 31) hx hb dL_law_36 (by decide) ?_
  refine lv_iand hx hb dL_law_38 ?_
  obtain ⟨v, hv, ev⟩ := and31 (xs (nI i).toNatClampNeg)
  rw [ev]
  rcases (show v = 0 ∨ v = 1 ∨ v = 2 ∨ v = 3 ∨ v = 4 ∨ v = 5 ∨ v = 6 ∨ v = 7 ∨ v = 8 ∨ v = 9 ∨ v = 10 ∨ v = 11 ∨ v = 12 ∨ v = 13 ∨ v = 14 ∨ v = 15 ∨ v = 16 ∨ v = 17 ∨ v = 18 ∨ v = 19 ∨ v = 20 ∨ v = 21 ∨ v = 22 ∨ 23 ≤ v by omega) with rfl | rfl | rfl | rfl | rfl | rfl | rfl | rfl | rfl | rfl | rfl | rfl | rfl | rfl | rfl | rfl | rfl | rfl | rfl | rfl | rfl | rfl | rfl | hv9
  · exact lv_tableIn (off := 105) (tgt := 144) hx hb dL_law_39 (by decide +kernel) (by decide +kernel) (by decide +kernel) (by decide) (k_addVertex C0 hce hsl ht9 hi9 hI hP hD hS hl kk)
  · exact lv_tableIn (off := 149) (tgt := 188) hx hb dL_law_39 (by decide +kernel) (by decide +kernel) (by decide +kernel) (by decide) (k_addVertices C0 hce hsl ht9 hi9 hI hP hD hS hl kk)
  · exact lv_tableIn (off := 205) (tgt := 244) hx hb dL_law_39 (by decide +kernel) (by decide +kernel) (by decide +kernel) (by decide) (k_addEdge C0 hce hsl ht9 hi9 hI hP hD hS hl kk)
  · exact lv_tableIn (off := 273) (tgt := 312) hx hb dL_law_39 (by decide +kernel) (by decide +kernel) (by decide +kernel) (by decide) (k_clear C0 hce hsl ht9 hi9 hI hP hD hS hl kk)
  · exact lv_tableIn (off := 286) (tgt := 325) hx hb dL_law_39 (by decide +kernel) (by decide +kernel) (by decide +kernel) (by decide) (k_vertices C0 hce hsl ht9 hi9 hI hP hD hS hl kk)
  · exact lv_tableIn (off := 299) (tgt := 338) hx hb dL_law_39 (by decide +kernel) (by decide +kernel) (by decide +kernel) (by decide) (k_edges C0 hce hsl ht9 hi9 hI hP hD hS hl kk)
  · exact lv_tableIn (off := 312) (tgt := 351) hx hb dL_law_39 (by decide +kernel) (by decide +kernel) (by decide +kernel) (by decide) (k_neighbours C0 hce hsl ht9 hi9 hI hP hD hS hl kk)
  · exact lv_tableIn (off := 367) (tgt := 406) hx hb dL_law_39 (by decide +kernel) (by decide +kernel) (by decide +kernel) (by decide) (k_build C0 hce hsl ht9 hi9 hI hP hD hS hl kk)
  · exact lv_tableIn (off := 380) (tgt := 419) hx hb dL_law_39 (by decide +kernel) (by decide +kernel) (by decide +kernel) (by decide) (k_isBuilt C0 hce hsl ht9 hi9 hI hP hD hS hl kk)
  · exact lv_tableIn (off := 393) (tgt := 432) hx hb dL_law_39 (by decide +kernel) (by decide +kernel) (by decide +kernel) (by decide) (k_rank C0 hce hsl ht9 hi9 hI hP hD hS hl kk)
  · exact lv_tableIn (off := 449) (tgt := 488) hx hb dL_law_39 (by decide +kernel) (by decide +kernel) (by decide +kernel) (by decide) (k_entries C0 hce hsl ht9 hi9 hI hP hD hS hl kk)
  · exact lv_tableIn (off := 462) (tgt := 501) hx hb dL_law_39 (by decide +kernel) (by decide +kernel) (by decide +kernel) (by decide) (k_entriesIfBuilt C0 hce hsl ht9 hi9 hI hP hD hS hl kk)
  · exact lv_tableIn (off := 475) (tgt := 514) hx hb dL_law_39 (by decide +kernel) (by decide +kernel) (by decide +kernel) (by decide) (k_labelSize C0 hce hsl ht9 hi9 hI hP hD hS hl kk)
  · exact lv_tableIn (off := 531) (tgt := 570) hx hb dL_law_39 (by decide +kernel) (by decide +kernel) (by decide +kernel) (by decide) (k_entryHub C0 hce hsl ht9 hi9 hI hP hD hS hl kk)
  · exact lv_tableIn (off := 599) (tgt := 638) hx hb dL_law_39 (by decide +kernel) (by decide +kernel) (by decide +kernel) (by decide) (k_entryDistance C0 hce hsl ht9 hi9 hI hP hD hS hl kk)
  · exact lv_tableIn (off := 667) (tgt := 706) hx hb dL_law_39 (by decide +kernel) (by decide +kernel) (by decide +kernel) (by decide) (k_entryParent C0 hce hsl ht9 hi9 hI hP hD hS hl kk)
  · exact lv_tableIn (off := 735) (tgt := 774) hx hb dL_law_39 (by decide +kernel) (by decide +kernel) (by decide +kernel) (by decide) (k_distance C0 hce hsl ht9 hi9 hI hP hD hS hl kk)
  · exact lv_tableIn (off := 803) (tgt := 842) hx hb dL_law_39 (by decide +kernel) (by decide +kernel) (by decide +kernel) (by decide) (k_hub C0 hce hsl ht9 hi9 hI hP hD hS hl kk)
  · exact lv_tableIn (off := 871) (tgt := 910) hx hb dL_law_39 (by decide +kernel) (by decide +kernel) (by decide +kernel) (by decide) (k_pathVertex C0 hce hsl ht9 hi9 hI hP hD hS hl kk)
  · exact lv_tableIn (off := 951) (tgt := 990) hx hb dL_law_39 (by decide +kernel) (by decide +kernel) (by decide +kernel) (by decide) (k_within C0 hce hsl ht9 hi9 hI hP hD hS hl kk)
  · exact lv_tableIn (off := 1018) (tgt := 1057) hx hb dL_law_39 (by decide +kernel) (by decide +kernel) (by decide +kernel) (by decide) (k_eccentricity C0 hce hsl ht9 hi9 hI hP hD hS hl kk)
  · exact lv_tableIn (off := 1074) (tgt := 1113) hx hb dL_law_39 (by decide +kernel) (by decide +kernel) (by decide +kernel) (by decide) (k_pruned C0 hce hsl ht9 hi9 hI hP hD hS hl kk)
  · exact lv_tableIn (off := 1087) (tgt := 1126) hx hb dL_law_39 (by decide +kernel) (by decide +kernel) (by decide +kernel) (by decide) (k_written C0 hce hsl ht9 hi9 hI hP hD hS hl kk)
  · refine lv_tableOut (tgt := 1139) hx hb dL_law_39 (Or.inr (by rw [nI_toInt (by omega)]; omega)) (by decide) ?_
    refine W.widen (k := ce + 1) (n := sl + 6) (by omega) (by omega) ?_
    refine kk Wd ?_ H locs hP hD hS ls hl
    obtain ⟨n, ec, pn, wn, bt, ns, rk, vb, rc, hs, D, Pp, qv, qd, qp, ql, qs, vi, trk, tvb, trc, ths, tD, tP, tqv, tqd, tqp, tql, tqs, tvi, tpr, twr, dis, par, hubs, rnks, que, far, frm, vis, cut, put, th, of, h1, h2, h3, h4⟩ := hI
    exact ⟨n, ec, pn, wn, bt, ns, rk, vb, rc, hs, D, Pp, qv, qd, qp, ql, qs, vi, trk, tvb, trc, ths, tD, tP, tqv, tqd, tqp, tql, tqs, tvi, tpr, twr, dis, par, hubs, rnks, que, far, frm, vis, cut, put, th, of, h1, h2, h3, fun h9 => (h4 h9).mono (Nat.le_succ _)⟩
set_option maxHeartbeats 4000000 in
set_option maxRecDepth 100000 in
/-- THE LAW'S LOOP -/
theorem law_loop {p : Program} {e : Env} {s : State} {m : MethodId} {below : List Frame} {meth : Method} {c : Code} {l : Launch} {dG : va_G} {cI cJ : ClassId} {b L9 : Nat} {xs : Nat → Int32} {fx : Nat → Nat} (C0 : LC p l s m meth c b L9 xs dG cI cJ (fun q : Nat => s.heap.size ≤ q)) :
    ∀ (f turn : Nat), L9 < 4 * turn + 4 * f → 4 * turn ≤ L9 → ∀ (Wd : va_W), LI cI cJ fx turn Wd → ∀ (H : Heap) (locs : List Loc), va_P dG vwCl Wd H → va_D (fun q : Nat => s.heap.size ≤ q) Wd → va_S (fun q : Nat => s.heap.size ≤ q) s.heap H locs → ∀ ls : Array Slot, lv_has ls 8 [(0, .ref b), (1, .ref (fx 0)), (2, .ref (fx 23)), (3, .ref (fx 32)), (4, .int (nI (4 * turn)))] →
      W p l e room_1 s m #[Value.ref b] below meth c H locs (33 + turn) (19499 + 6 * turn) (lw_Z below #[Value.ref b] s) (F0 m 23 ls []) := by
  obtain ⟨hx, hb, hr, hml, hown, hts, hX, hbl, hlocks, hK, hTK, hTH, hlt, hbA, hL9⟩ := id C0
  intro f
  induction f with
  | zero => intro turn h1 h2; exact absurd h1 (by omega)
  | succ f ih =>
    intro turn h1 h2 Wd hI H locs hP hD hS ls hl
    refine lv_iload hx hb dL_law_23 (lv_at hl 4 rfl) ?_
    refine lv_aload_n hx hb dL_law_25 rfl (lv_at hl 0 rfl) ?_
    refine va_slen hx hb hX hbl hbA hS dL_law_26 ?_
    refine lv_iconst (v := nI 4) hx hb dL_law_27 (by decide) ?_
    refine lv_isub hx hb dL_law_28 ?_
    refine lv_icmp_gt (tgt := 1145) hx hb dL_law_29 (by decide) (fun c9 => ?_) (fun c9 => ?_)
    · refine lv_iconst (v := 1) hx hb dL_law_1145 (by decide) ?_
      refine va_forget (fun q hq => hS.2.2 q hq) ?_
      refine W.widen (k := 1065) (n := 27739) (by omega) (by omega) ?_
      exact lw_ret hx hb hr hlocks dL_law_1146
    · have hi : 4 * turn + 4 ≤ L9 := len_ok hL9 (by omega) c9
      refine law_turn C0 (by omega) (by omega) (by omega) hi hI hP hD hS hl ?_
      intro Wd hI H locs hP hD hS ls hl
      refine lv_iinc (v := nI (4 * (turn + 1))) (lv' := [(4, .int (nI (4 * (turn + 1)))), (0, .ref b), (1, .ref (fx 0)), (2, .ref (fx 23)), (3, .ref (fx 32))]) hx hb dL_law_1139 hl (k := 4) rfl (by rw [show Int32.ofInt 4 = nI 4 from by decide, nI_add]; rfl) (by decide) rfl (fun ls hl => ?_)
      refine lv_goto (tgt := 23) hx hb dL_law_1142 (by decide) ?_
      exact ih (turn + 1) (by omega) (by omega) Wd hI H locs hP hD hS ls (lv_sub hl [1, 2, 3, 4, 0] rfl)
