/-! the reference: what only reads, and its counters -/
/-- the least rank from j on, below n, with this sum -/
def fdg (L : Nat → Nat → Option Nat) (u v s : Nat) : Nat → Nat → Option Nat
  | 0, _ => none
  | f + 1, j => if ((L u j).isSome && (L v j).isSome) = true ∧ lsm L u v j = s then some j else fdg L u v s f (j + 1)
def fdn (L : Nat → Nat → Option Nat) (u v s n j : Nat) : Option Nat := fdg L u v s (n - j) j
theorem fdn_n {L : Nat → Nat → Option Nat} {u v s n : Nat} : fdn L u v s n n = none := by
  unfold fdn; rw [Nat.sub_self]; rfl
theorem fdn_u {L : Nat → Nat → Option Nat} {u v s n k : Nat} (hk : k < n) : fdn L u v s n k = if ((L u k).isSome && (L v k).isSome) = true ∧ lsm L u v k = s then some k else fdn L u v s n (k + 1) := by
  unfold fdn
  rw [show n - k = (n - (k + 1)) + 1 by omega]
  rfl
theorem fdn_yes {L : Nat → Nat → Option Nat} {u v s n k : Nat} (hk : k + 1 ≤ n) (h : ((L u k).isSome && (L v k).isSome) = true) (e : lsm L u v k = s) : fdn L u v s n k = some k := by
  rw [fdn_u (by omega), if_pos ⟨h, e⟩]
theorem fdn_ne {L : Nat → Nat → Option Nat} {u v s n k : Nat} (hk : k + 1 ≤ n) (e : lsm L u v k ≠ s) : fdn L u v s n k = fdn L u v s n (k + 1) := by
  rw [fdn_u (by omega), if_neg (fun q => e q.2)]
theorem fdn_no {L : Nat → Nat → Option Nat} {u v s n k : Nat} (hk : k + 1 ≤ n) (h : ((L u k).isSome && (L v k).isSome) = false) : fdn L u v s n k = fdn L u v s n (k + 1) := by
  rw [fdn_u (by omega), if_neg (fun q => by rw [h] at q; exact absurd q.1 (by decide))]
theorem mr_some {L : Nat → Nat → Option Nat} {u v i : Nat} (hc : ((L u i).isSome && (L v i).isSome) = true) : ∀ {k : Nat}, i < k → (mr L u v k).isSome = true := by
  intro k
  induction k with
  | zero => intro h; exact absurd h (Nat.not_lt_zero _)
  | succ k ih =>
    intro h
    cases hk : ((L u k).isSome && (L v k).isSome) with
    | false =>
      have : i ≠ k := fun z => by rw [z, hk] at hc; cases hc
      rw [mr_no hk]; exact ih (by omega)
    | true =>
      cases hm : mr L u v k with
      | none => rw [mr_first hk hm]; rfl
      | some r =>
        rcases Nat.lt_or_ge (lsm L u v k) (lsm L u v r) with g | g
        · rw [mr_less hk hm g]; rfl
        · rw [mr_keep hk hm g]; rfl
theorem mr_min {L : Nat → Nat → Option Nat} {u v : Nat} : ∀ {k q : Nat}, mr L u v k = some q → ∀ i, i < k → ((L u i).isSome && (L v i).isSome) = true → lsm L u v q ≤ lsm L u v i ∧ (i < q → lsm L u v q < lsm L u v i) := by
  intro k
  induction k with
  | zero => intro q h; cases h
  | succ k ih =>
    intro q h i hi hc
    cases hk : ((L u k).isSome && (L v k).isSome) with
    | false =>
      rw [mr_no hk] at h
      have : i ≠ k := fun z => by rw [z, hk] at hc; cases hc
      exact ih h i (by omega) hc
    | true =>
      cases hm : mr L u v k with
      | none =>
        rw [mr_first hk hm] at h
        cases h
        rcases Nat.lt_or_ge i k with g | g
        · exact absurd hm (by
            have := mr_some hc g
            intro z; rw [z] at this; cases this)
        · rw [show i = k by omega]
          exact ⟨Nat.le_refl _, fun z => absurd z (Nat.lt_irrefl _)⟩
      | some r =>
        have ho := mr_ok hm
        rcases Nat.lt_or_ge (lsm L u v k) (lsm L u v r) with g | g
        · rw [mr_less hk hm g] at h
          cases h
          rcases Nat.lt_or_ge i k with z | z
          · have := (ih hm i z hc).1
            exact ⟨by omega, fun _ => by omega⟩
          · rw [show i = k by omega]
            exact ⟨Nat.le_refl _, fun z => absurd z (Nat.lt_irrefl _)⟩
        · rw [mr_keep hk hm g] at h
          cases h
          rcases Nat.lt_or_ge i k with z | z
          · exact ih hm i z hc
          · rw [show i = k by omega]
            exact ⟨g, fun z => by omega⟩
theorem fdg_mr {L : Nat → Nat → Option Nat} {u v q : Nat} (hq : ((L u q).isSome && (L v q).isSome) = true) : ∀ (f j : Nat), j ≤ q → q < j + f → (∀ i, i < q → ((L u i).isSome && (L v i).isSome) = true → lsm L u v q < lsm L u v i) → fdg L u v (lsm L u v q) f j = some q
  | 0, j, h1, h2, _ => absurd h2 (by omega)
  | f + 1, j, h1, h2, h3 => by
    show (if _ then _ else _) = _
    rcases Nat.lt_or_ge j q with g | g
    · rw [if_neg (fun z => absurd z.2 (Nat.ne_of_gt (h3 j g z.1)))]
      exact fdg_mr hq f (j + 1) g (by omega) h3
    · have : j = q := by omega
      subst this
      rw [if_pos ⟨hq, rfl⟩]
theorem fdn_mr {L : Nat → Nat → Option Nat} {u v q n : Nat} (hm : mr L u v n = some q) : fdn L u v (lsm L u v q) n 0 = some q := by
  have ho := mr_ok hm
  exact fdg_mr (by rw [ho.2.1, ho.2.2]; rfl) (n - 0) 0 (Nat.zero_le _) (by omega) (fun i hi hc => (mr_min hm i (by omega) hc).2 hi)
set_option maxHeartbeats 4000000 in
set_option maxRecDepth 100000 in
/-- reference: at -/
theorem m_at (l : Launch) (dG : va_G) (cI cJ : ClassId) (tb v r : Nat) : Met l yX4_at wsX4_at ({ frames := 0, cells := 0, slots := 0, locals := 0 } : Room) (RPc dG cI cJ [.int (nI tb), .int (nI v), .int (nI r)] []) (vp_Si (fun r9 => r9 = (nI (2304 * tb + 48 * v + r)))) 0 0 (fun _ => False) := by
  refine Met.ofW (cc := cX4_at) (maxL := 3) (ret := (some .int)) (by decide) rfl ?_
  intro p e s m args below meth c s₁ B9 hml hv
  obtain ⟨rfl, hP, hK⟩ := hv
  have hx := B9.exec
  have hb := B9.bytes
  have hr := B9.returns
  have hts := atoms_spec (ws := wsX4_at) B9.pre
  have hown : s.vm.findClass RX4 = some m.cls := findClass_of_methodNamed B9.named
  have hlocks := B9.notSynchronized
  have hl := lv_entry ([.int (nI tb), .int (nI v), .int (nI r)]) (n := 3) (Nat.le_of_ble_eq_true rfl)
  rw [lg_entry_eq]
  generalize (lg_sl ([.int (nI tb), .int (nI v), .int (nI r)]) ++ List.replicate (3 - (lg_sl ([.int (nI tb), .int (nI v), .int (nI r)])).length) Slot.unset).toArray = ls at hl ⊢
  have hl : lv_has ls 3 [(0, .int (nI tb)), (1, .int (nI v)), (2, .int (nI r))] := hl
  refine lv_sipush (v := (nI 2304)) hx hb dX4_at_0 (by decide) ?_
  refine lv_iload_n hx hb dX4_at_3 rfl (lv_at hl 0 rfl) ?_
  refine x_mulN (i := 2304) (j := tb) hx hb dX4_at_4 ?_
  refine lv_bipush (v := (nI 48)) hx hb dX4_at_5 (by decide) ?_
  refine lv_iload_n hx hb dX4_at_7 rfl (lv_at hl 1 rfl) ?_
  refine x_mulN (i := 48) (j := v) hx hb dX4_at_8 ?_
  refine x_addN (i := (2304 * tb)) (j := (48 * v)) hx hb dX4_at_9 ?_
  refine lv_iload_n hx hb dX4_at_10 rfl (lv_at hl 2 rfl) ?_
  refine x_addN (i := ((2304 * tb) + (48 * v))) (j := r) hx hb dX4_at_11 ?_
  exact W.iret (v := (nI (((2304 * tb) + (48 * v)) + r))) hx hb hr (fun t ht hW => ⟨_, rfl, rfl, ht⟩) (fun _ h => nomatch h) dX4_at_12

set_option maxHeartbeats 4000000 in
set_option maxRecDepth 100000 in
/-- reference: isVertex -/
theorem m_isVertex (l : Launch) (dG : va_G) (cI cJ : ClassId) (mo mN mD mP mH mR mQ mF mO : Nat) (near : Nat → Int64) (n ec : Nat) (bt : Bool) (dis par hubs rnks que far frm : Nat → Int32) (vi cu pu pn wn : Nat) (th : Int32) (hn : n < 2 ^ 31) (x : Int32) : Met l yX4_isVertex wsX4_isVertex ({ frames := 0, cells := 0, slots := 0, locals := 0 } : Room) (RPc dG cI cJ [.ref mo, .int x] (MW cI cJ mo mN mD mP mH mR mQ mF mO near (nI n) (nI ec) (bI bt) dis par hubs rnks que far frm (nI vi) (nI cu) (nI pu) (nI pn) (nI wn) th)) (vp_Si (fun r9 => r9 = (bI (inV x n)))) 0 0 (fun _ => False) := by
  refine Met.ofW (cc := cX4_isVertex) (maxL := 2) (ret := (some .boolean)) (by decide) rfl ?_
  intro p e s m args below meth c s₁ B9 hml hv
  obtain ⟨rfl, hP, hK⟩ := hv
  have hx := B9.exec
  have hb := B9.bytes
  have hr := B9.returns
  have hts := atoms_spec (ws := wsX4_isVertex) B9.pre
  have hown : s.vm.findClass RX4 = some m.cls := findClass_of_methodNamed B9.named
  have hlocks := B9.notSynchronized
  have hl := lv_entry ([.ref mo, .int x]) (n := 2) (Nat.le_of_ble_eq_true rfl)
  rw [lg_entry_eq]
  generalize (lg_sl ([.ref mo, .int x]) ++ List.replicate (2 - (lg_sl ([.ref mo, .int x])).length) Slot.unset).toArray = ls at hl ⊢
  have hl : lv_has ls 2 [(0, .ref mo), (1, .int x)] := hl
  have hiX4 : ∀ w ∈ wsX40, w ∈ wsX4_isVertex := by decide +kernel
  have hf39 := hts (.fieldLink RX4 39 "LandmarkLeaModel" "many" "I") (by decide +kernel)
  refine lv_iload_n hx hb dX4_isVertex_0 rfl (lv_at hl 1 rfl) ?_
  refine lv_if_lt (tgt := 16) hx hb dX4_isVertex_1 (by decide) (fun c1 => ?_) (fun c1 => ?_)
  · skip
    refine lv_iconst (v := (nI 0)) hx hb dX4_isVertex_16 (by decide) ?_
    exact W.zret (v := (nI 0)) (ty := .boolean) hx hb hr (by decide) (fun t ht hW => ⟨_, rfl, (show (nI 0) = (bI (inV x n)) from by rw [inV_neg c1]; rfl), ht⟩) (fun _ h => nomatch h) dX4_isVertex_17
  · skip
    refine lv_iload_n hx hb dX4_isVertex_4 rfl (lv_at hl 1 rfl) ?_
    refine lv_aload_n hx hb dX4_isVertex_5 rfl (lv_at hl 0 rfl) ?_
    refine va_get (D := dG) (ci := 4) (v := .int (nI n)) (C := RX4) (T := TX4) (N := 17) hx hb hts hiX4 hown hK.1 hP 0 rfl rfl 1 (by decide) hf39 (fun _ h9 => h9) rfl dX4_isVertex_6 ?_
    refine lv_icmp_ge (tgt := 16) hx hb dX4_isVertex_9 (by decide) (fun c9 => ?_) (fun c9 => ?_)
    · skip
      refine lv_iconst (v := (nI 0)) hx hb dX4_isVertex_16 (by decide) ?_
      exact W.zret (v := (nI 0)) (ty := .boolean) hx hb hr (by decide) (fun t ht hW => ⟨_, rfl, (show (nI 0) = (bI (inV x n)) from by rw [inV_ge hn c9]; rfl), ht⟩) (fun _ h => nomatch h) dX4_isVertex_17
    · skip
      refine lv_iconst (v := (nI 1)) hx hb dX4_isVertex_12 (by decide) ?_
      refine lv_goto (tgt := 17) hx hb dX4_isVertex_13 (by decide) ?_
      exact W.zret (v := (nI 1)) (ty := .boolean) hx hb hr (by decide) (fun t ht hW => ⟨_, rfl, (show (nI 1) = (bI (inV x n)) from by rw [inV_in hn c1 c9]; rfl), ht⟩) (fun _ h => nomatch h) dX4_isVertex_17

set_option maxHeartbeats 4000000 in
set_option maxRecDepth 100000 in
/-- reference: isEdge -/
theorem m_isEdge (l : Launch) (dG : va_G) (cI cJ : ClassId) (mo mN mD mP mH mR mQ mF mO : Nat) (near : Nat → Int64) (n ec : Nat) (bt : Bool) (dis par hubs rnks que far frm : Nat → Int32) (vi cu pu pn wn : Nat) (th : Int32) (a b : Nat) (ha : a < 48) (hb2 : b < 48) : Met l yX4_isEdge wsX4_isEdge ({ frames := 0, cells := 0, slots := 0, locals := 0 } : Room) (RPc dG cI cJ [.ref mo, .int (nI a), .int (nI b)] (MW cI cJ mo mN mD mP mH mR mQ mF mO near (nI n) (nI ec) (bI bt) dis par hubs rnks que far frm (nI vi) (nI cu) (nI pu) (nI pn) (nI wn) th)) (vp_Si (fun r9 => r9 = (bI (gb (near a) b)))) 0 0 (fun _ => False) := by
  refine Met.ofW (cc := cX4_isEdge) (maxL := 3) (ret := (some .boolean)) (by decide) rfl ?_
  intro p e s m args below meth c s₁ B9 hml hv
  obtain ⟨rfl, hP, hK⟩ := hv
  have hx := B9.exec
  have hb := B9.bytes
  have hr := B9.returns
  have hts := atoms_spec (ws := wsX4_isEdge) B9.pre
  have hown : s.vm.findClass RX4 = some m.cls := findClass_of_methodNamed B9.named
  have hlocks := B9.notSynchronized
  have hl := lv_entry ([.ref mo, .int (nI a), .int (nI b)]) (n := 3) (Nat.le_of_ble_eq_true rfl)
  rw [lg_entry_eq]
  generalize (lg_sl ([.ref mo, .int (nI a), .int (nI b)]) ++ List.replicate (3 - (lg_sl ([.ref mo, .int (nI a), .int (nI b)])).length) Slot.unset).toArray = ls at hl ⊢
  have hl : lv_has ls 3 [(0, .ref mo), (1, .int (nI a)), (2, .int (nI b))] := hl
  have hiX4 : ∀ w ∈ wsX40, w ∈ wsX4_isEdge := by decide +kernel
  have hf7 := hts (.fieldLink RX4 7 "LandmarkLeaModel" "near" "[J") (by decide +kernel)
  refine lv_aload_n hx hb dX4_isEdge_0 rfl (lv_at hl 0 rfl) ?_
  refine va_get (D := dG) (ci := 4) (v := .ref mN) (C := RX4) (T := TX4) (N := 17) hx hb hts hiX4 hown hK.1 hP 0 rfl rfl 0 (by decide) hf7 (fun _ h9 => h9) rfl dX4_isEdge_1 ?_
  refine lv_iload_n hx hb dX4_isEdge_4 rfl (lv_at hl 1 rfl) ?_
  refine x_lald (f := near) hx hb hK hP 1 rfl (by omega) (by decide) dX4_isEdge_5 ?_
  refine lv_iload_n hx hb dX4_isEdge_6 rfl (lv_at hl 2 rfl) ?_
  refine lv_lshr (v := ((near a) >>> ((nI b).toInt64 &&& 63))) hx hb dX4_isEdge_7 rfl ?_
  refine lv_lconst (v := 1) hx hb dX4_isEdge_8 rfl ?_
  refine lv_land hx hb dX4_isEdge_9 ?_
  refine lv_lconst (v := 1) hx hb dX4_isEdge_10 rfl ?_
  refine W.lcmp hx hb dX4_isEdge_11 ?_
  rw [show (lg_cmp (((near a) >>> ((nI b).toInt64 &&& 63)) &&& 1) 1) = (bC (gb (near a) b)) from gb_cmp1 (by omega)]
  refine x_ifneC (tgt := 19) hx hb dX4_isEdge_12 (by decide) (fun c12 => ?_) (fun c12 => ?_)
  · skip
    refine lv_iconst (v := (nI 0)) hx hb dX4_isEdge_19 (by decide) ?_
    exact W.zret (v := (nI 0)) (ty := .boolean) hx hb hr (by decide) (fun t ht hW => ⟨_, rfl, (show (nI 0) = (bI (gb (near a) b)) from by rw [c12]; rfl), ht⟩) (fun _ h => nomatch h) dX4_isEdge_20
  · skip
    refine lv_iconst (v := (nI 1)) hx hb dX4_isEdge_15 (by decide) ?_
    refine lv_goto (tgt := 20) hx hb dX4_isEdge_16 (by decide) ?_
    exact W.zret (v := (nI 1)) (ty := .boolean) hx hb hr (by decide) (fun t ht hW => ⟨_, rfl, (show (nI 1) = (bI (gb (near a) b)) from by rw [c12]; rfl), ht⟩) (fun _ h => nomatch h) dX4_isEdge_20

set_option maxHeartbeats 4000000 in
set_option maxRecDepth 100000 in
/-- reference: goes -/
theorem m_goes (l : Launch) (dG : va_G) (cI cJ : ClassId) (A : Nat → Prop) (mo mN mD mP mH mR mQ mF mO : Nat) (near : Nat → Int64) (n ec : Nat) (bt : Bool) (dis par hubs rnks que far frm : Nat → Int32) (vi cu pu pn wn : Nat) (th : Int32) (w : Nat) (hw9 : w < 4) (X : va_W) : Met l yX4_goes wsX4_goes ({ frames := 0, cells := 0, slots := 0, locals := 0 } : Room) (WPc dG cI cJ [.ref mo, .int (nI w)] (MW cI cJ mo mN mD mP mH mR mQ mF mO near (nI n) (nI ec) (bI bt) dis par hubs rnks que far frm (nI vi) (nI cu) (nI pu) (nI pn) (nI wn) th ++ X) A) (va_Qi (S := Unit) (fun r _ => r = bI (decide (w = 0))) (fun _ => WB dG A (MW cI cJ mo mN mD mP mH mR mQ mF mO near (nI n) (nI ec) (bI bt) dis par hubs rnks que far frm (nI vi) (nI cu) (nI pu) (nI pn) (nI wn) (nI w) ++ X)) A) 0 0 A := by
  refine Met.ofW (cc := cX4_goes) (maxL := 2) (ret := (some .boolean)) (by decide) rfl ?_
  intro p e s m args below meth c s₁ B9 hml hv
  obtain ⟨rfl, hP, hK, hD⟩ := hv
  have hx := B9.exec
  have hb := B9.bytes
  have hr := B9.returns
  have hts := atoms_spec (ws := wsX4_goes) B9.pre
  have hown : s.vm.findClass RX4 = some m.cls := findClass_of_methodNamed B9.named
  have hlocks := B9.notSynchronized
  have hS : va_S A s.heap s.heap [] := va_S.rf
  have hl := lv_entry ([.ref mo, .int (nI w)]) (n := 2) (Nat.le_of_ble_eq_true rfl)
  rw [lg_entry_eq]
  generalize (lg_sl ([.ref mo, .int (nI w)]) ++ List.replicate (2 - (lg_sl ([.ref mo, .int (nI w)])).length) Slot.unset).toArray = ls at hl ⊢
  have hl : lv_has ls 2 [(0, .ref mo), (1, .int (nI w))] := hl
  have hiX4 : ∀ w ∈ wsX40, w ∈ wsX4_goes := by decide +kernel
  have hf35 := hts (.fieldLink RX4 35 "LandmarkLeaModel" "thrown" "I") (by decide +kernel)
  refine lv_aload_n hx hb dX4_goes_0 rfl (lv_at hl 0 rfl) ?_
  refine lv_iload_n hx hb dX4_goes_1 rfl (lv_at hl 1 rfl) ?_
  refine va_put (D := dG) (ci := 4) (v := .int (nI w)) (ty := .int) (C := RX4) (T := TX4) (N := 17) hx hb hts hiX4 tyX4 tyX4_ok nmX4 hown hK.1 hP hD hS 0 rfl rfl 16 (by decide) hf35 (fun _ h9 => h9) rfl (by decide +kernel) rfl rfl (Nat.le_of_ble_eq_true rfl) dX4_goes_2 (fun H locs hP hD hS => ?_)
  have hP : va_P dG vwCl (MW cI cJ mo mN mD mP mH mR mQ mF mO near (nI n) (nI ec) (bI bt) dis par hubs rnks que far frm (nI vi) (nI cu) (nI pu) (nI pn) (nI wn) (nI w) ++ X) H := hP
  have hD : va_D A (MW cI cJ mo mN mD mP mH mR mQ mF mO near (nI n) (nI ec) (bI bt) dis par hubs rnks que far frm (nI vi) (nI cu) (nI pu) (nI pn) (nI wn) (nI w) ++ X) := hD
  refine lv_iload_n hx hb dX4_goes_5 rfl (lv_at hl 1 rfl) ?_
  rcases Nat.eq_zero_or_pos w with h0 | h0
  · skip
    subst h0
    refine lv_if_ne (tgt := 13) hx hb dX4_goes_6 (by decide) (fun h9 => absurd rfl h9) (fun _ => ?_)
    refine lv_iconst (v := (nI 1)) hx hb dX4_goes_9 (by decide) ?_
    refine lv_goto (tgt := 14) hx hb dX4_goes_10 (by decide) ?_
    exact W.zret (v := (nI 1)) (ty := .boolean) hx hb hr (by decide) (fun t ht hW => ⟨⟨_, (), rfl, rfl, by rw [ht]; exact hP, hD⟩, hS.F ht⟩) hS.2.2 dX4_goes_14
  · skip
    refine lv_if_ne (tgt := 13) hx hb dX4_goes_6 (by decide) (fun _ => ?_) (fun q => absurd q (nI_ne0 h0 (by omega)))
    refine lv_iconst (v := (nI 0)) hx hb dX4_goes_13 (by decide) ?_
    exact W.zret (v := (nI 0)) (ty := .boolean) hx hb hr (by decide) (fun t ht hW => ⟨⟨_, (), rfl, by rw [decide_eq_false (by omega)]; rfl, by rw [ht]; exact hP, hD⟩, hS.F ht⟩) hS.2.2 dX4_goes_14

set_option maxHeartbeats 4000000 in
set_option maxRecDepth 100000 in
/-- reference: counts -/
theorem m_counts (l : Launch) (dG : va_G) (cI cJ : ClassId) (A : Nat → Prop) (mo mN mD mP mH mR mQ mF mO : Nat) (near : Nat → Int64) (n ec : Nat) (bt : Bool) (dis par hubs rnks que far frm : Nat → Int32) (vi cu pu pn wn : Nat) (th : Int32) (X : va_W) : Met l yX4_counts wsX4_counts ({ frames := 0, cells := 0, slots := 0, locals := 0 } : Room) (WPc dG cI cJ [.ref mo] (MW cI cJ mo mN mD mP mH mR mQ mF mO near (nI n) (nI ec) (bI bt) dis par hubs rnks que far frm (nI vi) (nI cu) (nI pu) (nI pn) (nI wn) th ++ X) A) (va_Qv (S := Unit) (fun _ => True) (fun _ => WB dG A (MW cI cJ mo mN mD mP mH mR mQ mF mO near (nI n) (nI ec) (bI bt) dis par hubs rnks que far frm (nI 0) (nI 0) (nI 0) (nI pn) (nI wn) th ++ X)) A) 0 0 A := by
  refine Met.ofW (cc := cX4_counts) (maxL := 1) (ret := none) (by decide) rfl ?_
  intro p e s m args below meth c s₁ B9 hml hv
  obtain ⟨rfl, hP, hK, hD⟩ := hv
  have hx := B9.exec
  have hb := B9.bytes
  have hr := B9.returns
  have hts := atoms_spec (ws := wsX4_counts) B9.pre
  have hown : s.vm.findClass RX4 = some m.cls := findClass_of_methodNamed B9.named
  have hlocks := B9.notSynchronized
  have hS : va_S A s.heap s.heap [] := va_S.rf
  have hl := lv_entry ([.ref mo]) (n := 1) (Nat.le_of_ble_eq_true rfl)
  rw [lg_entry_eq]
  generalize (lg_sl ([.ref mo]) ++ List.replicate (1 - (lg_sl ([.ref mo])).length) Slot.unset).toArray = ls at hl ⊢
  have hl : lv_has ls 1 [(0, .ref mo)] := hl
  have hiX4 : ∀ w ∈ wsX40, w ∈ wsX4_counts := by decide +kernel
  have hf54 := hts (.fieldLink RX4 54 "LandmarkLeaModel" "visits" "I") (by decide +kernel)
  have hf57 := hts (.fieldLink RX4 57 "LandmarkLeaModel" "cut" "I") (by decide +kernel)
  have hf60 := hts (.fieldLink RX4 60 "LandmarkLeaModel" "put" "I") (by decide +kernel)
  refine lv_aload_n hx hb dX4_counts_0 rfl (lv_at hl 0 rfl) ?_
  refine lv_iconst (v := (nI 0)) hx hb dX4_counts_1 (by decide) ?_
  refine va_put (D := dG) (ci := 4) (v := .int (nI 0)) (ty := .int) (C := RX4) (T := TX4) (N := 17) hx hb hts hiX4 tyX4 tyX4_ok nmX4 hown hK.1 hP hD hS 0 rfl rfl 11 (by decide) hf54 (fun _ h9 => h9) rfl (by decide +kernel) rfl rfl (Nat.le_of_ble_eq_true rfl) dX4_counts_2 (fun H locs hP hD hS => ?_)
  have hP : va_P dG vwCl (MW cI cJ mo mN mD mP mH mR mQ mF mO near (nI n) (nI ec) (bI bt) dis par hubs rnks que far frm (nI 0) (nI cu) (nI pu) (nI pn) (nI wn) th ++ X) H := hP
  have hD : va_D A (MW cI cJ mo mN mD mP mH mR mQ mF mO near (nI n) (nI ec) (bI bt) dis par hubs rnks que far frm (nI 0) (nI cu) (nI pu) (nI pn) (nI wn) th ++ X) := hD
  refine lv_aload_n hx hb dX4_counts_5 rfl (lv_at hl 0 rfl) ?_
  refine lv_iconst (v := (nI 0)) hx hb dX4_counts_6 (by decide) ?_
  refine va_put (D := dG) (ci := 4) (v := .int (nI 0)) (ty := .int) (C := RX4) (T := TX4) (N := 17) hx hb hts hiX4 tyX4 tyX4_ok nmX4 hown hK.1 hP hD hS 0 rfl rfl 12 (by decide) hf57 (fun _ h9 => h9) rfl (by decide +kernel) rfl rfl (Nat.le_of_ble_eq_true rfl) dX4_counts_7 (fun H locs hP hD hS => ?_)
  have hP : va_P dG vwCl (MW cI cJ mo mN mD mP mH mR mQ mF mO near (nI n) (nI ec) (bI bt) dis par hubs rnks que far frm (nI 0) (nI 0) (nI pu) (nI pn) (nI wn) th ++ X) H := hP
  have hD : va_D A (MW cI cJ mo mN mD mP mH mR mQ mF mO near (nI n) (nI ec) (bI bt) dis par hubs rnks que far frm (nI 0) (nI 0) (nI pu) (nI pn) (nI wn) th ++ X) := hD
  refine lv_aload_n hx hb dX4_counts_10 rfl (lv_at hl 0 rfl) ?_
  refine lv_iconst (v := (nI 0)) hx hb dX4_counts_11 (by decide) ?_
  refine va_put (D := dG) (ci := 4) (v := .int (nI 0)) (ty := .int) (C := RX4) (T := TX4) (N := 17) hx hb hts hiX4 tyX4 tyX4_ok nmX4 hown hK.1 hP hD hS 0 rfl rfl 13 (by decide) hf60 (fun _ h9 => h9) rfl (by decide +kernel) rfl rfl (Nat.le_of_ble_eq_true rfl) dX4_counts_12 (fun H locs hP hD hS => ?_)
  have hP : va_P dG vwCl (MW cI cJ mo mN mD mP mH mR mQ mF mO near (nI n) (nI ec) (bI bt) dis par hubs rnks que far frm (nI 0) (nI 0) (nI 0) (nI pn) (nI wn) th ++ X) H := hP
  have hD : va_D A (MW cI cJ mo mN mD mP mH mR mQ mF mO near (nI n) (nI ec) (bI bt) dis par hubs rnks que far frm (nI 0) (nI 0) (nI 0) (nI pn) (nI wn) th ++ X) := hD
  exact W.vret hx hb hr (fun t ht hW => ⟨⟨(), rfl, trivial, by rw [ht]; exact hP, hD⟩, hS.F ht⟩) hS.2.2 dX4_counts_15

set_option maxHeartbeats 4000000 in
set_option maxRecDepth 100000 in
/-- reference: keepsCounts -/
theorem m_keepsCounts (l : Launch) (dG : va_G) (cI cJ : ClassId) (A : Nat → Prop) (mo mN mD mP mH mR mQ mF mO : Nat) (near : Nat → Int64) (n ec : Nat) (bt : Bool) (dis par hubs rnks que far frm : Nat → Int32) (vi cu pu pn wn : Nat) (th : Int32) (X : va_W) : Met l yX4_keepsCounts wsX4_keepsCounts ({ frames := 0, cells := 0, slots := 0, locals := 0 } : Room) (WPc dG cI cJ [.ref mo] (MW cI cJ mo mN mD mP mH mR mQ mF mO near (nI n) (nI ec) (bI bt) dis par hubs rnks que far frm (nI vi) (nI cu) (nI pu) (nI pn) (nI wn) th ++ X) A) (va_Qv (S := Unit) (fun _ => True) (fun _ => WB dG A (MW cI cJ mo mN mD mP mH mR mQ mF mO near (nI n) (nI ec) (bI bt) dis par hubs rnks que far frm (nI vi) (nI cu) (nI pu) (nI cu) (nI pu) th ++ X)) A) 0 0 A := by
  refine Met.ofW (cc := cX4_keepsCounts) (maxL := 1) (ret := none) (by decide) rfl ?_
  intro p e s m args below meth c s₁ B9 hml hv
  obtain ⟨rfl, hP, hK, hD⟩ := hv
  have hx := B9.exec
  have hb := B9.bytes
  have hr := B9.returns
  have hts := atoms_spec (ws := wsX4_keepsCounts) B9.pre
  have hown : s.vm.findClass RX4 = some m.cls := findClass_of_methodNamed B9.named
  have hlocks := B9.notSynchronized
  have hS : va_S A s.heap s.heap [] := va_S.rf
  have hl := lv_entry ([.ref mo]) (n := 1) (Nat.le_of_ble_eq_true rfl)
  rw [lg_entry_eq]
  generalize (lg_sl ([.ref mo]) ++ List.replicate (1 - (lg_sl ([.ref mo])).length) Slot.unset).toArray = ls at hl ⊢
  have hl : lv_has ls 1 [(0, .ref mo)] := hl
  have hiX4 : ∀ w ∈ wsX40, w ∈ wsX4_keepsCounts := by decide +kernel
  have hf57 := hts (.fieldLink RX4 57 "LandmarkLeaModel" "cut" "I") (by decide +kernel)
  have hf60 := hts (.fieldLink RX4 60 "LandmarkLeaModel" "put" "I") (by decide +kernel)
  have hf85 := hts (.fieldLink RX4 85 "LandmarkLeaModel" "pruned" "I") (by decide +kernel)
  have hf88 := hts (.fieldLink RX4 88 "LandmarkLeaModel" "written" "I") (by decide +kernel)
  refine lv_aload_n hx hb dX4_keepsCounts_0 rfl (lv_at hl 0 rfl) ?_
  refine lv_aload_n hx hb dX4_keepsCounts_1 rfl (lv_at hl 0 rfl) ?_
  refine va_get (D := dG) (ci := 4) (v := .int (nI cu)) (C := RX4) (T := TX4) (N := 17) hx hb hts hiX4 hown hK.1 hP 0 rfl rfl 12 (by decide) hf57 (fun _ h9 => h9) rfl dX4_keepsCounts_2 ?_
  refine va_put (D := dG) (ci := 4) (v := .int (nI cu)) (ty := .int) (C := RX4) (T := TX4) (N := 17) hx hb hts hiX4 tyX4 tyX4_ok nmX4 hown hK.1 hP hD hS 0 rfl rfl 14 (by decide) hf85 (fun _ h9 => h9) rfl (by decide +kernel) rfl rfl (Nat.le_of_ble_eq_true rfl) dX4_keepsCounts_5 (fun H locs hP hD hS => ?_)
  have hP : va_P dG vwCl (MW cI cJ mo mN mD mP mH mR mQ mF mO near (nI n) (nI ec) (bI bt) dis par hubs rnks que far frm (nI vi) (nI cu) (nI pu) (nI cu) (nI wn) th ++ X) H := hP
  have hD : va_D A (MW cI cJ mo mN mD mP mH mR mQ mF mO near (nI n) (nI ec) (bI bt) dis par hubs rnks que far frm (nI vi) (nI cu) (nI pu) (nI cu) (nI wn) th ++ X) := hD
  refine lv_aload_n hx hb dX4_keepsCounts_8 rfl (lv_at hl 0 rfl) ?_
  refine lv_aload_n hx hb dX4_keepsCounts_9 rfl (lv_at hl 0 rfl) ?_
  refine va_get (D := dG) (ci := 4) (v := .int (nI pu)) (C := RX4) (T := TX4) (N := 17) hx hb hts hiX4 hown hK.1 hP 0 rfl rfl 13 (by decide) hf60 (fun _ h9 => h9) rfl dX4_keepsCounts_10 ?_
  refine va_put (D := dG) (ci := 4) (v := .int (nI pu)) (ty := .int) (C := RX4) (T := TX4) (N := 17) hx hb hts hiX4 tyX4 tyX4_ok nmX4 hown hK.1 hP hD hS 0 rfl rfl 15 (by decide) hf88 (fun _ h9 => h9) rfl (by decide +kernel) rfl rfl (Nat.le_of_ble_eq_true rfl) dX4_keepsCounts_13 (fun H locs hP hD hS => ?_)
  have hP : va_P dG vwCl (MW cI cJ mo mN mD mP mH mR mQ mF mO near (nI n) (nI ec) (bI bt) dis par hubs rnks que far frm (nI vi) (nI cu) (nI pu) (nI cu) (nI pu) th ++ X) H := hP
  have hD : va_D A (MW cI cJ mo mN mD mP mH mR mQ mF mO near (nI n) (nI ec) (bI bt) dis par hubs rnks que far frm (nI vi) (nI cu) (nI pu) (nI cu) (nI pu) th ++ X) := hD
  exact W.vret hx hb hr (fun t ht hW => ⟨⟨(), rfl, trivial, by rw [ht]; exact hP, hD⟩, hS.F ht⟩) hS.2.2 dX4_keepsCounts_16

set_option maxHeartbeats 4000000 in
set_option maxRecDepth 100000 in
/-- reference: estimate -/
theorem m_estimate (l : Launch) (dG : va_G) (cI cJ : ClassId) (mo mN mD mP mH mR mQ mF mO : Nat) (near : Nat → Int64) (n ec : Nat) (bt : Bool) (dis par hubs rnks que far frm : Nat → Int32) (vi cu pu pn wn : Nat) (th : Int32) (tb : Nat) (htb : tb < 2) (L P : Nat → Nat → Option Nat) (hR : RepM tb L P dis par) (hB : LBd L (2 ^ 30)) (u v r : Nat) (hu : u < 48) (hv : v < 48) (hr0 : r < 48) : Met l yX4_estimate wsX4_estimate ({ frames := 1, cells := 0, slots := 0, locals := 22 } : Room) (RPc dG cI cJ [.ref mo, .int (nI tb), .int (nI u), .int (nI v), .int (nI r)] (MW cI cJ mo mN mD mP mH mR mQ mF mO near (nI n) (nI ec) (bI bt) dis par hubs rnks que far frm (nI vi) (nI cu) (nI pu) (nI pn) (nI wn) th)) (vp_Si (fun r9 => r9 = (eN (es L u v (r + 1))))) 0 0 (fun _ => False) := by
  refine Met.ofW (cc := cX4_estimate) (maxL := 10) (ret := (some .int)) (by decide) rfl ?_
  intro p e s m args below meth c s₁ B9 hml hv
  obtain ⟨rfl, hP, hK⟩ := hv
  have hx := B9.exec
  have hb := B9.bytes
  have hr := B9.returns
  have hts := atoms_spec (ws := wsX4_estimate) B9.pre
  have hown : s.vm.findClass RX4 = some m.cls := findClass_of_methodNamed B9.named
  have hlocks := B9.notSynchronized
  have hl := lv_entry ([.ref mo, .int (nI tb), .int (nI u), .int (nI v), .int (nI r)]) (n := 10) (Nat.le_of_ble_eq_true rfl)
  rw [lg_entry_eq]
  generalize (lg_sl ([.ref mo, .int (nI tb), .int (nI u), .int (nI v), .int (nI r)]) ++ List.replicate (10 - (lg_sl ([.ref mo, .int (nI tb), .int (nI u), .int (nI v), .int (nI r)])).length) Slot.unset).toArray = ls at hl ⊢
  have hl : lv_has ls 10 [(0, .ref mo), (1, .int (nI tb)), (2, .int (nI u)), (3, .int (nI v)), (4, .int (nI r))] := hl
  have hiX4 : ∀ w ∈ wsX40, w ∈ wsX4_estimate := by decide +kernel
  have hf13 := hts (.fieldLink RX4 13 "LandmarkLeaModel" "distances" "[I") (by decide +kernel)
  refine lv_iconst (v := (-1)) hx hb dX4_estimate_0 (by decide) ?_
  refine lv_istore (lv' := [(5, .int (-1)), (0, .ref mo), (1, .int (nI tb)), (2, .int (nI u)), (3, .int (nI v)), (4, .int (nI r))]) hx hb dX4_estimate_1 hl (by decide) rfl (fun ls hl => ?_)
  refine lv_iconst (v := (nI 0)) hx hb dX4_estimate_3 (by decide) ?_
  refine lv_istore (lv' := [(6, .int (nI 0)), (5, .int (-1)), (0, .ref mo), (1, .int (nI tb)), (2, .int (nI u)), (3, .int (nI v)), (4, .int (nI r))]) hx hb dX4_estimate_4 hl (by decide) rfl (fun ls hl => ?_)
  have loop : ∀ (QQ : State → Prop) (n1 : Nat) (k : Nat), 48 < k + n1 → k ≤ r + 1 → (∀ ls : Array Slot, lv_has ls 10 [(0, .ref mo), (1, .int (nI tb)), (2, .int (nI u)), (3, .int (nI v)), (4, .int (nI r)), (5, .int (eN (es L u v (r + 1)))), (6, .int (nI (r + 1)))] → W p l e ({ frames := 1, cells := 0, slots := 0, locals := 22 } : Room) s m ([.ref mo, .int (nI tb), .int (nI u), .int (nI v), .int (nI r)] : List Value).toArray below meth c s.heap [] 0 0 QQ (F0 m 99 ls [])) → ∀ ls : Array Slot, lv_has ls 10 [(0, .ref mo), (1, .int (nI tb)), (2, .int (nI u)), (3, .int (nI v)), (4, .int (nI r)), (5, .int (eN (es L u v k))), (6, .int (nI k))] → W p l e ({ frames := 1, cells := 0, slots := 0, locals := 22 } : Room) s m ([.ref mo, .int (nI tb), .int (nI u), .int (nI v), .int (nI r)] : List Value).toArray below meth c s.heap [] 0 0 QQ (F0 m 6 ls []) := by
    intro QQ n1
    induction n1 with
    | zero => intro k h1 h2; exact absurd h1 (by omega)
    | succ n1 ih =>
      intro k h1 h2 kx ls hl
      refine lv_iload hx hb dX4_estimate_6 (lv_at hl 6 rfl) ?_
      refine lv_iload hx hb dX4_estimate_8 (lv_at hl 4 rfl) ?_
      refine x_icmp_gtN (i := k) (j := r) (tgt := 99) hx hb (by omega) (by omega) dX4_estimate_10 (by decide) (fun c10 => ?_) (fun c10 => ?_)
      · skip
        have ek : k = r + 1 := by omega
        subst ek
        exact kx  ls (lv_sub hl [0, 1, 2, 3, 4, 5, 6] rfl)
      · skip
        refine lv_aload_n hx hb dX4_estimate_13 rfl (lv_at hl 0 rfl) ?_
        refine va_get (D := dG) (ci := 4) (v := .ref mD) (C := RX4) (T := TX4) (N := 17) hx hb hts hiX4 hown hK.1 hP 0 rfl rfl 4 (by decide) hf13 (fun _ h9 => h9) rfl dX4_estimate_14 ?_
        refine lv_iload_n hx hb dX4_estimate_17 rfl (lv_at hl 1 rfl) ?_
        refine lv_iload_n hx hb dX4_estimate_18 rfl (lv_at hl 2 rfl) ?_
        refine lv_iload hx hb dX4_estimate_19 (lv_at hl 6 rfl) ?_
        have hPc : va_P dG vwCl [] s.heap := fun k q h => by simp at h
        refine x_ri (W.runS (As := [.int (nI tb), .int (nI u), .int (nI k)]) (rest := [.ref mD]) ⟨hx, hb, hml, hown, hts⟩ (m_at l dG cI cJ tb u k) (va_cwS 3 hts gX4_estimate_X4_at rfl rfl rfl (by decide +kernel) ⟨Nat.le_of_ble_eq_true rfl, Nat.le_of_ble_eq_true rfl⟩) (RPc.preS hPc hK) rfl rfl hl.1 rfl (lv_room (Nat.le_of_ble_eq_true rfl)) dX4_estimate_21 ⟨Nat.zero_le _, Nat.zero_le _⟩) ?_
        refine x_iald (f := dis) hx hb hK hP 2 rfl (by omega) (by decide) dX4_estimate_24 ?_
        rw [show dis (2304 * tb + 48 * u + k) = (eN (L u k)) from (hR u k hu (by omega)).1]
        refine lv_istore (lv' := [(7, .int (eN (L u k))), (0, .ref mo), (1, .int (nI tb)), (2, .int (nI u)), (3, .int (nI v)), (4, .int (nI r)), (5, .int (eN (es L u v k))), (6, .int (nI k))]) hx hb dX4_estimate_25 hl (by decide) rfl (fun ls hl => ?_)
        refine lv_aload_n hx hb dX4_estimate_27 rfl (lv_at hl 1 rfl) ?_
        refine va_get (D := dG) (ci := 4) (v := .ref mD) (C := RX4) (T := TX4) (N := 17) hx hb hts hiX4 hown hK.1 hP 0 rfl rfl 4 (by decide) hf13 (fun _ h9 => h9) rfl dX4_estimate_28 ?_
        refine lv_iload_n hx hb dX4_estimate_31 rfl (lv_at hl 2 rfl) ?_
        refine lv_iload_n hx hb dX4_estimate_32 rfl (lv_at hl 4 rfl) ?_
        refine lv_iload hx hb dX4_estimate_33 (lv_at hl 7 rfl) ?_
        have hPc : va_P dG vwCl [] s.heap := fun k q h => by simp at h
        refine x_ri (W.runS (As := [.int (nI tb), .int (nI v), .int (nI k)]) (rest := [.ref mD]) ⟨hx, hb, hml, hown, hts⟩ (m_at l dG cI cJ tb v k) (va_cwS 3 hts gX4_estimate_X4_at rfl rfl rfl (by decide +kernel) ⟨Nat.le_of_ble_eq_true rfl, Nat.le_of_ble_eq_true rfl⟩) (RPc.preS hPc hK) rfl rfl hl.1 rfl (lv_room (Nat.le_of_ble_eq_true rfl)) dX4_estimate_35 ⟨Nat.zero_le _, Nat.zero_le _⟩) ?_
        refine x_iald (f := dis) hx hb hK hP 2 rfl (by omega) (by decide) dX4_estimate_38 ?_
        rw [show dis (2304 * tb + 48 * v + k) = (eN (L v k)) from (hR v k hv (by omega)).1]
        refine lv_istore (lv' := [(8, .int (eN (L v k))), (7, .int (eN (L u k))), (0, .ref mo), (1, .int (nI tb)), (2, .int (nI u)), (3, .int (nI v)), (4, .int (nI r)), (5, .int (eN (es L u v k))), (6, .int (nI k))]) hx hb dX4_estimate_39 hl (by decide) rfl (fun ls hl => ?_)
        rcases eu : L u k with _ | a
        · skip
          have hl : lv_has ls 10 [(8, .int (eN (L v k))), (7, .int (-1)), (0, .ref mo), (1, .int (nI tb)), (2, .int (nI u)), (3, .int (nI v)), (4, .int (nI r)), (5, .int (eN (es L u v k))), (6, .int (nI k))] := by rw [eu] at hl; exact hl
          rcases ev : L v k with _ | b
          · skip
            have hl : lv_has ls 10 [(8, .int (-1)), (7, .int (-1)), (0, .ref mo), (1, .int (nI tb)), (2, .int (nI u)), (3, .int (nI v)), (4, .int (nI r)), (5, .int (eN (es L u v k))), (6, .int (nI k))] := by rw [ev] at hl; exact hl
            refine lv_iload hx hb dX4_estimate_41 (lv_at hl 1 rfl) ?_
            refine lv_iconst (v := (-1)) hx hb dX4_estimate_43 (by decide) ?_
            refine x_eqM_M (tgt := 73) hx hb dX4_estimate_44 (by decide) ?_
            refine lv_iconst (v := (nI 0)) hx hb dX4_estimate_73 (by decide) ?_
            refine lv_istore (lv' := [(9, .int (nI 0)), (8, .int (-1)), (7, .int (-1)), (0, .ref mo), (1, .int (nI tb)), (2, .int (nI u)), (3, .int (nI v)), (4, .int (nI r)), (5, .int (eN (es L u v k))), (6, .int (nI k))]) hx hb dX4_estimate_74 hl (by decide) rfl (fun ls hl => ?_)
            refine lv_iload hx hb dX4_estimate_76 (lv_at hl 0 rfl) ?_
            refine lv_if_eq (tgt := 89) hx hb dX4_estimate_78 (by decide) (fun _ => ?_) (fun h9 => absurd rfl h9)
            refine lv_iload hx hb dX4_estimate_89 (lv_at hl 8 rfl) ?_
            refine lv_istore (lv' := [(5, .int (eN (es L u v k))), (9, .int (nI 0)), (8, .int (-1)), (7, .int (-1)), (0, .ref mo), (1, .int (nI tb)), (2, .int (nI u)), (3, .int (nI v)), (4, .int (nI r)), (6, .int (nI k))]) hx hb dX4_estimate_91 hl (by decide) rfl (fun ls hl => ?_)
            refine x_iincN (lv' := [(6, .int (nI (k + 1))), (5, .int (eN (es L u v k))), (9, .int (nI 0)), (8, .int (-1)), (7, .int (-1)), (0, .ref mo), (1, .int (nI tb)), (2, .int (nI u)), (3, .int (nI v)), (4, .int (nI r))]) hx hb dX4_estimate_93 hl (k := 9) rfl (by decide) rfl (fun ls hl => ?_)
            refine lv_goto (tgt := 6) hx hb dX4_estimate_96 (by decide) ?_
            have hl : lv_has ls 10 [(6, .int (nI (k + 1))), (5, .int (eN (es L u v (k + 1)))), (9, .int (nI 0)), (8, .int (-1)), (7, .int (-1)), (0, .ref mo), (1, .int (nI tb)), (2, .int (nI u)), (3, .int (nI v)), (4, .int (nI r))] := by rw [show es L u v (k + 1) = es L u v k from es_no (by rw [eu]; rfl)]; exact hl
            exact ih (k + 1) (by omega) (by omega) kx ls (lv_sub hl [5, 6, 7, 8, 9, 1, 0] rfl)
          · skip
            have hl : lv_has ls 10 [(8, .int (nI b)), (7, .int (-1)), (0, .ref mo), (1, .int (nI tb)), (2, .int (nI u)), (3, .int (nI v)), (4, .int (nI r)), (5, .int (eN (es L u v k))), (6, .int (nI k))] := by rw [ev] at hl; exact hl
            refine lv_iload hx hb dX4_estimate_41 (lv_at hl 1 rfl) ?_
            refine lv_iconst (v := (-1)) hx hb dX4_estimate_43 (by decide) ?_
            refine x_eqM_M (tgt := 73) hx hb dX4_estimate_44 (by decide) ?_
            refine lv_iconst (v := (nI 0)) hx hb dX4_estimate_73 (by decide) ?_
            refine lv_istore (lv' := [(9, .int (nI 0)), (8, .int (nI b)), (7, .int (-1)), (0, .ref mo), (1, .int (nI tb)), (2, .int (nI u)), (3, .int (nI v)), (4, .int (nI r)), (5, .int (eN (es L u v k))), (6, .int (nI k))]) hx hb dX4_estimate_74 hl (by decide) rfl (fun ls hl => ?_)
            refine lv_iload hx hb dX4_estimate_76 (lv_at hl 0 rfl) ?_
            refine lv_if_eq (tgt := 89) hx hb dX4_estimate_78 (by decide) (fun _ => ?_) (fun h9 => absurd rfl h9)
            refine lv_iload hx hb dX4_estimate_89 (lv_at hl 8 rfl) ?_
            refine lv_istore (lv' := [(5, .int (eN (es L u v k))), (9, .int (nI 0)), (8, .int (nI b)), (7, .int (-1)), (0, .ref mo), (1, .int (nI tb)), (2, .int (nI u)), (3, .int (nI v)), (4, .int (nI r)), (6, .int (nI k))]) hx hb dX4_estimate_91 hl (by decide) rfl (fun ls hl => ?_)
            refine x_iincN (lv' := [(6, .int (nI (k + 1))), (5, .int (eN (es L u v k))), (9, .int (nI 0)), (8, .int (nI b)), (7, .int (-1)), (0, .ref mo), (1, .int (nI tb)), (2, .int (nI u)), (3, .int (nI v)), (4, .int (nI r))]) hx hb dX4_estimate_93 hl (k := 9) rfl (by decide) rfl (fun ls hl => ?_)
            refine lv_goto (tgt := 6) hx hb dX4_estimate_96 (by decide) ?_
            have hl : lv_has ls 10 [(6, .int (nI (k + 1))), (5, .int (eN (es L u v (k + 1)))), (9, .int (nI 0)), (8, .int (nI b)), (7, .int (-1)), (0, .ref mo), (1, .int (nI tb)), (2, .int (nI u)), (3, .int (nI v)), (4, .int (nI r))] := by rw [show es L u v (k + 1) = es L u v k from es_no (by rw [eu]; rfl)]; exact hl
            exact ih (k + 1) (by omega) (by omega) kx ls (lv_sub hl [5, 6, 7, 8, 9, 1, 0] rfl)
        · skip
          have hl : lv_has ls 10 [(8, .int (eN (L v k))), (7, .int (nI a)), (0, .ref mo), (1, .int (nI tb)), (2, .int (nI u)), (3, .int (nI v)), (4, .int (nI r)), (5, .int (eN (es L u v k))), (6, .int (nI k))] := by rw [eu] at hl; exact hl
          have ha9 := hB u k a eu
          rcases ev : L v k with _ | b
          · skip
            have hl : lv_has ls 10 [(8, .int (-1)), (7, .int (nI a)), (0, .ref mo), (1, .int (nI tb)), (2, .int (nI u)), (3, .int (nI v)), (4, .int (nI r)), (5, .int (eN (es L u v k))), (6, .int (nI k))] := by rw [ev] at hl; exact hl
            refine lv_iload hx hb dX4_estimate_41 (lv_at hl 1 rfl) ?_
            refine lv_iconst (v := (-1)) hx hb dX4_estimate_43 (by decide) ?_
            refine x_eqM_N (tgt := 73) hx hb (by omega) dX4_estimate_44 (by decide) ?_
            refine lv_iload hx hb dX4_estimate_47 (lv_at hl 0 rfl) ?_
            refine lv_iconst (v := (-1)) hx hb dX4_estimate_49 (by decide) ?_
            refine x_eqM_M (tgt := 73) hx hb dX4_estimate_50 (by decide) ?_
            refine lv_iconst (v := (nI 0)) hx hb dX4_estimate_73 (by decide) ?_
            refine lv_istore (lv' := [(9, .int (nI 0)), (8, .int (-1)), (7, .int (nI a)), (0, .ref mo), (1, .int (nI tb)), (2, .int (nI u)), (3, .int (nI v)), (4, .int (nI r)), (5, .int (eN (es L u v k))), (6, .int (nI k))]) hx hb dX4_estimate_74 hl (by decide) rfl (fun ls hl => ?_)
            refine lv_iload hx hb dX4_estimate_76 (lv_at hl 0 rfl) ?_
            refine lv_if_eq (tgt := 89) hx hb dX4_estimate_78 (by decide) (fun _ => ?_) (fun h9 => absurd rfl h9)
            refine lv_iload hx hb dX4_estimate_89 (lv_at hl 8 rfl) ?_
            refine lv_istore (lv' := [(5, .int (eN (es L u v k))), (9, .int (nI 0)), (8, .int (-1)), (7, .int (nI a)), (0, .ref mo), (1, .int (nI tb)), (2, .int (nI u)), (3, .int (nI v)), (4, .int (nI r)), (6, .int (nI k))]) hx hb dX4_estimate_91 hl (by decide) rfl (fun ls hl => ?_)
            refine x_iincN (lv' := [(6, .int (nI (k + 1))), (5, .int (eN (es L u v k))), (9, .int (nI 0)), (8, .int (-1)), (7, .int (nI a)), (0, .ref mo), (1, .int (nI tb)), (2, .int (nI u)), (3, .int (nI v)), (4, .int (nI r))]) hx hb dX4_estimate_93 hl (k := 9) rfl (by decide) rfl (fun ls hl => ?_)
            refine lv_goto (tgt := 6) hx hb dX4_estimate_96 (by decide) ?_
            have hl : lv_has ls 10 [(6, .int (nI (k + 1))), (5, .int (eN (es L u v (k + 1)))), (9, .int (nI 0)), (8, .int (-1)), (7, .int (nI a)), (0, .ref mo), (1, .int (nI tb)), (2, .int (nI u)), (3, .int (nI v)), (4, .int (nI r))] := by rw [show es L u v (k + 1) = es L u v k from es_no (by rw [eu, ev]; rfl)]; exact hl
            exact ih (k + 1) (by omega) (by omega) kx ls (lv_sub hl [5, 6, 7, 8, 9, 1, 0] rfl)
          · skip
            have hl : lv_has ls 10 [(8, .int (nI b)), (7, .int (nI a)), (0, .ref mo), (1, .int (nI tb)), (2, .int (nI u)), (3, .int (nI v)), (4, .int (nI r)), (5, .int (eN (es L u v k))), (6, .int (nI k))] := by rw [ev] at hl; exact hl
            have hb9 := hB v k b ev
            rcases hm : mr L u v k with _ | q
            · skip
              have hl : lv_has ls 10 [(8, .int (nI b)), (7, .int (nI a)), (0, .ref mo), (1, .int (nI tb)), (2, .int (nI u)), (3, .int (nI v)), (4, .int (nI r)), (5, .int (-1)), (6, .int (nI k))] := by rw [show es L u v k = none by unfold es; rw [hm]; rfl] at hl; exact hl
              refine lv_iload hx hb dX4_estimate_41 (lv_at hl 1 rfl) ?_
              refine lv_iconst (v := (-1)) hx hb dX4_estimate_43 (by decide) ?_
              refine x_eqM_N (tgt := 73) hx hb (by omega) dX4_estimate_44 (by decide) ?_
              refine lv_iload hx hb dX4_estimate_47 (lv_at hl 0 rfl) ?_
              refine lv_iconst (v := (-1)) hx hb dX4_estimate_49 (by decide) ?_
              refine x_eqM_N (tgt := 73) hx hb (by omega) dX4_estimate_50 (by decide) ?_
              refine lv_iload hx hb dX4_estimate_53 (lv_at hl 7 rfl) ?_
              refine lv_iconst (v := (-1)) hx hb dX4_estimate_55 (by decide) ?_
              refine x_eqM_M (tgt := 69) hx hb dX4_estimate_56 (by decide) ?_
              refine lv_iconst (v := (nI 1)) hx hb dX4_estimate_69 (by decide) ?_
              refine lv_goto (tgt := 74) hx hb dX4_estimate_70 (by decide) ?_
              refine lv_istore (lv' := [(9, .int (nI 1)), (8, .int (nI b)), (7, .int (nI a)), (0, .ref mo), (1, .int (nI tb)), (2, .int (nI u)), (3, .int (nI v)), (4, .int (nI r)), (5, .int (-1)), (6, .int (nI k))]) hx hb dX4_estimate_74 hl (by decide) rfl (fun ls hl => ?_)
              refine lv_iload hx hb dX4_estimate_76 (lv_at hl 0 rfl) ?_
              refine lv_if_eq (tgt := 89) hx hb dX4_estimate_78 (by decide) (fun h9 => absurd h9 (by decide)) (fun _ => ?_)
              refine lv_iload hx hb dX4_estimate_81 (lv_at hl 2 rfl) ?_
              refine lv_iload hx hb dX4_estimate_83 (lv_at hl 1 rfl) ?_
              refine x_addN (i := a) (j := b) hx hb dX4_estimate_85 ?_
              refine lv_goto (tgt := 91) hx hb dX4_estimate_86 (by decide) ?_
              refine lv_istore (lv' := [(5, .int (nI (a + b))), (9, .int (nI 1)), (8, .int (nI b)), (7, .int (nI a)), (0, .ref mo), (1, .int (nI tb)), (2, .int (nI u)), (3, .int (nI v)), (4, .int (nI r)), (6, .int (nI k))]) hx hb dX4_estimate_91 hl (by decide) rfl (fun ls hl => ?_)
              refine x_iincN (lv' := [(6, .int (nI (k + 1))), (5, .int (nI (a + b))), (9, .int (nI 1)), (8, .int (nI b)), (7, .int (nI a)), (0, .ref mo), (1, .int (nI tb)), (2, .int (nI u)), (3, .int (nI v)), (4, .int (nI r))]) hx hb dX4_estimate_93 hl (k := 9) rfl (by decide) rfl (fun ls hl => ?_)
              refine lv_goto (tgt := 6) hx hb dX4_estimate_96 (by decide) ?_
              have hl : lv_has ls 10 [(6, .int (nI (k + 1))), (5, .int (eN (es L u v (k + 1)))), (9, .int (nI 1)), (8, .int (nI b)), (7, .int (nI a)), (0, .ref mo), (1, .int (nI tb)), (2, .int (nI u)), (3, .int (nI v)), (4, .int (nI r))] := by rw [es_first eu ev hm]; exact hl
              exact ih (k + 1) (by omega) (by omega) kx ls (lv_sub hl [5, 6, 7, 8, 9, 1, 0] rfl)
            · skip
              have hl : lv_has ls 10 [(8, .int (nI b)), (7, .int (nI a)), (0, .ref mo), (1, .int (nI tb)), (2, .int (nI u)), (3, .int (nI v)), (4, .int (nI r)), (5, .int (nI (lsm L u v q))), (6, .int (nI k))] := by rw [show es L u v k = some (lsm L u v q) by unfold es; rw [hm]; rfl] at hl; exact hl
              have hq9 := lsm_lt hB u v q
              refine lv_iload hx hb dX4_estimate_41 (lv_at hl 1 rfl) ?_
              refine lv_iconst (v := (-1)) hx hb dX4_estimate_43 (by decide) ?_
              refine x_eqM_N (tgt := 73) hx hb (by omega) dX4_estimate_44 (by decide) ?_
              refine lv_iload hx hb dX4_estimate_47 (lv_at hl 0 rfl) ?_
              refine lv_iconst (v := (-1)) hx hb dX4_estimate_49 (by decide) ?_
              refine x_eqM_N (tgt := 73) hx hb (by omega) dX4_estimate_50 (by decide) ?_
              refine lv_iload hx hb dX4_estimate_53 (lv_at hl 7 rfl) ?_
              refine lv_iconst (v := (-1)) hx hb dX4_estimate_55 (by decide) ?_
              refine x_eqM_N (tgt := 69) hx hb (by omega) dX4_estimate_56 (by decide) ?_
              refine lv_iload hx hb dX4_estimate_59 (lv_at hl 1 rfl) ?_
              refine lv_iload hx hb dX4_estimate_61 (lv_at hl 0 rfl) ?_
              refine x_addN (i := a) (j := b) hx hb dX4_estimate_63 ?_
              refine lv_iload hx hb dX4_estimate_64 (lv_at hl 7 rfl) ?_
              refine x_icmp_geN (i := (a + b)) (j := (lsm L u v q)) (tgt := 73) hx hb (by omega) (by omega) dX4_estimate_66 (by decide) (fun c66 => ?_) (fun c66 => ?_)
              · skip
                refine lv_iconst (v := (nI 0)) hx hb dX4_estimate_73 (by decide) ?_
                refine lv_istore (lv' := [(9, .int (nI 0)), (8, .int (nI b)), (7, .int (nI a)), (0, .ref mo), (1, .int (nI tb)), (2, .int (nI u)), (3, .int (nI v)), (4, .int (nI r)), (5, .int (nI (lsm L u v q))), (6, .int (nI k))]) hx hb dX4_estimate_74 hl (by decide) rfl (fun ls hl => ?_)
                refine lv_iload hx hb dX4_estimate_76 (lv_at hl 0 rfl) ?_
                refine lv_if_eq (tgt := 89) hx hb dX4_estimate_78 (by decide) (fun _ => ?_) (fun h9 => absurd rfl h9)
                refine lv_iload hx hb dX4_estimate_89 (lv_at hl 8 rfl) ?_
                refine lv_istore (lv' := [(5, .int (nI (lsm L u v q))), (9, .int (nI 0)), (8, .int (nI b)), (7, .int (nI a)), (0, .ref mo), (1, .int (nI tb)), (2, .int (nI u)), (3, .int (nI v)), (4, .int (nI r)), (6, .int (nI k))]) hx hb dX4_estimate_91 hl (by decide) rfl (fun ls hl => ?_)
                refine x_iincN (lv' := [(6, .int (nI (k + 1))), (5, .int (nI (lsm L u v q))), (9, .int (nI 0)), (8, .int (nI b)), (7, .int (nI a)), (0, .ref mo), (1, .int (nI tb)), (2, .int (nI u)), (3, .int (nI v)), (4, .int (nI r))]) hx hb dX4_estimate_93 hl (k := 9) rfl (by decide) rfl (fun ls hl => ?_)
                refine lv_goto (tgt := 6) hx hb dX4_estimate_96 (by decide) ?_
                have hl : lv_has ls 10 [(6, .int (nI (k + 1))), (5, .int (eN (es L u v (k + 1)))), (9, .int (nI 0)), (8, .int (nI b)), (7, .int (nI a)), (0, .ref mo), (1, .int (nI tb)), (2, .int (nI u)), (3, .int (nI v)), (4, .int (nI r))] := by rw [es_keep eu ev hm c66, show es L u v k = some (lsm L u v q) by unfold es; rw [hm]; rfl]; exact hl
                exact ih (k + 1) (by omega) (by omega) kx ls (lv_sub hl [5, 6, 7, 8, 9, 1, 0] rfl)
              · skip
                refine lv_iconst (v := (nI 1)) hx hb dX4_estimate_69 (by decide) ?_
                refine lv_goto (tgt := 74) hx hb dX4_estimate_70 (by decide) ?_
                refine lv_istore (lv' := [(9, .int (nI 1)), (8, .int (nI b)), (7, .int (nI a)), (0, .ref mo), (1, .int (nI tb)), (2, .int (nI u)), (3, .int (nI v)), (4, .int (nI r)), (5, .int (nI (lsm L u v q))), (6, .int (nI k))]) hx hb dX4_estimate_74 hl (by decide) rfl (fun ls hl => ?_)
                refine lv_iload hx hb dX4_estimate_76 (lv_at hl 0 rfl) ?_
                refine lv_if_eq (tgt := 89) hx hb dX4_estimate_78 (by decide) (fun h9 => absurd h9 (by decide)) (fun _ => ?_)
                refine lv_iload hx hb dX4_estimate_81 (lv_at hl 2 rfl) ?_
                refine lv_iload hx hb dX4_estimate_83 (lv_at hl 1 rfl) ?_
                refine x_addN (i := a) (j := b) hx hb dX4_estimate_85 ?_
                refine lv_goto (tgt := 91) hx hb dX4_estimate_86 (by decide) ?_
                refine lv_istore (lv' := [(5, .int (nI (a + b))), (9, .int (nI 1)), (8, .int (nI b)), (7, .int (nI a)), (0, .ref mo), (1, .int (nI tb)), (2, .int (nI u)), (3, .int (nI v)), (4, .int (nI r)), (6, .int (nI k))]) hx hb dX4_estimate_91 hl (by decide) rfl (fun ls hl => ?_)
                refine x_iincN (lv' := [(6, .int (nI (k + 1))), (5, .int (nI (a + b))), (9, .int (nI 1)), (8, .int (nI b)), (7, .int (nI a)), (0, .ref mo), (1, .int (nI tb)), (2, .int (nI u)), (3, .int (nI v)), (4, .int (nI r))]) hx hb dX4_estimate_93 hl (k := 9) rfl (by decide) rfl (fun ls hl => ?_)
                refine lv_goto (tgt := 6) hx hb dX4_estimate_96 (by decide) ?_
                have hl : lv_has ls 10 [(6, .int (nI (k + 1))), (5, .int (eN (es L u v (k + 1)))), (9, .int (nI 1)), (8, .int (nI b)), (7, .int (nI a)), (0, .ref mo), (1, .int (nI tb)), (2, .int (nI u)), (3, .int (nI v)), (4, .int (nI r))] := by rw [es_less eu ev hm c66]; exact hl
                exact ih (k + 1) (by omega) (by omega) kx ls (lv_sub hl [5, 6, 7, 8, 9, 1, 0] rfl)
  refine loop _ 49 0 (by omega) (by omega) (fun  ls hl => ?_) ls (lv_sub hl [2, 3, 4, 5, 6, 1, 0] rfl)
  refine lv_iload hx hb dX4_estimate_99 (lv_at hl 5 rfl) ?_
  exact W.iret (v := (eN (es L u v (r + 1)))) hx hb hr (fun t ht hW => ⟨_, rfl, rfl, ht⟩) (fun _ h => nomatch h) dX4_estimate_101

set_option maxHeartbeats 4000000 in
set_option maxRecDepth 100000 in
/-- reference: isPruned -/
theorem m_isPruned (l : Launch) (dG : va_G) (cI cJ : ClassId) (mo mN mD mP mH mR mQ mF mO : Nat) (near : Nat → Int64) (n ec : Nat) (bt : Bool) (dis par hubs rnks que far frm : Nat → Int32) (vi cu pu pn wn : Nat) (th : Int32) (tb : Nat) (htb : tb < 2) (L P : Nat → Nat → Option Nat) (hR : RepM tb L P dis par) (hB : LBd L (2 ^ 30)) (r v d h : Nat) (hv : v < 48) (hr0 : r < 48) (hd : d < 2 ^ 31) (hh : h < 48) (eh : hubs (48 * tb + r) = nI h) : Met l yX4_isPruned wsX4_isPruned ({ frames := 2, cells := 0, slots := 0, locals := 51 } : Room) (RPc dG cI cJ [.ref mo, .int (nI tb), .int (nI r), .int (nI v), .int (nI d)] (MW cI cJ mo mN mD mP mH mR mQ mF mO near (nI n) (nI ec) (bI bt) dis par hubs rnks que far frm (nI vi) (nI cu) (nI pu) (nI pn) (nI wn) th)) (vp_Si (fun r9 => r9 = (bI (rch L h v d (r + 1))))) 0 0 (fun _ => False) := by
  refine Met.ofW (cc := cX4_isPruned) (maxL := 6) (ret := (some .boolean)) (by decide) rfl ?_
  intro p e s m args below meth c s₁ B9 hml hv
  obtain ⟨rfl, hP, hK⟩ := hv
  have hx := B9.exec
  have hb := B9.bytes
  have hr := B9.returns
  have hts := atoms_spec (ws := wsX4_isPruned) B9.pre
  have hown : s.vm.findClass RX4 = some m.cls := findClass_of_methodNamed B9.named
  have hlocks := B9.notSynchronized
  have hl := lv_entry ([.ref mo, .int (nI tb), .int (nI r), .int (nI v), .int (nI d)]) (n := 6) (Nat.le_of_ble_eq_true rfl)
  rw [lg_entry_eq]
  generalize (lg_sl ([.ref mo, .int (nI tb), .int (nI r), .int (nI v), .int (nI d)]) ++ List.replicate (6 - (lg_sl ([.ref mo, .int (nI tb), .int (nI r), .int (nI v), .int (nI d)])).length) Slot.unset).toArray = ls at hl ⊢
  have hl : lv_has ls 6 [(0, .ref mo), (1, .int (nI tb)), (2, .int (nI r)), (3, .int (nI v)), (4, .int (nI d))] := hl
  have hiX4 : ∀ w ∈ wsX40, w ∈ wsX4_isPruned := by decide +kernel
  have hf20 := hts (.fieldLink RX4 20 "LandmarkLeaModel" "hubs" "[I") (by decide +kernel)
  refine lv_aload_n hx hb dX4_isPruned_0 rfl (lv_at hl 0 rfl) ?_
  refine lv_iload_n hx hb dX4_isPruned_1 rfl (lv_at hl 1 rfl) ?_
  refine lv_aload_n hx hb dX4_isPruned_2 rfl (lv_at hl 0 rfl) ?_
  refine va_get (D := dG) (ci := 4) (v := .ref mH) (C := RX4) (T := TX4) (N := 17) hx hb hts hiX4 hown hK.1 hP 0 rfl rfl 6 (by decide) hf20 (fun _ h9 => h9) rfl dX4_isPruned_3 ?_
  refine lv_bipush (v := (nI 48)) hx hb dX4_isPruned_6 (by decide) ?_
  refine lv_iload_n hx hb dX4_isPruned_8 rfl (lv_at hl 1 rfl) ?_
  refine x_mulN (i := 48) (j := tb) hx hb dX4_isPruned_9 ?_
  refine lv_iload_n hx hb dX4_isPruned_10 rfl (lv_at hl 2 rfl) ?_
  refine x_addN (i := (48 * tb)) (j := r) hx hb dX4_isPruned_11 ?_
  refine x_iald (f := hubs) hx hb hK hP 4 rfl (by omega) (by decide) dX4_isPruned_12 ?_
  rw [show hubs ((48 * tb) + r) = (nI h) from eh]
  refine lv_iload_n hx hb dX4_isPruned_13 rfl (lv_at hl 3 rfl) ?_
  refine lv_iload_n hx hb dX4_isPruned_14 rfl (lv_at hl 2 rfl) ?_
  have hPc := hP.sub (ws' := (MW cI cJ mo mN mD mP mH mR mQ mF mO near (nI n) (nI ec) (bI bt) dis par hubs rnks que far frm (nI vi) (nI cu) (nI pu) (nI pn) (nI wn) th)) [0, 1, 2, 3, 4, 5, 6, 7, 8] rfl
  refine x_ri (W.runV (As := [.int (nI tb), .int (nI h), .int (nI v), .int (nI r)]) (rest := []) ⟨hx, hb, hml, hown, hts⟩ (m_estimate l dG cI cJ mo mN mD mP mH mR mQ mF mO near n ec bt dis par hubs rnks que far frm vi cu pu pn wn th tb htb L P hR hB h v r hh hv hr0) (cwV 4 hts gX4_isPruned_X4_estimate rfl rfl rfl (by decide +kernel) ⟨Nat.le_of_ble_eq_true rfl, Nat.le_of_ble_eq_true rfl⟩) (RPc.pre hPc hK (va_recv hK.1 hPc (ci := 4) (q0 := 0) rfl rfl)) rfl rfl hl.1 rfl (lv_room (Nat.le_of_ble_eq_true rfl)) dX4_isPruned_15 ⟨Nat.zero_le _, Nat.zero_le _⟩) ?_
  refine lv_istore (lv' := [(5, .int (eN (es L h v (r + 1)))), (0, .ref mo), (1, .int (nI tb)), (2, .int (nI r)), (3, .int (nI v)), (4, .int (nI d))]) hx hb dX4_isPruned_18 hl (by decide) rfl (fun ls hl => ?_)
  rcases ee : es L h v (r + 1) with _ | q
  · skip
    have hl : lv_has ls 6 [(5, .int (-1)), (0, .ref mo), (1, .int (nI tb)), (2, .int (nI r)), (3, .int (nI v)), (4, .int (nI d))] := by rw [ee] at hl; exact hl
    refine lv_iload hx hb dX4_isPruned_20 (lv_at hl 0 rfl) ?_
    refine lv_iconst (v := (-1)) hx hb dX4_isPruned_22 (by decide) ?_
    refine x_eqM_M (tgt := 37) hx hb dX4_isPruned_23 (by decide) ?_
    refine lv_iconst (v := (nI 0)) hx hb dX4_isPruned_37 (by decide) ?_
    exact W.zret (v := (nI 0)) (ty := .boolean) hx hb hr (by decide) (fun t ht hW => ⟨_, rfl, (show (nI 0) = (bI (rch L h v d (r + 1))) from by rw [rch_none ee]; rfl), ht⟩) (fun _ h => nomatch h) dX4_isPruned_38
  · skip
    have hl : lv_has ls 6 [(5, .int (nI q)), (0, .ref mo), (1, .int (nI tb)), (2, .int (nI r)), (3, .int (nI v)), (4, .int (nI d))] := by rw [ee] at hl; exact hl
    have hq9 := es_lt hB ee
    refine lv_iload hx hb dX4_isPruned_20 (lv_at hl 0 rfl) ?_
    refine lv_iconst (v := (-1)) hx hb dX4_isPruned_22 (by decide) ?_
    refine x_eqM_N (tgt := 37) hx hb (by omega) dX4_isPruned_23 (by decide) ?_
    refine lv_iload hx hb dX4_isPruned_26 (lv_at hl 0 rfl) ?_
    refine lv_iload hx hb dX4_isPruned_28 (lv_at hl 5 rfl) ?_
    refine x_icmp_gtN (i := q) (j := d) (tgt := 37) hx hb (by omega) (by omega) dX4_isPruned_30 (by decide) (fun c30 => ?_) (fun c30 => ?_)
    · skip
      refine lv_iconst (v := (nI 0)) hx hb dX4_isPruned_37 (by decide) ?_
      exact W.zret (v := (nI 0)) (ty := .boolean) hx hb hr (by decide) (fun t ht hW => ⟨_, rfl, (show (nI 0) = (bI (rch L h v d (r + 1))) from by rw [rch_some ee, decide_eq_false (by omega)]; rfl), ht⟩) (fun _ h => nomatch h) dX4_isPruned_38
    · skip
      refine lv_iconst (v := (nI 1)) hx hb dX4_isPruned_33 (by decide) ?_
      refine lv_goto (tgt := 38) hx hb dX4_isPruned_34 (by decide) ?_
      exact W.zret (v := (nI 1)) (ty := .boolean) hx hb hr (by decide) (fun t ht hW => ⟨_, rfl, (show (nI 1) = (bI (rch L h v d (r + 1))) from by rw [rch_some ee, decide_eq_true c30]; rfl), ht⟩) (fun _ h => nomatch h) dX4_isPruned_38

set_option maxHeartbeats 4000000 in
set_option maxRecDepth 100000 in
/-- reference: degree -/
theorem m_degree (l : Launch) (dG : va_G) (cI cJ : ClassId) (mo mN mD mP mH mR mQ mF mO : Nat) (near : Nat → Int64) (n ec : Nat) (bt : Bool) (dis par hubs rnks que far frm : Nat → Int32) (vi cu pu pn wn : Nat) (th : Int32) (hn : n ≤ 48) (v : Nat) (hv : v < 48) : Met l yX4_degree wsX4_degree ({ frames := 1, cells := 0, slots := 0, locals := 22 } : Room) (RPc dG cI cJ [.ref mo, .int (nI v)] (MW cI cJ mo mN mD mP mH mR mQ mF mO near (nI n) (nI ec) (bI bt) dis par hubs rnks que far frm (nI vi) (nI cu) (nI pu) (nI pn) (nI wn) th)) (vp_Si (fun r9 => r9 = (nI (fb_ct (gb (near v)) n)))) 0 0 (fun _ => False) := by
  refine Met.ofW (cc := cX4_degree) (maxL := 4) (ret := (some .int)) (by decide) rfl ?_
  intro p e s m args below meth c s₁ B9 hml hv
  obtain ⟨rfl, hP, hK⟩ := hv
  have hx := B9.exec
  have hb := B9.bytes
  have hr := B9.returns
  have hts := atoms_spec (ws := wsX4_degree) B9.pre
  have hown : s.vm.findClass RX4 = some m.cls := findClass_of_methodNamed B9.named
  have hlocks := B9.notSynchronized
  have hl := lv_entry ([.ref mo, .int (nI v)]) (n := 4) (Nat.le_of_ble_eq_true rfl)
  rw [lg_entry_eq]
  generalize (lg_sl ([.ref mo, .int (nI v)]) ++ List.replicate (4 - (lg_sl ([.ref mo, .int (nI v)])).length) Slot.unset).toArray = ls at hl ⊢
  have hl : lv_has ls 4 [(0, .ref mo), (1, .int (nI v))] := hl
  have hiX4 : ∀ w ∈ wsX40, w ∈ wsX4_degree := by decide +kernel
  have hf39 := hts (.fieldLink RX4 39 "LandmarkLeaModel" "many" "I") (by decide +kernel)
  refine lv_iconst (v := (nI 0)) hx hb dX4_degree_0 (by decide) ?_
  refine lv_istore_n (lv' := [(2, .int (nI 0)), (0, .ref mo), (1, .int (nI v))]) hx hb dX4_degree_1 rfl hl (by decide) rfl (fun ls hl => ?_)
  refine lv_iconst (v := (nI 0)) hx hb dX4_degree_2 (by decide) ?_
  refine lv_istore_n (lv' := [(3, .int (nI 0)), (2, .int (nI 0)), (0, .ref mo), (1, .int (nI v))]) hx hb dX4_degree_3 rfl hl (by decide) rfl (fun ls hl => ?_)
  have loop : ∀ (QQ : State → Prop) (n1 : Nat) (k : Nat), n < k + n1 → k ≤ n → (∀ ls : Array Slot, lv_has ls 4 [(0, .ref mo), (1, .int (nI v)), (2, .int (nI (fb_ct (gb (near v)) n))), (3, .int (nI n))] → W p l e ({ frames := 1, cells := 0, slots := 0, locals := 22 } : Room) s m ([.ref mo, .int (nI v)] : List Value).toArray below meth c s.heap [] 0 0 QQ (F0 m 35 ls [])) → ∀ ls : Array Slot, lv_has ls 4 [(0, .ref mo), (1, .int (nI v)), (2, .int (nI (fb_ct (gb (near v)) k))), (3, .int (nI k))] → W p l e ({ frames := 1, cells := 0, slots := 0, locals := 22 } : Room) s m ([.ref mo, .int (nI v)] : List Value).toArray below meth c s.heap [] 0 0 QQ (F0 m 4 ls []) := by
    intro QQ n1
    induction n1 with
    | zero => intro k h1 h2; exact absurd h1 (by omega)
    | succ n1 ih =>
      intro k h1 h2 kx ls hl
      refine lv_iload_n hx hb dX4_degree_4 rfl (lv_at hl 3 rfl) ?_
      refine lv_aload_n hx hb dX4_degree_5 rfl (lv_at hl 0 rfl) ?_
      refine va_get (D := dG) (ci := 4) (v := .int (nI n)) (C := RX4) (T := TX4) (N := 17) hx hb hts hiX4 hown hK.1 hP 0 rfl rfl 1 (by decide) hf39 (fun _ h9 => h9) rfl dX4_degree_6 ?_
      refine x_icmp_geN (i := k) (j := n) (tgt := 35) hx hb (by omega) (by omega) dX4_degree_9 (by decide) (fun c9 => ?_) (fun c9 => ?_)
      · skip
        have ek : k = n := by omega
        subst ek
        exact kx  ls (lv_sub hl [0, 1, 2, 3] rfl)
      · skip
        refine lv_iload_n hx hb dX4_degree_12 rfl (lv_at hl 2 rfl) ?_
        refine lv_aload_n hx hb dX4_degree_13 rfl (lv_at hl 0 rfl) ?_
        refine lv_iload_n hx hb dX4_degree_14 rfl (lv_at hl 1 rfl) ?_
        refine lv_iload_n hx hb dX4_degree_15 rfl (lv_at hl 3 rfl) ?_
        have hPc := hP.sub (ws' := (MW cI cJ mo mN mD mP mH mR mQ mF mO near (nI n) (nI ec) (bI bt) dis par hubs rnks que far frm (nI vi) (nI cu) (nI pu) (nI pn) (nI wn) th)) [0, 1, 2, 3, 4, 5, 6, 7, 8] rfl
        refine x_ri (W.runV (As := [.int (nI v), .int (nI k)]) (rest := [.int (nI (fb_ct (gb (near v)) k))]) ⟨hx, hb, hml, hown, hts⟩ (m_isEdge l dG cI cJ mo mN mD mP mH mR mQ mF mO near n ec bt dis par hubs rnks que far frm vi cu pu pn wn th v k hv (by omega)) (cwV 2 hts gX4_degree_X4_isEdge rfl rfl rfl (by decide +kernel) ⟨Nat.le_of_ble_eq_true rfl, Nat.le_of_ble_eq_true rfl⟩) (RPc.pre hPc hK (va_recv hK.1 hPc (ci := 4) (q0 := 0) rfl rfl)) rfl rfl hl.1 rfl (lv_room (Nat.le_of_ble_eq_true rfl)) dX4_degree_16 ⟨Nat.zero_le _, Nat.zero_le _⟩) ?_
        refine x_ifeqB (tgt := 26) hx hb dX4_degree_19 (by decide) (fun c19 => ?_) (fun c19 => ?_)
        · skip
          refine lv_iconst (v := (nI 0)) hx hb dX4_degree_26 (by decide) ?_
          refine x_addN (i := (fb_ct (gb (near v)) k)) (j := 0) hx hb dX4_degree_27 ?_
          refine lv_istore_n (lv' := [(2, .int (nI ((fb_ct (gb (near v)) k) + 0))), (0, .ref mo), (1, .int (nI v)), (3, .int (nI k))]) hx hb dX4_degree_28 rfl hl (by decide) rfl (fun ls hl => ?_)
          refine x_iincN (lv' := [(3, .int (nI (k + 1))), (2, .int (nI ((fb_ct (gb (near v)) k) + 0))), (0, .ref mo), (1, .int (nI v))]) hx hb dX4_degree_29 hl (k := 3) rfl (by decide) rfl (fun ls hl => ?_)
          refine lv_goto (tgt := 4) hx hb dX4_degree_32 (by decide) ?_
          have hl : lv_has ls 4 [(3, .int (nI (k + 1))), (2, .int (nI (fb_ct (gb (near v)) (k + 1)))), (0, .ref mo), (1, .int (nI v))] := by rw [fb_ct_succ, c19]; exact hl
          exact ih (k + 1) (by omega) (by omega) kx ls (lv_sub hl [2, 3, 1, 0] rfl)
        · skip
          refine lv_iconst (v := (nI 1)) hx hb dX4_degree_22 (by decide) ?_
          refine lv_goto (tgt := 27) hx hb dX4_degree_23 (by decide) ?_
          refine x_addN (i := (fb_ct (gb (near v)) k)) (j := 1) hx hb dX4_degree_27 ?_
          refine lv_istore_n (lv' := [(2, .int (nI ((fb_ct (gb (near v)) k) + 1))), (0, .ref mo), (1, .int (nI v)), (3, .int (nI k))]) hx hb dX4_degree_28 rfl hl (by decide) rfl (fun ls hl => ?_)
          refine x_iincN (lv' := [(3, .int (nI (k + 1))), (2, .int (nI ((fb_ct (gb (near v)) k) + 1))), (0, .ref mo), (1, .int (nI v))]) hx hb dX4_degree_29 hl (k := 3) rfl (by decide) rfl (fun ls hl => ?_)
          refine lv_goto (tgt := 4) hx hb dX4_degree_32 (by decide) ?_
          have hl : lv_has ls 4 [(3, .int (nI (k + 1))), (2, .int (nI (fb_ct (gb (near v)) (k + 1)))), (0, .ref mo), (1, .int (nI v))] := by rw [fb_ct_succ, c19]; exact hl
          exact ih (k + 1) (by omega) (by omega) kx ls (lv_sub hl [2, 3, 1, 0] rfl)
  refine loop _ 49 0 (by omega) (by omega) (fun  ls hl => ?_) ls (lv_sub hl [2, 3, 1, 0] rfl)
  refine lv_iload_n hx hb dX4_degree_35 rfl (lv_at hl 2 rfl) ?_
  exact W.iret (v := (nI (fb_ct (gb (near v)) n))) hx hb hr (fun t ht hW => ⟨_, rfl, rfl, ht⟩) (fun _ h => nomatch h) dX4_degree_36

set_option maxHeartbeats 4000000 in
set_option maxRecDepth 100000 in
/-- reference: size -/
theorem m_size (l : Launch) (dG : va_G) (cI cJ : ClassId) (mo mN mD mP mH mR mQ mF mO : Nat) (near : Nat → Int64) (n ec : Nat) (bt : Bool) (dis par hubs rnks que far frm : Nat → Int32) (vi cu pu pn wn : Nat) (th : Int32) (tb : Nat) (htb : tb < 2) (L P : Nat → Nat → Option Nat) (hR : RepM tb L P dis par) (hB : LBd L (2 ^ 30)) (hn : n ≤ 48) (v : Nat) (hv : v < 48) : Met l yX4_size wsX4_size ({ frames := 1, cells := 0, slots := 0, locals := 22 } : Room) (RPc dG cI cJ [.ref mo, .int (nI tb), .int (nI v)] (MW cI cJ mo mN mD mP mH mR mQ mF mO near (nI n) (nI ec) (bI bt) dis par hubs rnks que far frm (nI vi) (nI cu) (nI pu) (nI pn) (nI wn) th)) (vp_Si (fun r9 => r9 = (nI (fb_ct (fun k => (L v k).isSome) n)))) 0 0 (fun _ => False) := by
  refine Met.ofW (cc := cX4_size) (maxL := 5) (ret := (some .int)) (by decide) rfl ?_
  intro p e s m args below meth c s₁ B9 hml hv
  obtain ⟨rfl, hP, hK⟩ := hv
  have hx := B9.exec
  have hb := B9.bytes
  have hr := B9.returns
  have hts := atoms_spec (ws := wsX4_size) B9.pre
  have hown : s.vm.findClass RX4 = some m.cls := findClass_of_methodNamed B9.named
  have hlocks := B9.notSynchronized
  have hl := lv_entry ([.ref mo, .int (nI tb), .int (nI v)]) (n := 5) (Nat.le_of_ble_eq_true rfl)
  rw [lg_entry_eq]
  generalize (lg_sl ([.ref mo, .int (nI tb), .int (nI v)]) ++ List.replicate (5 - (lg_sl ([.ref mo, .int (nI tb), .int (nI v)])).length) Slot.unset).toArray = ls at hl ⊢
  have hl : lv_has ls 5 [(0, .ref mo), (1, .int (nI tb)), (2, .int (nI v))] := hl
  have hiX4 : ∀ w ∈ wsX40, w ∈ wsX4_size := by decide +kernel
  have hf13 := hts (.fieldLink RX4 13 "LandmarkLeaModel" "distances" "[I") (by decide +kernel)
  have hf39 := hts (.fieldLink RX4 39 "LandmarkLeaModel" "many" "I") (by decide +kernel)
  refine lv_iconst (v := (nI 0)) hx hb dX4_size_0 (by decide) ?_
  refine lv_istore_n (lv' := [(3, .int (nI 0)), (0, .ref mo), (1, .int (nI tb)), (2, .int (nI v))]) hx hb dX4_size_1 rfl hl (by decide) rfl (fun ls hl => ?_)
  refine lv_iconst (v := (nI 0)) hx hb dX4_size_2 (by decide) ?_
  refine lv_istore (lv' := [(4, .int (nI 0)), (3, .int (nI 0)), (0, .ref mo), (1, .int (nI tb)), (2, .int (nI v))]) hx hb dX4_size_3 hl (by decide) rfl (fun ls hl => ?_)
  have loop : ∀ (QQ : State → Prop) (n1 : Nat) (k : Nat), n < k + n1 → k ≤ n → (∀ ls : Array Slot, lv_has ls 5 [(0, .ref mo), (1, .int (nI tb)), (2, .int (nI v)), (3, .int (nI (fb_ct (fun k => (L v k).isSome) n))), (4, .int (nI n))] → W p l e ({ frames := 1, cells := 0, slots := 0, locals := 22 } : Room) s m ([.ref mo, .int (nI tb), .int (nI v)] : List Value).toArray below meth c s.heap [] 0 0 QQ (F0 m 44 ls [])) → ∀ ls : Array Slot, lv_has ls 5 [(0, .ref mo), (1, .int (nI tb)), (2, .int (nI v)), (3, .int (nI (fb_ct (fun k => (L v k).isSome) k))), (4, .int (nI k))] → W p l e ({ frames := 1, cells := 0, slots := 0, locals := 22 } : Room) s m ([.ref mo, .int (nI tb), .int (nI v)] : List Value).toArray below meth c s.heap [] 0 0 QQ (F0 m 5 ls []) := by
    intro QQ n1
    induction n1 with
    | zero => intro k h1 h2; exact absurd h1 (by omega)
    | succ n1 ih =>
      intro k h1 h2 kx ls hl
      refine lv_iload hx hb dX4_size_5 (lv_at hl 4 rfl) ?_
      refine lv_aload_n hx hb dX4_size_7 rfl (lv_at hl 0 rfl) ?_
      refine va_get (D := dG) (ci := 4) (v := .int (nI n)) (C := RX4) (T := TX4) (N := 17) hx hb hts hiX4 hown hK.1 hP 0 rfl rfl 1 (by decide) hf39 (fun _ h9 => h9) rfl dX4_size_8 ?_
      refine x_icmp_geN (i := k) (j := n) (tgt := 44) hx hb (by omega) (by omega) dX4_size_11 (by decide) (fun c11 => ?_) (fun c11 => ?_)
      · skip
        have ek : k = n := by omega
        subst ek
        exact kx  ls (lv_sub hl [0, 1, 2, 3, 4] rfl)
      · skip
        refine lv_iload_n hx hb dX4_size_14 rfl (lv_at hl 3 rfl) ?_
        refine lv_aload_n hx hb dX4_size_15 rfl (lv_at hl 0 rfl) ?_
        refine va_get (D := dG) (ci := 4) (v := .ref mD) (C := RX4) (T := TX4) (N := 17) hx hb hts hiX4 hown hK.1 hP 0 rfl rfl 4 (by decide) hf13 (fun _ h9 => h9) rfl dX4_size_16 ?_
        refine lv_iload_n hx hb dX4_size_19 rfl (lv_at hl 1 rfl) ?_
        refine lv_iload_n hx hb dX4_size_20 rfl (lv_at hl 2 rfl) ?_
        refine lv_iload hx hb dX4_size_21 (lv_at hl 4 rfl) ?_
        have hPc : va_P dG vwCl [] s.heap := fun k q h => by simp at h
        refine x_ri (W.runS (As := [.int (nI tb), .int (nI v), .int (nI k)]) (rest := [.ref mD, .int (nI (fb_ct (fun k => (L v k).isSome) k))]) ⟨hx, hb, hml, hown, hts⟩ (m_at l dG cI cJ tb v k) (va_cwS 3 hts gX4_size_X4_at rfl rfl rfl (by decide +kernel) ⟨Nat.le_of_ble_eq_true rfl, Nat.le_of_ble_eq_true rfl⟩) (RPc.preS hPc hK) rfl rfl hl.1 rfl (lv_room (Nat.le_of_ble_eq_true rfl)) dX4_size_23 ⟨Nat.zero_le _, Nat.zero_le _⟩) ?_
        refine x_iald (f := dis) hx hb hK hP 2 rfl (by omega) (by decide) dX4_size_26 ?_
        rw [show dis (2304 * tb + 48 * v + k) = (eN (L v k)) from (hR v k hv (by omega)).1]
        rcases ev : L v k with _ | b
        · skip
          show W _ _ _ _ _ _ _ _ _ _ _ _ _ _ _ (F0 m 27 ls [.int (-1), .int (nI (fb_ct (fun k => (L v k).isSome) k))])
          refine lv_iconst (v := (-1)) hx hb dX4_size_27 (by decide) ?_
          refine x_neM_M (tgt := 35) hx hb dX4_size_28 (by decide) ?_
          refine lv_iconst (v := (nI 0)) hx hb dX4_size_31 (by decide) ?_
          refine lv_goto (tgt := 36) hx hb dX4_size_32 (by decide) ?_
          refine x_addN (i := (fb_ct (fun k => (L v k).isSome) k)) (j := 0) hx hb dX4_size_36 ?_
          refine lv_istore_n (lv' := [(3, .int (nI ((fb_ct (fun k => (L v k).isSome) k) + 0))), (0, .ref mo), (1, .int (nI tb)), (2, .int (nI v)), (4, .int (nI k))]) hx hb dX4_size_37 rfl hl (by decide) rfl (fun ls hl => ?_)
          refine x_iincN (lv' := [(4, .int (nI (k + 1))), (3, .int (nI ((fb_ct (fun k => (L v k).isSome) k) + 0))), (0, .ref mo), (1, .int (nI tb)), (2, .int (nI v))]) hx hb dX4_size_38 hl (k := 4) rfl (by decide) rfl (fun ls hl => ?_)
          refine lv_goto (tgt := 5) hx hb dX4_size_41 (by decide) ?_
          have hl : lv_has ls 5 [(4, .int (nI (k + 1))), (3, .int (nI (fb_ct (fun k => (L v k).isSome) (k + 1)))), (0, .ref mo), (1, .int (nI tb)), (2, .int (nI v))] := by rw [fb_ct_succ, ev]; exact hl
          exact ih (k + 1) (by omega) (by omega) kx ls (lv_sub hl [2, 3, 4, 1, 0] rfl)
        · skip
          show W _ _ _ _ _ _ _ _ _ _ _ _ _ _ _ (F0 m 27 ls [.int (nI b), .int (nI (fb_ct (fun k => (L v k).isSome) k))])
          have hb9 := hB v k b ev
          refine lv_iconst (v := (-1)) hx hb dX4_size_27 (by decide) ?_
          refine x_neM_N (tgt := 35) hx hb (by omega) dX4_size_28 (by decide) ?_
          refine lv_iconst (v := (nI 1)) hx hb dX4_size_35 (by decide) ?_
          refine x_addN (i := (fb_ct (fun k => (L v k).isSome) k)) (j := 1) hx hb dX4_size_36 ?_
          refine lv_istore_n (lv' := [(3, .int (nI ((fb_ct (fun k => (L v k).isSome) k) + 1))), (0, .ref mo), (1, .int (nI tb)), (2, .int (nI v)), (4, .int (nI k))]) hx hb dX4_size_37 rfl hl (by decide) rfl (fun ls hl => ?_)
          refine x_iincN (lv' := [(4, .int (nI (k + 1))), (3, .int (nI ((fb_ct (fun k => (L v k).isSome) k) + 1))), (0, .ref mo), (1, .int (nI tb)), (2, .int (nI v))]) hx hb dX4_size_38 hl (k := 4) rfl (by decide) rfl (fun ls hl => ?_)
          refine lv_goto (tgt := 5) hx hb dX4_size_41 (by decide) ?_
          have hl : lv_has ls 5 [(4, .int (nI (k + 1))), (3, .int (nI (fb_ct (fun k => (L v k).isSome) (k + 1)))), (0, .ref mo), (1, .int (nI tb)), (2, .int (nI v))] := by rw [fb_ct_succ, ev]; exact hl
          exact ih (k + 1) (by omega) (by omega) kx ls (lv_sub hl [2, 3, 4, 1, 0] rfl)
  refine loop _ 49 0 (by omega) (by omega) (fun  ls hl => ?_) ls (lv_sub hl [2, 3, 4, 1, 0] rfl)
  refine lv_iload_n hx hb dX4_size_44 rfl (lv_at hl 3 rfl) ?_
  exact W.iret (v := (nI (fb_ct (fun k => (L v k).isSome) n))) hx hb hr (fun t ht hW => ⟨_, rfl, rfl, ht⟩) (fun _ h => nomatch h) dX4_size_45

set_option maxHeartbeats 4000000 in
set_option maxRecDepth 100000 in
/-- reference: all -/
theorem m_all (l : Launch) (dG : va_G) (cI cJ : ClassId) (mo mN mD mP mH mR mQ mF mO : Nat) (near : Nat → Int64) (n ec : Nat) (bt : Bool) (dis par hubs rnks que far frm : Nat → Int32) (vi cu pu pn wn : Nat) (th : Int32) (tb : Nat) (htb : tb < 2) (L P : Nat → Nat → Option Nat) (hR : RepM tb L P dis par) (hB : LBd L (2 ^ 30)) (hn : n ≤ 48) : Met l yX4_all wsX4_all ({ frames := 2, cells := 0, slots := 0, locals := 46 } : Room) (RPc dG cI cJ [.ref mo, .int (nI tb)] (MW cI cJ mo mN mD mP mH mR mQ mF mO near (nI n) (nI ec) (bI bt) dis par hubs rnks que far frm (nI vi) (nI cu) (nI pu) (nI pn) (nI wn) th)) (vp_Si (fun r9 => r9 = (nI (fb_sm (fun v => fb_ct (fun k => (L v k).isSome) n) n)))) 0 0 (fun _ => False) := by
  refine Met.ofW (cc := cX4_all) (maxL := 4) (ret := (some .int)) (by decide) rfl ?_
  intro p e s m args below meth c s₁ B9 hml hv
  obtain ⟨rfl, hP, hK⟩ := hv
  have hx := B9.exec
  have hb := B9.bytes
  have hr := B9.returns
  have hts := atoms_spec (ws := wsX4_all) B9.pre
  have hown : s.vm.findClass RX4 = some m.cls := findClass_of_methodNamed B9.named
  have hlocks := B9.notSynchronized
  have hl := lv_entry ([.ref mo, .int (nI tb)]) (n := 4) (Nat.le_of_ble_eq_true rfl)
  rw [lg_entry_eq]
  generalize (lg_sl ([.ref mo, .int (nI tb)]) ++ List.replicate (4 - (lg_sl ([.ref mo, .int (nI tb)])).length) Slot.unset).toArray = ls at hl ⊢
  have hl : lv_has ls 4 [(0, .ref mo), (1, .int (nI tb))] := hl
  have hiX4 : ∀ w ∈ wsX40, w ∈ wsX4_all := by decide +kernel
  have hf39 := hts (.fieldLink RX4 39 "LandmarkLeaModel" "many" "I") (by decide +kernel)
  refine lv_iconst (v := (nI 0)) hx hb dX4_all_0 (by decide) ?_
  refine lv_istore_n (lv' := [(2, .int (nI 0)), (0, .ref mo), (1, .int (nI tb))]) hx hb dX4_all_1 rfl hl (by decide) rfl (fun ls hl => ?_)
  refine lv_iconst (v := (nI 0)) hx hb dX4_all_2 (by decide) ?_
  refine lv_istore_n (lv' := [(3, .int (nI 0)), (2, .int (nI 0)), (0, .ref mo), (1, .int (nI tb))]) hx hb dX4_all_3 rfl hl (by decide) rfl (fun ls hl => ?_)
  have loop : ∀ (QQ : State → Prop) (n1 : Nat) (k : Nat), n < k + n1 → k ≤ n → (∀ ls : Array Slot, lv_has ls 4 [(0, .ref mo), (1, .int (nI tb)), (2, .int (nI (fb_sm (fun v => fb_ct (fun k => (L v k).isSome) n) n))), (3, .int (nI n))] → W p l e ({ frames := 2, cells := 0, slots := 0, locals := 46 } : Room) s m ([.ref mo, .int (nI tb)] : List Value).toArray below meth c s.heap [] 0 0 QQ (F0 m 27 ls [])) → ∀ ls : Array Slot, lv_has ls 4 [(0, .ref mo), (1, .int (nI tb)), (2, .int (nI (fb_sm (fun v => fb_ct (fun k => (L v k).isSome) n) k))), (3, .int (nI k))] → W p l e ({ frames := 2, cells := 0, slots := 0, locals := 46 } : Room) s m ([.ref mo, .int (nI tb)] : List Value).toArray below meth c s.heap [] 0 0 QQ (F0 m 4 ls []) := by
    intro QQ n1
    induction n1 with
    | zero => intro k h1 h2; exact absurd h1 (by omega)
    | succ n1 ih =>
      intro k h1 h2 kx ls hl
      refine lv_iload_n hx hb dX4_all_4 rfl (lv_at hl 3 rfl) ?_
      refine lv_aload_n hx hb dX4_all_5 rfl (lv_at hl 0 rfl) ?_
      refine va_get (D := dG) (ci := 4) (v := .int (nI n)) (C := RX4) (T := TX4) (N := 17) hx hb hts hiX4 hown hK.1 hP 0 rfl rfl 1 (by decide) hf39 (fun _ h9 => h9) rfl dX4_all_6 ?_
      refine x_icmp_geN (i := k) (j := n) (tgt := 27) hx hb (by omega) (by omega) dX4_all_9 (by decide) (fun c9 => ?_) (fun c9 => ?_)
      · skip
        have ek : k = n := by omega
        subst ek
        exact kx  ls (lv_sub hl [0, 1, 2, 3] rfl)
      · skip
        refine lv_iload_n hx hb dX4_all_12 rfl (lv_at hl 2 rfl) ?_
        refine lv_aload_n hx hb dX4_all_13 rfl (lv_at hl 0 rfl) ?_
        refine lv_iload_n hx hb dX4_all_14 rfl (lv_at hl 1 rfl) ?_
        refine lv_iload_n hx hb dX4_all_15 rfl (lv_at hl 3 rfl) ?_
        have hPc := hP.sub (ws' := (MW cI cJ mo mN mD mP mH mR mQ mF mO near (nI n) (nI ec) (bI bt) dis par hubs rnks que far frm (nI vi) (nI cu) (nI pu) (nI pn) (nI wn) th)) [0, 1, 2, 3, 4, 5, 6, 7, 8] rfl
        refine x_ri (W.runV (As := [.int (nI tb), .int (nI k)]) (rest := [.int (nI (fb_sm (fun v => fb_ct (fun k => (L v k).isSome) n) k))]) ⟨hx, hb, hml, hown, hts⟩ (m_size l dG cI cJ mo mN mD mP mH mR mQ mF mO near n ec bt dis par hubs rnks que far frm vi cu pu pn wn th tb htb L P hR hB hn k (by omega)) (cwV 2 hts gX4_all_X4_size rfl rfl rfl (by decide +kernel) ⟨Nat.le_of_ble_eq_true rfl, Nat.le_of_ble_eq_true rfl⟩) (RPc.pre hPc hK (va_recv hK.1 hPc (ci := 4) (q0 := 0) rfl rfl)) rfl rfl hl.1 rfl (lv_room (Nat.le_of_ble_eq_true rfl)) dX4_all_16 ⟨Nat.zero_le _, Nat.zero_le _⟩) ?_
        refine x_addN (i := (fb_sm (fun v => fb_ct (fun k => (L v k).isSome) n) k)) (j := (fb_ct (fun k9 => (L k k9).isSome) n)) hx hb dX4_all_19 ?_
        refine lv_istore_n (lv' := [(2, .int (nI ((fb_sm (fun v => fb_ct (fun k => (L v k).isSome) n) k) + (fb_ct (fun k9 => (L k k9).isSome) n)))), (0, .ref mo), (1, .int (nI tb)), (3, .int (nI k))]) hx hb dX4_all_20 rfl hl (by decide) rfl (fun ls hl => ?_)
        refine x_iincN (lv' := [(3, .int (nI (k + 1))), (2, .int (nI ((fb_sm (fun v => fb_ct (fun k => (L v k).isSome) n) k) + (fb_ct (fun k9 => (L k k9).isSome) n)))), (0, .ref mo), (1, .int (nI tb))]) hx hb dX4_all_21 hl (k := 3) rfl (by decide) rfl (fun ls hl => ?_)
        refine lv_goto (tgt := 4) hx hb dX4_all_24 (by decide) ?_
        exact ih (k + 1) (by omega) (by omega) kx ls (lv_sub hl [2, 3, 1, 0] rfl)
  refine loop _ 49 0 (by omega) (by omega) (fun  ls hl => ?_) ls (lv_sub hl [2, 3, 1, 0] rfl)
  refine lv_iload_n hx hb dX4_all_27 rfl (lv_at hl 2 rfl) ?_
  exact W.iret (v := (nI (fb_sm (fun v => fb_ct (fun k => (L v k).isSome) n) n))) hx hb hr (fun t ht hW => ⟨_, rfl, rfl, ht⟩) (fun _ h => nomatch h) dX4_all_28

set_option maxHeartbeats 4000000 in
set_option maxRecDepth 100000 in
/-- reference: between -/
theorem m_between (l : Launch) (dG : va_G) (cI cJ : ClassId) (mo mN mD mP mH mR mQ mF mO : Nat) (near : Nat → Int64) (n ec : Nat) (bt : Bool) (dis par hubs rnks que far frm : Nat → Int32) (vi cu pu pn wn : Nat) (th : Int32) (L P : Nat → Nat → Option Nat) (hR : RepM 0 L P dis par) (hB : LBd L (2 ^ 30)) (hn : n ≤ 48) (h1n : 1 ≤ n) (u v : Nat) (hu : u < 48) (hv : v < 48) : Met l yX4_between wsX4_between ({ frames := 2, cells := 0, slots := 0, locals := 51 } : Room) (RPc dG cI cJ [.ref mo, .int (nI u), .int (nI v)] (MW cI cJ mo mN mD mP mH mR mQ mF mO near (nI n) (nI ec) (bI bt) dis par hubs rnks que far frm (nI vi) (nI cu) (nI pu) (nI pn) (nI wn) th)) (vp_Si (fun r9 => r9 = (eN (es L u v n)))) 0 0 (fun _ => False) := by
  refine Met.ofW (cc := cX4_between) (maxL := 3) (ret := (some .int)) (by decide) rfl ?_
  intro p e s m args below meth c s₁ B9 hml hv
  obtain ⟨rfl, hP, hK⟩ := hv
  have hx := B9.exec
  have hb := B9.bytes
  have hr := B9.returns
  have hts := atoms_spec (ws := wsX4_between) B9.pre
  have hown : s.vm.findClass RX4 = some m.cls := findClass_of_methodNamed B9.named
  have hlocks := B9.notSynchronized
  have hl := lv_entry ([.ref mo, .int (nI u), .int (nI v)]) (n := 3) (Nat.le_of_ble_eq_true rfl)
  rw [lg_entry_eq]
  generalize (lg_sl ([.ref mo, .int (nI u), .int (nI v)]) ++ List.replicate (3 - (lg_sl ([.ref mo, .int (nI u), .int (nI v)])).length) Slot.unset).toArray = ls at hl ⊢
  have hl : lv_has ls 3 [(0, .ref mo), (1, .int (nI u)), (2, .int (nI v))] := hl
  have hiX4 : ∀ w ∈ wsX40, w ∈ wsX4_between := by decide +kernel
  have hf39 := hts (.fieldLink RX4 39 "LandmarkLeaModel" "many" "I") (by decide +kernel)
  refine lv_aload_n hx hb dX4_between_0 rfl (lv_at hl 0 rfl) ?_
  refine lv_iconst (v := (nI 0)) hx hb dX4_between_1 (by decide) ?_
  refine lv_iload_n hx hb dX4_between_2 rfl (lv_at hl 1 rfl) ?_
  refine lv_iload_n hx hb dX4_between_3 rfl (lv_at hl 2 rfl) ?_
  refine lv_aload_n hx hb dX4_between_4 rfl (lv_at hl 0 rfl) ?_
  refine va_get (D := dG) (ci := 4) (v := .int (nI n)) (C := RX4) (T := TX4) (N := 17) hx hb hts hiX4 hown hK.1 hP 0 rfl rfl 1 (by decide) hf39 (fun _ h9 => h9) rfl dX4_between_5 ?_
  refine lv_iconst (v := (nI 1)) hx hb dX4_between_8 (by decide) ?_
  refine x_subN (i := n) (j := 1) hx hb (by omega) dX4_between_9 ?_
  have hPc := hP.sub (ws' := (MW cI cJ mo mN mD mP mH mR mQ mF mO near (nI n) (nI ec) (bI bt) dis par hubs rnks que far frm (nI vi) (nI cu) (nI pu) (nI pn) (nI wn) th)) [0, 1, 2, 3, 4, 5, 6, 7, 8] rfl
  refine x_ri (W.runV (As := [.int (nI 0), .int (nI u), .int (nI v), .int (nI (n - 1))]) (rest := []) ⟨hx, hb, hml, hown, hts⟩ (m_estimate l dG cI cJ mo mN mD mP mH mR mQ mF mO near n ec bt dis par hubs rnks que far frm vi cu pu pn wn th 0 (by omega) L P hR hB u v (n - 1) hu hv (by omega)) (cwV 4 hts gX4_between_X4_estimate rfl rfl rfl (by decide +kernel) ⟨Nat.le_of_ble_eq_true rfl, Nat.le_of_ble_eq_true rfl⟩) (RPc.pre hPc hK (va_recv hK.1 hPc (ci := 4) (q0 := 0) rfl rfl)) rfl rfl hl.1 rfl (lv_room (Nat.le_of_ble_eq_true rfl)) dX4_between_10 ⟨Nat.zero_le _, Nat.zero_le _⟩) ?_
  exact W.iret (v := (eN (es L u v (n - 1 + 1)))) hx hb hr (fun t ht hW => ⟨_, rfl, (show (eN (es L u v (n - 1 + 1))) = (eN (es L u v n)) from by rw [show n - 1 + 1 = n by omega]), ht⟩) (fun _ h => nomatch h) dX4_between_13

set_option maxHeartbeats 4000000 in
set_option maxRecDepth 100000 in
/-- reference: rankBetween -/
theorem m_rankBetween (l : Launch) (dG : va_G) (cI cJ : ClassId) (mo mN mD mP mH mR mQ mF mO : Nat) (near : Nat → Int64) (n ec : Nat) (bt : Bool) (dis par hubs rnks que far frm : Nat → Int32) (vi cu pu pn wn : Nat) (th : Int32) (L P : Nat → Nat → Option Nat) (hR : RepM 0 L P dis par) (hB : LBd L (2 ^ 30)) (hn : n ≤ 48) (h1n : 1 ≤ n) (u v : Nat) (hu : u < 48) (hv : v < 48) : Met l yX4_rankBetween wsX4_rankBetween ({ frames := 3, cells := 0, slots := 0, locals := 73 } : Room) (RPc dG cI cJ [.ref mo, .int (nI u), .int (nI v)] (MW cI cJ mo mN mD mP mH mR mQ mF mO near (nI n) (nI ec) (bI bt) dis par hubs rnks que far frm (nI vi) (nI cu) (nI pu) (nI pn) (nI wn) th)) (vp_Si (fun r9 => r9 = (eN (mr L u v n)))) 0 0 (fun _ => False) := by
  refine Met.ofW (cc := cX4_rankBetween) (maxL := 8) (ret := (some .int)) (by decide) rfl ?_
  intro p e s m args below meth c s₁ B9 hml hv
  obtain ⟨rfl, hP, hK⟩ := hv
  have hx := B9.exec
  have hb := B9.bytes
  have hr := B9.returns
  have hts := atoms_spec (ws := wsX4_rankBetween) B9.pre
  have hown : s.vm.findClass RX4 = some m.cls := findClass_of_methodNamed B9.named
  have hlocks := B9.notSynchronized
  have hl := lv_entry ([.ref mo, .int (nI u), .int (nI v)]) (n := 8) (Nat.le_of_ble_eq_true rfl)
  rw [lg_entry_eq]
  generalize (lg_sl ([.ref mo, .int (nI u), .int (nI v)]) ++ List.replicate (8 - (lg_sl ([.ref mo, .int (nI u), .int (nI v)])).length) Slot.unset).toArray = ls at hl ⊢
  have hl : lv_has ls 8 [(0, .ref mo), (1, .int (nI u)), (2, .int (nI v))] := hl
  have hiX4 : ∀ w ∈ wsX40, w ∈ wsX4_rankBetween := by decide +kernel
  have hf13 := hts (.fieldLink RX4 13 "LandmarkLeaModel" "distances" "[I") (by decide +kernel)
  have hf39 := hts (.fieldLink RX4 39 "LandmarkLeaModel" "many" "I") (by decide +kernel)
  refine lv_aload_n hx hb dX4_rankBetween_0 rfl (lv_at hl 0 rfl) ?_
  refine lv_iload_n hx hb dX4_rankBetween_1 rfl (lv_at hl 1 rfl) ?_
  refine lv_iload_n hx hb dX4_rankBetween_2 rfl (lv_at hl 2 rfl) ?_
  have hPc := hP.sub (ws' := (MW cI cJ mo mN mD mP mH mR mQ mF mO near (nI n) (nI ec) (bI bt) dis par hubs rnks que far frm (nI vi) (nI cu) (nI pu) (nI pn) (nI wn) th)) [0, 1, 2, 3, 4, 5, 6, 7, 8] rfl
  refine x_ri (W.runV (As := [.int (nI u), .int (nI v)]) (rest := []) ⟨hx, hb, hml, hown, hts⟩ (m_between l dG cI cJ mo mN mD mP mH mR mQ mF mO near n ec bt dis par hubs rnks que far frm vi cu pu pn wn th L P hR hB hn h1n u v hu hv) (cwV 2 hts gX4_rankBetween_X4_between rfl rfl rfl (by decide +kernel) ⟨Nat.le_of_ble_eq_true rfl, Nat.le_of_ble_eq_true rfl⟩) (RPc.pre hPc hK (va_recv hK.1 hPc (ci := 4) (q0 := 0) rfl rfl)) rfl rfl hl.1 rfl (lv_room (Nat.le_of_ble_eq_true rfl)) dX4_rankBetween_3 ⟨Nat.zero_le _, Nat.zero_le _⟩) ?_
  rcases hm : mr L u v n with _ | q
  · skip
    rw [show es L u v n = none by unfold es; rw [hm]; rfl]
    show W _ _ _ _ _ _ _ _ _ _ _ _ _ _ _ (F0 m 6 ls [.int (-1)])
    refine lv_istore_n (lv' := [(3, .int (-1)), (0, .ref mo), (1, .int (nI u)), (2, .int (nI v))]) hx hb dX4_rankBetween_6 rfl hl (by decide) rfl (fun ls hl => ?_)
    refine lv_iconst (v := (-1)) hx hb dX4_rankBetween_7 (by decide) ?_
    refine lv_istore (lv' := [(4, .int (-1)), (3, .int (-1)), (0, .ref mo), (1, .int (nI u)), (2, .int (nI v))]) hx hb dX4_rankBetween_8 hl (by decide) rfl (fun ls hl => ?_)
    refine lv_aload_n hx hb dX4_rankBetween_10 rfl (lv_at hl 2 rfl) ?_
    refine va_get (D := dG) (ci := 4) (v := .int (nI n)) (C := RX4) (T := TX4) (N := 17) hx hb hts hiX4 hown hK.1 hP 0 rfl rfl 1 (by decide) hf39 (fun _ h9 => h9) rfl dX4_rankBetween_11 ?_
    refine lv_iconst (v := (nI 1)) hx hb dX4_rankBetween_14 (by decide) ?_
    refine x_subN (i := n) (j := 1) hx hb (by omega) dX4_rankBetween_15 ?_
    refine lv_istore (lv' := [(5, .int (nI (n - 1))), (4, .int (-1)), (3, .int (-1)), (0, .ref mo), (1, .int (nI u)), (2, .int (nI v))]) hx hb dX4_rankBetween_16 hl (by decide) rfl (fun ls hl => ?_)
    have hl : lv_has ls 8 [(5, .int (dI n)), (4, .int (-1)), (3, .int (-1)), (0, .ref mo), (1, .int (nI u)), (2, .int (nI v))] := by rw [show dI n = nI (n - 1) by rw [← dI_s, show n - 1 + 1 = n by omega]]; exact hl
    have loop : ∀ (QQ : State → Prop) (n1 : Nat) (j : Nat), j < n1 → j ≤ n → (∀ ls : Array Slot, lv_has ls 8 [(0, .ref mo), (1, .int (nI u)), (2, .int (nI v)), (3, .int (-1)), (4, .int (-1))] → W p l e ({ frames := 3, cells := 0, slots := 0, locals := 73 } : Room) s m ([.ref mo, .int (nI u), .int (nI v)] : List Value).toArray below meth c s.heap [] 0 0 QQ (F0 m 92 ls [])) → ∀ ls : Array Slot, lv_has ls 8 [(0, .ref mo), (1, .int (nI u)), (2, .int (nI v)), (3, .int (-1)), (4, .int (-1)), (5, .int (dI j))] → W p l e ({ frames := 3, cells := 0, slots := 0, locals := 73 } : Room) s m ([.ref mo, .int (nI u), .int (nI v)] : List Value).toArray below meth c s.heap [] 0 0 QQ (F0 m 18 ls []) := by
      intro QQ n1
      induction n1 with
      | zero => intro j h1 h2; exact absurd h1 (by omega)
      | succ n1 ih =>
        intro j h1 h2 kx ls hl
        refine lv_iload hx hb dX4_rankBetween_18 (lv_at hl 5 rfl) ?_
        rcases j with _ | k
        · skip
          refine lv_if_lt (tgt := 92) hx hb dX4_rankBetween_20 (by decide) (fun _ => ?_) (fun q => absurd (by decide) q)
          exact kx  ls (lv_sub hl [0, 1, 2, 3, 4] rfl)
        · skip
          rw [dI_s] at hl ⊢
          refine x_ifltN (tgt := 92) hx hb (by omega) dX4_rankBetween_20 (by decide) ?_
          refine lv_iload_n hx hb dX4_rankBetween_23 rfl (lv_at hl 3 rfl) ?_
          refine lv_iconst (v := (-1)) hx hb dX4_rankBetween_24 (by decide) ?_
          refine x_eqM_M (tgt := 92) hx hb dX4_rankBetween_25 (by decide) ?_
          exact kx  ls (lv_sub hl [0, 1, 2, 3, 4] rfl)
    refine loop _ 49 n (by omega) (by omega) (fun  ls hl => ?_) ls (lv_sub hl [3, 4, 5, 2, 1, 0] rfl)
    refine lv_iload hx hb dX4_rankBetween_92 (lv_at hl 4 rfl) ?_
    exact W.iret (v := (-1)) hx hb hr (fun t ht hW => ⟨_, rfl, rfl, ht⟩) (fun _ h => nomatch h) dX4_rankBetween_94
  · skip
    rw [show es L u v n = some (lsm L u v q) by unfold es; rw [hm]; rfl]
    show W _ _ _ _ _ _ _ _ _ _ _ _ _ _ _ (F0 m 6 ls [.int (nI (lsm L u v q))])
    have hq9 := lsm_lt hB u v q
    refine lv_istore_n (lv' := [(3, .int (nI (lsm L u v q))), (0, .ref mo), (1, .int (nI u)), (2, .int (nI v))]) hx hb dX4_rankBetween_6 rfl hl (by decide) rfl (fun ls hl => ?_)
    refine lv_iconst (v := (-1)) hx hb dX4_rankBetween_7 (by decide) ?_
    refine lv_istore (lv' := [(4, .int (-1)), (3, .int (nI (lsm L u v q))), (0, .ref mo), (1, .int (nI u)), (2, .int (nI v))]) hx hb dX4_rankBetween_8 hl (by decide) rfl (fun ls hl => ?_)
    refine lv_aload_n hx hb dX4_rankBetween_10 rfl (lv_at hl 2 rfl) ?_
    refine va_get (D := dG) (ci := 4) (v := .int (nI n)) (C := RX4) (T := TX4) (N := 17) hx hb hts hiX4 hown hK.1 hP 0 rfl rfl 1 (by decide) hf39 (fun _ h9 => h9) rfl dX4_rankBetween_11 ?_
    refine lv_iconst (v := (nI 1)) hx hb dX4_rankBetween_14 (by decide) ?_
    refine x_subN (i := n) (j := 1) hx hb (by omega) dX4_rankBetween_15 ?_
    refine lv_istore (lv' := [(5, .int (nI (n - 1))), (4, .int (-1)), (3, .int (nI (lsm L u v q))), (0, .ref mo), (1, .int (nI u)), (2, .int (nI v))]) hx hb dX4_rankBetween_16 hl (by decide) rfl (fun ls hl => ?_)
    have hl : lv_has ls 8 [(5, .int (dI n)), (4, .int (-1)), (3, .int (nI (lsm L u v q))), (0, .ref mo), (1, .int (nI u)), (2, .int (nI v))] := by rw [show dI n = nI (n - 1) by rw [← dI_s, show n - 1 + 1 = n by omega]]; exact hl
    have hl : lv_has ls 8 [(5, .int (dI n)), (4, .int (eN (fdn L u v (lsm L u v q) n n))), (3, .int (nI (lsm L u v q))), (0, .ref mo), (1, .int (nI u)), (2, .int (nI v))] := by rw [fdn_n]; exact hl
    have loop : ∀ (QQ : State → Prop) (n1 : Nat) (j : Nat), j < n1 → j ≤ n → (∀ ls : Array Slot, lv_has ls 8 [(0, .ref mo), (1, .int (nI u)), (2, .int (nI v)), (3, .int (nI (lsm L u v q))), (4, .int (eN (fdn L u v (lsm L u v q) n 0)))] → W p l e ({ frames := 3, cells := 0, slots := 0, locals := 73 } : Room) s m ([.ref mo, .int (nI u), .int (nI v)] : List Value).toArray below meth c s.heap [] 0 0 QQ (F0 m 92 ls [])) → ∀ ls : Array Slot, lv_has ls 8 [(0, .ref mo), (1, .int (nI u)), (2, .int (nI v)), (3, .int (nI (lsm L u v q))), (4, .int (eN (fdn L u v (lsm L u v q) n j))), (5, .int (dI j))] → W p l e ({ frames := 3, cells := 0, slots := 0, locals := 73 } : Room) s m ([.ref mo, .int (nI u), .int (nI v)] : List Value).toArray below meth c s.heap [] 0 0 QQ (F0 m 18 ls []) := by
      intro QQ n1
      induction n1 with
      | zero => intro j h1 h2; exact absurd h1 (by omega)
      | succ n1 ih =>
        intro j h1 h2 kx ls hl
        refine lv_iload hx hb dX4_rankBetween_18 (lv_at hl 5 rfl) ?_
        rcases j with _ | k
        · skip
          refine lv_if_lt (tgt := 92) hx hb dX4_rankBetween_20 (by decide) (fun _ => ?_) (fun q => absurd (by decide) q)
          exact kx  ls (lv_sub hl [0, 1, 2, 3, 4] rfl)
        · skip
          rw [dI_s] at hl ⊢
          refine x_ifltN (tgt := 92) hx hb (by omega) dX4_rankBetween_20 (by decide) ?_
          refine lv_iload_n hx hb dX4_rankBetween_23 rfl (lv_at hl 3 rfl) ?_
          refine lv_iconst (v := (-1)) hx hb dX4_rankBetween_24 (by decide) ?_
          refine x_eqM_N (tgt := 92) hx hb (by omega) dX4_rankBetween_25 (by decide) ?_
          refine lv_aload_n hx hb dX4_rankBetween_28 rfl (lv_at hl 0 rfl) ?_
          refine va_get (D := dG) (ci := 4) (v := .ref mD) (C := RX4) (T := TX4) (N := 17) hx hb hts hiX4 hown hK.1 hP 0 rfl rfl 4 (by decide) hf13 (fun _ h9 => h9) rfl dX4_rankBetween_29 ?_
          refine lv_iconst (v := (nI 0)) hx hb dX4_rankBetween_32 (by decide) ?_
          refine lv_iload_n hx hb dX4_rankBetween_33 rfl (lv_at hl 1 rfl) ?_
          refine lv_iload hx hb dX4_rankBetween_34 (lv_at hl 5 rfl) ?_
          have hPc : va_P dG vwCl [] s.heap := fun k q h => by simp at h
          refine x_ri (W.runS (As := [.int (nI 0), .int (nI u), .int (nI k)]) (rest := [.ref mD]) ⟨hx, hb, hml, hown, hts⟩ (m_at l dG cI cJ 0 u k) (va_cwS 3 hts gX4_rankBetween_X4_at rfl rfl rfl (by decide +kernel) ⟨Nat.le_of_ble_eq_true rfl, Nat.le_of_ble_eq_true rfl⟩) (RPc.preS hPc hK) rfl rfl hl.1 rfl (lv_room (Nat.le_of_ble_eq_true rfl)) dX4_rankBetween_36 ⟨Nat.zero_le _, Nat.zero_le _⟩) ?_
          refine x_iald (f := dis) hx hb hK hP 2 rfl (by omega) (by decide) dX4_rankBetween_39 ?_
          rw [show dis (2304 * 0 + 48 * u + k) = (eN (L u k)) from (hR u k hu (by omega)).1]
          refine lv_istore (lv' := [(6, .int (eN (L u k))), (0, .ref mo), (1, .int (nI u)), (2, .int (nI v)), (3, .int (nI (lsm L u v q))), (4, .int (eN (fdn L u v (lsm L u v q) n (k + 1)))), (5, .int (nI k))]) hx hb dX4_rankBetween_40 hl (by decide) rfl (fun ls hl => ?_)
          refine lv_aload_n hx hb dX4_rankBetween_42 rfl (lv_at hl 1 rfl) ?_
          refine va_get (D := dG) (ci := 4) (v := .ref mD) (C := RX4) (T := TX4) (N := 17) hx hb hts hiX4 hown hK.1 hP 0 rfl rfl 4 (by decide) hf13 (fun _ h9 => h9) rfl dX4_rankBetween_43 ?_
          refine lv_iconst (v := (nI 0)) hx hb dX4_rankBetween_46 (by decide) ?_
          refine lv_iload_n hx hb dX4_rankBetween_47 rfl (lv_at hl 3 rfl) ?_
          refine lv_iload hx hb dX4_rankBetween_48 (lv_at hl 6 rfl) ?_
          have hPc : va_P dG vwCl [] s.heap := fun k q h => by simp at h
          refine x_ri (W.runS (As := [.int (nI 0), .int (nI v), .int (nI k)]) (rest := [.ref mD]) ⟨hx, hb, hml, hown, hts⟩ (m_at l dG cI cJ 0 v k) (va_cwS 3 hts gX4_rankBetween_X4_at rfl rfl rfl (by decide +kernel) ⟨Nat.le_of_ble_eq_true rfl, Nat.le_of_ble_eq_true rfl⟩) (RPc.preS hPc hK) rfl rfl hl.1 rfl (lv_room (Nat.le_of_ble_eq_true rfl)) dX4_rankBetween_50 ⟨Nat.zero_le _, Nat.zero_le _⟩) ?_
          refine x_iald (f := dis) hx hb hK hP 2 rfl (by omega) (by decide) dX4_rankBetween_53 ?_
          rw [show dis (2304 * 0 + 48 * v + k) = (eN (L v k)) from (hR v k hv (by omega)).1]
          refine lv_istore (lv' := [(7, .int (eN (L v k))), (6, .int (eN (L u k))), (0, .ref mo), (1, .int (nI u)), (2, .int (nI v)), (3, .int (nI (lsm L u v q))), (4, .int (eN (fdn L u v (lsm L u v q) n (k + 1)))), (5, .int (nI k))]) hx hb dX4_rankBetween_54 hl (by decide) rfl (fun ls hl => ?_)
          rcases eu : L u k with _ | a
          · skip
            have hl : lv_has ls 8 [(7, .int (eN (L v k))), (6, .int (-1)), (0, .ref mo), (1, .int (nI u)), (2, .int (nI v)), (3, .int (nI (lsm L u v q))), (4, .int (eN (fdn L u v (lsm L u v q) n (k + 1)))), (5, .int (nI k))] := by rw [eu] at hl; exact hl
            rcases ev : L v k with _ | b
            · skip
              have hl : lv_has ls 8 [(7, .int (-1)), (6, .int (-1)), (0, .ref mo), (1, .int (nI u)), (2, .int (nI v)), (3, .int (nI (lsm L u v q))), (4, .int (eN (fdn L u v (lsm L u v q) n (k + 1)))), (5, .int (nI k))] := by rw [ev] at hl; exact hl
              refine lv_iload hx hb dX4_rankBetween_56 (lv_at hl 1 rfl) ?_
              refine lv_iconst (v := (-1)) hx hb dX4_rankBetween_58 (by decide) ?_
              refine x_eqM_M (tgt := 82) hx hb dX4_rankBetween_59 (by decide) ?_
              refine lv_iload hx hb dX4_rankBetween_82 (lv_at hl 6 rfl) ?_
              refine lv_istore (lv' := [(4, .int (eN (fdn L u v (lsm L u v q) n (k + 1)))), (7, .int (-1)), (6, .int (-1)), (0, .ref mo), (1, .int (nI u)), (2, .int (nI v)), (3, .int (nI (lsm L u v q))), (5, .int (nI k))]) hx hb dX4_rankBetween_84 hl (by decide) rfl (fun ls hl => ?_)
              refine lv_iinc (v := (dI k)) (lv' := [(5, .int (dI k)), (4, .int (eN (fdn L u v (lsm L u v q) n (k + 1)))), (7, .int (-1)), (6, .int (-1)), (0, .ref mo), (1, .int (nI u)), (2, .int (nI v)), (3, .int (nI (lsm L u v q)))]) hx hb dX4_rankBetween_86 hl (k := 7) rfl (dI_i k) (by decide) rfl (fun ls hl => ?_)
              refine lv_goto (tgt := 18) hx hb dX4_rankBetween_89 (by decide) ?_
              have hl : lv_has ls 8 [(5, .int (dI k)), (4, .int (eN (fdn L u v (lsm L u v q) n k))), (7, .int (-1)), (6, .int (-1)), (0, .ref mo), (1, .int (nI u)), (2, .int (nI v)), (3, .int (nI (lsm L u v q)))] := by rw [fdn_no h2 (by rw [eu]; rfl)]; exact hl
              exact ih k (by omega) (by omega) kx ls (lv_sub hl [4, 5, 6, 7, 1, 0] rfl)
            · skip
              have hl : lv_has ls 8 [(7, .int (nI b)), (6, .int (-1)), (0, .ref mo), (1, .int (nI u)), (2, .int (nI v)), (3, .int (nI (lsm L u v q))), (4, .int (eN (fdn L u v (lsm L u v q) n (k + 1)))), (5, .int (nI k))] := by rw [ev] at hl; exact hl
              refine lv_iload hx hb dX4_rankBetween_56 (lv_at hl 1 rfl) ?_
              refine lv_iconst (v := (-1)) hx hb dX4_rankBetween_58 (by decide) ?_
              refine x_eqM_M (tgt := 82) hx hb dX4_rankBetween_59 (by decide) ?_
              refine lv_iload hx hb dX4_rankBetween_82 (lv_at hl 6 rfl) ?_
              refine lv_istore (lv' := [(4, .int (eN (fdn L u v (lsm L u v q) n (k + 1)))), (7, .int (nI b)), (6, .int (-1)), (0, .ref mo), (1, .int (nI u)), (2, .int (nI v)), (3, .int (nI (lsm L u v q))), (5, .int (nI k))]) hx hb dX4_rankBetween_84 hl (by decide) rfl (fun ls hl => ?_)
              refine lv_iinc (v := (dI k)) (lv' := [(5, .int (dI k)), (4, .int (eN (fdn L u v (lsm L u v q) n (k + 1)))), (7, .int (nI b)), (6, .int (-1)), (0, .ref mo), (1, .int (nI u)), (2, .int (nI v)), (3, .int (nI (lsm L u v q)))]) hx hb dX4_rankBetween_86 hl (k := 7) rfl (dI_i k) (by decide) rfl (fun ls hl => ?_)
              refine lv_goto (tgt := 18) hx hb dX4_rankBetween_89 (by decide) ?_
              have hl : lv_has ls 8 [(5, .int (dI k)), (4, .int (eN (fdn L u v (lsm L u v q) n k))), (7, .int (nI b)), (6, .int (-1)), (0, .ref mo), (1, .int (nI u)), (2, .int (nI v)), (3, .int (nI (lsm L u v q)))] := by rw [fdn_no h2 (by rw [eu]; rfl)]; exact hl
              exact ih k (by omega) (by omega) kx ls (lv_sub hl [4, 5, 6, 7, 1, 0] rfl)
          · skip
            have hl : lv_has ls 8 [(7, .int (eN (L v k))), (6, .int (nI a)), (0, .ref mo), (1, .int (nI u)), (2, .int (nI v)), (3, .int (nI (lsm L u v q))), (4, .int (eN (fdn L u v (lsm L u v q) n (k + 1)))), (5, .int (nI k))] := by rw [eu] at hl; exact hl
            have ha9 := hB u k a eu
            rcases ev : L v k with _ | b
            · skip
              have hl : lv_has ls 8 [(7, .int (-1)), (6, .int (nI a)), (0, .ref mo), (1, .int (nI u)), (2, .int (nI v)), (3, .int (nI (lsm L u v q))), (4, .int (eN (fdn L u v (lsm L u v q) n (k + 1)))), (5, .int (nI k))] := by rw [ev] at hl; exact hl
              refine lv_iload hx hb dX4_rankBetween_56 (lv_at hl 1 rfl) ?_
              refine lv_iconst (v := (-1)) hx hb dX4_rankBetween_58 (by decide) ?_
              refine x_eqM_N (tgt := 82) hx hb (by omega) dX4_rankBetween_59 (by decide) ?_
              refine lv_iload hx hb dX4_rankBetween_62 (lv_at hl 0 rfl) ?_
              refine lv_iconst (v := (-1)) hx hb dX4_rankBetween_64 (by decide) ?_
              refine x_eqM_M (tgt := 82) hx hb dX4_rankBetween_65 (by decide) ?_
              refine lv_iload hx hb dX4_rankBetween_82 (lv_at hl 6 rfl) ?_
              refine lv_istore (lv' := [(4, .int (eN (fdn L u v (lsm L u v q) n (k + 1)))), (7, .int (-1)), (6, .int (nI a)), (0, .ref mo), (1, .int (nI u)), (2, .int (nI v)), (3, .int (nI (lsm L u v q))), (5, .int (nI k))]) hx hb dX4_rankBetween_84 hl (by decide) rfl (fun ls hl => ?_)
              refine lv_iinc (v := (dI k)) (lv' := [(5, .int (dI k)), (4, .int (eN (fdn L u v (lsm L u v q) n (k + 1)))), (7, .int (-1)), (6, .int (nI a)), (0, .ref mo), (1, .int (nI u)), (2, .int (nI v)), (3, .int (nI (lsm L u v q)))]) hx hb dX4_rankBetween_86 hl (k := 7) rfl (dI_i k) (by decide) rfl (fun ls hl => ?_)
              refine lv_goto (tgt := 18) hx hb dX4_rankBetween_89 (by decide) ?_
              have hl : lv_has ls 8 [(5, .int (dI k)), (4, .int (eN (fdn L u v (lsm L u v q) n k))), (7, .int (-1)), (6, .int (nI a)), (0, .ref mo), (1, .int (nI u)), (2, .int (nI v)), (3, .int (nI (lsm L u v q)))] := by rw [fdn_no h2 (by rw [eu, ev]; rfl)]; exact hl
              exact ih k (by omega) (by omega) kx ls (lv_sub hl [4, 5, 6, 7, 1, 0] rfl)
            · skip
              have hl : lv_has ls 8 [(7, .int (nI b)), (6, .int (nI a)), (0, .ref mo), (1, .int (nI u)), (2, .int (nI v)), (3, .int (nI (lsm L u v q))), (4, .int (eN (fdn L u v (lsm L u v q) n (k + 1)))), (5, .int (nI k))] := by rw [ev] at hl; exact hl
              have hb9 := hB v k b ev
              have el : lsm L u v k = a + b := by unfold lsm; rw [eu, ev]; rfl
              skip
              refine lv_iload hx hb dX4_rankBetween_56 (lv_at hl 1 rfl) ?_
              refine lv_iconst (v := (-1)) hx hb dX4_rankBetween_58 (by decide) ?_
              refine x_eqM_N (tgt := 82) hx hb (by omega) dX4_rankBetween_59 (by decide) ?_
              refine lv_iload hx hb dX4_rankBetween_62 (lv_at hl 0 rfl) ?_
              refine lv_iconst (v := (-1)) hx hb dX4_rankBetween_64 (by decide) ?_
              refine x_eqM_N (tgt := 82) hx hb (by omega) dX4_rankBetween_65 (by decide) ?_
              refine lv_iload hx hb dX4_rankBetween_68 (lv_at hl 1 rfl) ?_
              refine lv_iload hx hb dX4_rankBetween_70 (lv_at hl 0 rfl) ?_
              refine x_addN (i := a) (j := b) hx hb dX4_rankBetween_72 ?_
              refine lv_iload_n hx hb dX4_rankBetween_73 rfl (lv_at hl 5 rfl) ?_
              refine x_icmp_neN (i := (a + b)) (j := (lsm L u v q)) (tgt := 82) hx hb (by omega) (by omega) dX4_rankBetween_74 (by decide) (fun c74 => ?_) (fun c74 => ?_)
              · skip
                rw [← el] at c74
                refine lv_iload hx hb dX4_rankBetween_82 (lv_at hl 6 rfl) ?_
                refine lv_istore (lv' := [(4, .int (eN (fdn L u v (lsm L u v q) n (k + 1)))), (7, .int (nI b)), (6, .int (nI a)), (0, .ref mo), (1, .int (nI u)), (2, .int (nI v)), (3, .int (nI (lsm L u v q))), (5, .int (nI k))]) hx hb dX4_rankBetween_84 hl (by decide) rfl (fun ls hl => ?_)
                refine lv_iinc (v := (dI k)) (lv' := [(5, .int (dI k)), (4, .int (eN (fdn L u v (lsm L u v q) n (k + 1)))), (7, .int (nI b)), (6, .int (nI a)), (0, .ref mo), (1, .int (nI u)), (2, .int (nI v)), (3, .int (nI (lsm L u v q)))]) hx hb dX4_rankBetween_86 hl (k := 7) rfl (dI_i k) (by decide) rfl (fun ls hl => ?_)
                refine lv_goto (tgt := 18) hx hb dX4_rankBetween_89 (by decide) ?_
                have hl : lv_has ls 8 [(5, .int (dI k)), (4, .int (eN (fdn L u v (lsm L u v q) n k))), (7, .int (nI b)), (6, .int (nI a)), (0, .ref mo), (1, .int (nI u)), (2, .int (nI v)), (3, .int (nI (lsm L u v q)))] := by rw [fdn_ne h2 c74]; exact hl
                exact ih k (by omega) (by omega) kx ls (lv_sub hl [4, 5, 6, 7, 1, 0] rfl)
              · skip
                rw [← el] at c74
                refine lv_iload hx hb dX4_rankBetween_77 (lv_at hl 7 rfl) ?_
                refine lv_goto (tgt := 84) hx hb dX4_rankBetween_79 (by decide) ?_
                refine lv_istore (lv' := [(4, .int (nI k)), (7, .int (nI b)), (6, .int (nI a)), (0, .ref mo), (1, .int (nI u)), (2, .int (nI v)), (3, .int (nI (lsm L u v q))), (5, .int (nI k))]) hx hb dX4_rankBetween_84 hl (by decide) rfl (fun ls hl => ?_)
                refine lv_iinc (v := (dI k)) (lv' := [(5, .int (dI k)), (4, .int (nI k)), (7, .int (nI b)), (6, .int (nI a)), (0, .ref mo), (1, .int (nI u)), (2, .int (nI v)), (3, .int (nI (lsm L u v q)))]) hx hb dX4_rankBetween_86 hl (k := 7) rfl (dI_i k) (by decide) rfl (fun ls hl => ?_)
                refine lv_goto (tgt := 18) hx hb dX4_rankBetween_89 (by decide) ?_
                have hl : lv_has ls 8 [(5, .int (dI k)), (4, .int (eN (fdn L u v (lsm L u v q) n k))), (7, .int (nI b)), (6, .int (nI a)), (0, .ref mo), (1, .int (nI u)), (2, .int (nI v)), (3, .int (nI (lsm L u v q)))] := by rw [fdn_yes h2 (by rw [eu, ev]; rfl) c74]; exact hl
                exact ih k (by omega) (by omega) kx ls (lv_sub hl [4, 5, 6, 7, 1, 0] rfl)
    refine loop _ 49 n (by omega) (by omega) (fun  ls hl => ?_) ls (lv_sub hl [3, 4, 5, 2, 1, 0] rfl)
    refine lv_iload hx hb dX4_rankBetween_92 (lv_at hl 4 rfl) ?_
    exact W.iret (v := (eN (fdn L u v (lsm L u v q) n 0))) hx hb hr (fun t ht hW => ⟨_, rfl, (congrArg eN (fdn_mr hm)), ht⟩) (fun _ h => nomatch h) dX4_rankBetween_94

set_option maxHeartbeats 4000000 in
set_option maxRecDepth 100000 in
/-- reference: steps -/
theorem m_steps (l : Launch) (dG : va_G) (cI cJ : ClassId) (mo mN mD mP mH mR mQ mF mO : Nat) (near : Nat → Int64) (n ec : Nat) (bt : Bool) (dis par hubs rnks que far frm : Nat → Int32) (vi cu pu pn wn : Nat) (th : Int32) (L P : Nat → Nat → Option Nat) (hR : RepM 0 L P dis par) (r v h t : Nat) (hr0 : r < 48) (hv : v < 48) (ht : t < 48) (hC : Chain L P r h v t) (hh : h < 48) (eh : hubs r = nI h) : Met l yX4_steps wsX4_steps ({ frames := 1, cells := 0, slots := 0, locals := 22 } : Room) (RPc dG cI cJ [.ref mo, .int (nI v), .int (nI r)] (MW cI cJ mo mN mD mP mH mR mQ mF mO near (nI n) (nI ec) (bI bt) dis par hubs rnks que far frm (nI vi) (nI cu) (nI pu) (nI pn) (nI wn) th)) (vp_Si (fun r9 => r9 = (nI t))) 0 0 (fun _ => False) := by
  refine Met.ofW (cc := cX4_steps) (maxL := 5) (ret := (some .int)) (by decide) rfl ?_
  intro p e s m args below meth c s₁ B9 hml hv
  obtain ⟨rfl, hP, hK⟩ := hv
  have hx := B9.exec
  have hb := B9.bytes
  have hr := B9.returns
  have hts := atoms_spec (ws := wsX4_steps) B9.pre
  have hown : s.vm.findClass RX4 = some m.cls := findClass_of_methodNamed B9.named
  have hlocks := B9.notSynchronized
  have hl := lv_entry ([.ref mo, .int (nI v), .int (nI r)]) (n := 5) (Nat.le_of_ble_eq_true rfl)
  rw [lg_entry_eq]
  generalize (lg_sl ([.ref mo, .int (nI v), .int (nI r)]) ++ List.replicate (5 - (lg_sl ([.ref mo, .int (nI v), .int (nI r)])).length) Slot.unset).toArray = ls at hl ⊢
  have hl : lv_has ls 5 [(0, .ref mo), (1, .int (nI v)), (2, .int (nI r))] := hl
  have hiX4 : ∀ w ∈ wsX40, w ∈ wsX4_steps := by decide +kernel
  have hf17 := hts (.fieldLink RX4 17 "LandmarkLeaModel" "parents" "[I") (by decide +kernel)
  have hf20 := hts (.fieldLink RX4 20 "LandmarkLeaModel" "hubs" "[I") (by decide +kernel)
  refine lv_iconst (v := (nI 0)) hx hb dX4_steps_0 (by decide) ?_
  refine lv_istore_n (lv' := [(3, .int (nI 0)), (0, .ref mo), (1, .int (nI v)), (2, .int (nI r))]) hx hb dX4_steps_1 rfl hl (by decide) rfl (fun ls hl => ?_)
  refine lv_iload_n hx hb dX4_steps_2 rfl (lv_at hl 2 rfl) ?_
  refine lv_istore (lv' := [(4, .int (nI v)), (3, .int (nI 0)), (0, .ref mo), (1, .int (nI v)), (2, .int (nI r))]) hx hb dX4_steps_3 hl (by decide) rfl (fun ls hl => ?_)
  have loop : ∀ (QQ : State → Prop) (n1 : Nat) (k : Nat), t < k + n1 → k ≤ t → (∀ ls : Array Slot, lv_has ls 5 [(0, .ref mo), (1, .int (nI v)), (2, .int (nI r)), (3, .int (nI t)), (4, .int (nI (cl P r v t)))] → W p l e ({ frames := 1, cells := 0, slots := 0, locals := 22 } : Room) s m ([.ref mo, .int (nI v), .int (nI r)] : List Value).toArray below meth c s.heap [] 0 0 QQ (F0 m 36 ls [])) → ∀ ls : Array Slot, lv_has ls 5 [(0, .ref mo), (1, .int (nI v)), (2, .int (nI r)), (3, .int (nI k)), (4, .int (nI (cl P r v k)))] → W p l e ({ frames := 1, cells := 0, slots := 0, locals := 22 } : Room) s m ([.ref mo, .int (nI v), .int (nI r)] : List Value).toArray below meth c s.heap [] 0 0 QQ (F0 m 5 ls []) := by
    intro QQ n1
    induction n1 with
    | zero => intro k h1 h2; exact absurd h1 (by omega)
    | succ n1 ih =>
      intro k h1 h2 kx ls hl
      refine lv_iload hx hb dX4_steps_5 (lv_at hl 4 rfl) ?_
      refine lv_aload_n hx hb dX4_steps_7 rfl (lv_at hl 0 rfl) ?_
      refine va_get (D := dG) (ci := 4) (v := .ref mH) (C := RX4) (T := TX4) (N := 17) hx hb hts hiX4 hown hK.1 hP 0 rfl rfl 6 (by decide) hf20 (fun _ h9 => h9) rfl dX4_steps_8 ?_
      refine lv_iload_n hx hb dX4_steps_11 rfl (lv_at hl 2 rfl) ?_
      refine x_iald (f := hubs) hx hb hK hP 4 rfl (by omega) (by decide) dX4_steps_12 ?_
      rw [show hubs r = (nI h) from eh]
      refine x_icmp_eqN (i := (cl P r v k)) (j := h) (tgt := 36) hx hb (Nat.lt_trans (hC.lt hv hh h2) (by decide)) (by omega) dX4_steps_13 (by decide) (fun c13 => ?_) (fun c13 => ?_)
      · skip
        have ek : k = t := by
          rcases Nat.lt_or_ge k t with g | g
          · exact absurd c13 (hC.2 k g).1
          · omega
        subst ek
        exact kx  ls (lv_sub hl [0, 1, 2, 3, 4] rfl)
      · skip
        have hk : k < t := by
          rcases Nat.lt_or_ge k t with g | g
          · exact g
          · exact absurd (by rw [show k = t by omega]; exact hC.1) c13
        refine x_iincN (lv' := [(3, .int (nI (k + 1))), (0, .ref mo), (1, .int (nI v)), (2, .int (nI r)), (4, .int (nI (cl P r v k)))]) hx hb dX4_steps_16 hl (k := 3) rfl (by decide) rfl (fun ls hl => ?_)
        refine lv_aload_n hx hb dX4_steps_19 rfl (lv_at hl 1 rfl) ?_
        refine va_get (D := dG) (ci := 4) (v := .ref mP) (C := RX4) (T := TX4) (N := 17) hx hb hts hiX4 hown hK.1 hP 0 rfl rfl 5 (by decide) hf17 (fun _ h9 => h9) rfl dX4_steps_20 ?_
        refine lv_iconst (v := (nI 0)) hx hb dX4_steps_23 (by decide) ?_
        refine lv_iload hx hb dX4_steps_24 (lv_at hl 4 rfl) ?_
        refine lv_iload_n hx hb dX4_steps_26 rfl (lv_at hl 3 rfl) ?_
        have hPc : va_P dG vwCl [] s.heap := fun k q h => by simp at h
        refine x_ri (W.runS (As := [.int (nI 0), .int (nI (cl P r v k)), .int (nI r)]) (rest := [.ref mP]) ⟨hx, hb, hml, hown, hts⟩ (m_at l dG cI cJ 0 (cl P r v k) r) (va_cwS 3 hts gX4_steps_X4_at rfl rfl rfl (by decide +kernel) ⟨Nat.le_of_ble_eq_true rfl, Nat.le_of_ble_eq_true rfl⟩) (RPc.preS hPc hK) rfl rfl hl.1 rfl (lv_room (Nat.le_of_ble_eq_true rfl)) dX4_steps_27 ⟨Nat.zero_le _, Nat.zero_le _⟩) ?_
        refine x_iald (f := par) hx hb hK hP 3 rfl (by have := (hC.2 k hk).2.1; omega) (by decide) dX4_steps_30 ?_
        rw [show par (2304 * 0 + 48 * (cl P r v k) + r) = (nI (cl P r v (k + 1))) from (hR.p (hC.2 k hk).2.1 hr0 (hC.2 k hk).2.2.1).trans (by rw [hC.par hk]; rfl)]
        refine lv_istore (lv' := [(4, .int (nI (cl P r v (k + 1)))), (3, .int (nI (k + 1))), (0, .ref mo), (1, .int (nI v)), (2, .int (nI r))]) hx hb dX4_steps_31 hl (by decide) rfl (fun ls hl => ?_)
        refine lv_goto (tgt := 5) hx hb dX4_steps_33 (by decide) ?_
        exact ih (k + 1) (by omega) (by omega) kx ls (lv_sub hl [2, 3, 4, 1, 0] rfl)
  refine loop _ 49 0 (by omega) (by omega) (fun  ls hl => ?_) ls (lv_sub hl [2, 3, 4, 1, 0] rfl)
  refine lv_iload_n hx hb dX4_steps_36 rfl (lv_at hl 3 rfl) ?_
  exact W.iret (v := (nI t)) hx hb hr (fun t ht hW => ⟨_, rfl, rfl, ht⟩) (fun _ h => nomatch h) dX4_steps_37

set_option maxHeartbeats 4000000 in
set_option maxRecDepth 100000 in
/-- reference: stepped -/
theorem m_stepped (l : Launch) (dG : va_G) (cI cJ : ClassId) (mo mN mD mP mH mR mQ mF mO : Nat) (near : Nat → Int64) (n ec : Nat) (bt : Bool) (dis par hubs rnks que far frm : Nat → Int32) (vi cu pu pn wn : Nat) (th : Int32) (L P : Nat → Nat → Option Nat) (hR : RepM 0 L P dis par) (r v h t : Nat) (hr0 : r < 48) (hv : v < 48) (ht : t < 48) (hC : Chain L P r h v t) (nn : Nat) (hnn : nn ≤ t) : Met l yX4_stepped wsX4_stepped ({ frames := 1, cells := 0, slots := 0, locals := 22 } : Room) (RPc dG cI cJ [.ref mo, .int (nI v), .int (nI r), .int (nI nn)] (MW cI cJ mo mN mD mP mH mR mQ mF mO near (nI n) (nI ec) (bI bt) dis par hubs rnks que far frm (nI vi) (nI cu) (nI pu) (nI pn) (nI wn) th)) (vp_Si (fun r9 => r9 = (nI (cl P r v nn)))) 0 0 (fun _ => False) := by
  refine Met.ofW (cc := cX4_stepped) (maxL := 6) (ret := (some .int)) (by decide) rfl ?_
  intro p e s m args below meth c s₁ B9 hml hv
  obtain ⟨rfl, hP, hK⟩ := hv
  have hx := B9.exec
  have hb := B9.bytes
  have hr := B9.returns
  have hts := atoms_spec (ws := wsX4_stepped) B9.pre
  have hown : s.vm.findClass RX4 = some m.cls := findClass_of_methodNamed B9.named
  have hlocks := B9.notSynchronized
  have hl := lv_entry ([.ref mo, .int (nI v), .int (nI r), .int (nI nn)]) (n := 6) (Nat.le_of_ble_eq_true rfl)
  rw [lg_entry_eq]
  generalize (lg_sl ([.ref mo, .int (nI v), .int (nI r), .int (nI nn)]) ++ List.replicate (6 - (lg_sl ([.ref mo, .int (nI v), .int (nI r), .int (nI nn)])).length) Slot.unset).toArray = ls at hl ⊢
  have hl : lv_has ls 6 [(0, .ref mo), (1, .int (nI v)), (2, .int (nI r)), (3, .int (nI nn))] := hl
  have hiX4 : ∀ w ∈ wsX40, w ∈ wsX4_stepped := by decide +kernel
  have hf17 := hts (.fieldLink RX4 17 "LandmarkLeaModel" "parents" "[I") (by decide +kernel)
  refine lv_iload_n hx hb dX4_stepped_0 rfl (lv_at hl 1 rfl) ?_
  refine lv_istore (lv' := [(4, .int (nI v)), (0, .ref mo), (1, .int (nI v)), (2, .int (nI r)), (3, .int (nI nn))]) hx hb dX4_stepped_1 hl (by decide) rfl (fun ls hl => ?_)
  refine lv_iconst (v := (nI 0)) hx hb dX4_stepped_3 (by decide) ?_
  refine lv_istore (lv' := [(5, .int (nI 0)), (4, .int (nI v)), (0, .ref mo), (1, .int (nI v)), (2, .int (nI r)), (3, .int (nI nn))]) hx hb dX4_stepped_4 hl (by decide) rfl (fun ls hl => ?_)
  have loop : ∀ (QQ : State → Prop) (n1 : Nat) (k : Nat), nn < k + n1 → k ≤ nn → (∀ ls : Array Slot, lv_has ls 6 [(0, .ref mo), (1, .int (nI v)), (2, .int (nI r)), (3, .int (nI nn)), (4, .int (nI (cl P r v nn))), (5, .int (nI nn))] → W p l e ({ frames := 1, cells := 0, slots := 0, locals := 22 } : Room) s m ([.ref mo, .int (nI v), .int (nI r), .int (nI nn)] : List Value).toArray below meth c s.heap [] 0 0 QQ (F0 m 32 ls [])) → ∀ ls : Array Slot, lv_has ls 6 [(0, .ref mo), (1, .int (nI v)), (2, .int (nI r)), (3, .int (nI nn)), (4, .int (nI (cl P r v k))), (5, .int (nI k))] → W p l e ({ frames := 1, cells := 0, slots := 0, locals := 22 } : Room) s m ([.ref mo, .int (nI v), .int (nI r), .int (nI nn)] : List Value).toArray below meth c s.heap [] 0 0 QQ (F0 m 6 ls []) := by
    intro QQ n1
    induction n1 with
    | zero => intro k h1 h2; exact absurd h1 (by omega)
    | succ n1 ih =>
      intro k h1 h2 kx ls hl
      refine lv_iload hx hb dX4_stepped_6 (lv_at hl 5 rfl) ?_
      refine lv_iload_n hx hb dX4_stepped_8 rfl (lv_at hl 3 rfl) ?_
      refine x_icmp_geN (i := k) (j := nn) (tgt := 32) hx hb (by omega) (by omega) dX4_stepped_9 (by decide) (fun c9 => ?_) (fun c9 => ?_)
      · skip
        have ek : k = nn := by omega
        subst ek
        exact kx  ls (lv_sub hl [0, 1, 2, 3, 4, 5] rfl)
      · skip
        have hk : k < t := by omega
        refine lv_aload_n hx hb dX4_stepped_12 rfl (lv_at hl 0 rfl) ?_
        refine va_get (D := dG) (ci := 4) (v := .ref mP) (C := RX4) (T := TX4) (N := 17) hx hb hts hiX4 hown hK.1 hP 0 rfl rfl 5 (by decide) hf17 (fun _ h9 => h9) rfl dX4_stepped_13 ?_
        refine lv_iconst (v := (nI 0)) hx hb dX4_stepped_16 (by decide) ?_
        refine lv_iload hx hb dX4_stepped_17 (lv_at hl 4 rfl) ?_
        refine lv_iload_n hx hb dX4_stepped_19 rfl (lv_at hl 2 rfl) ?_
        have hPc : va_P dG vwCl [] s.heap := fun k q h => by simp at h
        refine x_ri (W.runS (As := [.int (nI 0), .int (nI (cl P r v k)), .int (nI r)]) (rest := [.ref mP]) ⟨hx, hb, hml, hown, hts⟩ (m_at l dG cI cJ 0 (cl P r v k) r) (va_cwS 3 hts gX4_stepped_X4_at rfl rfl rfl (by decide +kernel) ⟨Nat.le_of_ble_eq_true rfl, Nat.le_of_ble_eq_true rfl⟩) (RPc.preS hPc hK) rfl rfl hl.1 rfl (lv_room (Nat.le_of_ble_eq_true rfl)) dX4_stepped_20 ⟨Nat.zero_le _, Nat.zero_le _⟩) ?_
        refine x_iald (f := par) hx hb hK hP 3 rfl (by have := (hC.2 k hk).2.1; omega) (by decide) dX4_stepped_23 ?_
        rw [show par (2304 * 0 + 48 * (cl P r v k) + r) = (nI (cl P r v (k + 1))) from (hR.p (hC.2 k hk).2.1 hr0 (hC.2 k hk).2.2.1).trans (by rw [hC.par hk]; rfl)]
        refine lv_istore (lv' := [(4, .int (nI (cl P r v (k + 1)))), (0, .ref mo), (1, .int (nI v)), (2, .int (nI r)), (3, .int (nI nn)), (5, .int (nI k))]) hx hb dX4_stepped_24 hl (by decide) rfl (fun ls hl => ?_)
        refine x_iincN (lv' := [(5, .int (nI (k + 1))), (4, .int (nI (cl P r v (k + 1)))), (0, .ref mo), (1, .int (nI v)), (2, .int (nI r)), (3, .int (nI nn))]) hx hb dX4_stepped_26 hl (k := 5) rfl (by decide) rfl (fun ls hl => ?_)
        refine lv_goto (tgt := 6) hx hb dX4_stepped_29 (by decide) ?_
        exact ih (k + 1) (by omega) (by omega) kx ls (lv_sub hl [2, 3, 4, 5, 1, 0] rfl)
  refine loop _ 49 0 (by omega) (by omega) (fun  ls hl => ?_) ls (lv_sub hl [2, 3, 4, 5, 1, 0] rfl)
  refine lv_iload hx hb dX4_stepped_32 (lv_at hl 4 rfl) ?_
  exact W.iret (v := (nI (cl P r v nn))) hx hb hr (fun t ht hW => ⟨_, rfl, rfl, ht⟩) (fun _ h => nomatch h) dX4_stepped_34
