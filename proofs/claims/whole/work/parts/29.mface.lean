/-! the reference: its face, what changes it -/
theorem near_0 {near : Nat → Int64} {n k : Nat} (hz : ∀ v, n ≤ v → near v = 0) (hk : n ≤ k) : vp_updL near k 0 = near := by
  funext j
  unfold vp_updL
  by_cases h : j = k
  · rw [if_pos h, h, hz k hk]
  · rw [if_neg h]
def adL (L : Nat → Nat → Option Nat) (n : Nat) : Nat → Nat → Nat → Option Nat
  | 0 => L
  | k + 1 => up2 (adL L n k) (n + k) (n + k) (some 0)
def adP (P : Nat → Nat → Option Nat) (n : Nat) : Nat → Nat → Nat → Option Nat
  | 0 => P
  | k + 1 => up2 (adP P n k) (n + k) (n + k) none
def adH (f : Nat → Int32) (n : Nat) : Nat → Nat → Int32
  | 0 => f
  | k + 1 => upd (adH f n k) (n + k) (nI (n + k))
theorem adL_none {L : Nat → Nat → Option Nat} {n : Nat} (hL : ∀ v r, n ≤ v → L v r = none) : ∀ (k v r : Nat), n + k ≤ v → adL L n k v r = none
  | 0, v, r, h => hL v r h
  | k + 1, v, r, h => by
    show up2 (adL L n k) (n + k) (n + k) (some 0) v r = none
    rw [show up2 (adL L n k) (n + k) (n + k) (some 0) v r = adL L n k v r from if_neg (by omega)]
    exact adL_none hL k v r (by omega)
/-- the vertices below k whose estimate with u is at most d -/
def wi (L : Nat → Nat → Option Nat) (u n d : Nat) : Nat → Int64
  | 0 => 0
  | k + 1 => match es L u k n with
    | some q => if q ≤ d then wi L u n d k ||| ((1 : Int64) <<< ((nI k).toInt64 &&& 63)) else wi L u n d k
    | none => wi L u n d k
theorem or_0 (x : Int64) : x ||| 0 = x := gb_ext fun k _ => by rw [gb_or, gb_0, Bool.or_false]
theorem wi_no {L : Nat → Nat → Option Nat} {u n d k : Nat} (h : (es L u k n).isSome = false) : wi L u n d (k + 1) = wi L u n d k ||| 0 := by
  rw [or_0]
  show (match es L u k n with | some q => _ | none => _) = _
  cases e : es L u k n with
  | none => rfl
  | some q => rw [e] at h; cases h
theorem wi_yes {L : Nat → Nat → Option Nat} {u n d k q : Nat} (h : es L u k n = some q) (hq : q ≤ d) : wi L u n d (k + 1) = wi L u n d k ||| ((1 : Int64) <<< ((nI k).toInt64 &&& 63)) := by
  show (match es L u k n with | some q => _ | none => _) = _
  rw [h]; exact if_pos hq
theorem wi_far {L : Nat → Nat → Option Nat} {u n d k q : Nat} (h : es L u k n = some q) (hq : d < q) : wi L u n d (k + 1) = wi L u n d k ||| 0 := by
  rw [or_0]
  show (match es L u k n with | some q => _ | none => _) = _
  rw [h]; exact if_neg (by omega)
/-- the greatest estimate with a vertex below k -/
def ecc (L : Nat → Nat → Option Nat) (u n : Nat) : Nat → Nat
  | 0 => 0
  | k + 1 => match es L u k n with
    | some q => if ecc L u n k < q then q else ecc L u n k
    | none => ecc L u n k
theorem ecc_no {L : Nat → Nat → Option Nat} {u n k : Nat} (h : es L u k n = none) : ecc L u n (k + 1) = ecc L u n k := by
  show (match es L u k n with | some q => _ | none => _) = _
  rw [h]
theorem ecc_yes {L : Nat → Nat → Option Nat} {u n k q : Nat} (h : es L u k n = some q) (hq : ecc L u n k < q) : ecc L u n (k + 1) = q := by
  show (match es L u k n with | some q => _ | none => _) = _
  rw [h]; exact if_pos hq
theorem ecc_low {L : Nat → Nat → Option Nat} {u n k q : Nat} (h : es L u k n = some q) (hq : q ≤ ecc L u n k) : ecc L u n (k + 1) = ecc L u n k := by
  show (match es L u k n with | some q => _ | none => _) = _
  rw [h]; exact if_neg (by omega)
theorem ecc_lt {L : Nat → Nat → Option Nat} (hB : LBd L (2 ^ 30)) {u n : Nat} : ∀ k, ecc L u n k < 2 ^ 31
  | 0 => by show 0 < 2 ^ 31; decide
  | k + 1 => by
    have ih := ecc_lt hB (u := u) (n := n) k
    cases e : es L u k n with
    | none => rw [ecc_no e]; exact ih
    | some q =>
      rcases Nat.lt_or_ge (ecc L u n k) q with g | g
      · rw [ecc_yes e g]; exact es_lt hB e
      · rw [ecc_low e g]; exact ih
theorem m1_le (n : Nat) (h : n < 2 ^ 31) : (-1 : Int32) ≤ nI n := by
  rw [Int32.le_iff_toInt_le, nI_toInt h]
  exact Int.le_trans (by decide) (Int.natCast_nonneg n)
set_option maxHeartbeats 4000000 in
set_option maxRecDepth 100000 in
/-- reference: vertices -/
theorem m_vertices (l : Launch) (dG : va_G) (cI cJ : ClassId) (A : Nat → Prop) (mo mN mD mP mH mR mQ mF mO : Nat) (near : Nat → Int64) (n ec : Nat) (bt : Bool) (dis par hubs rnks que far frm : Nat → Int32) (vi cu pu pn wn : Nat) (th : Int32) (X : va_W) : Met l yX4_vertices wsX4_vertices ({ frames := 0, cells := 0, slots := 0, locals := 0 } : Room) (WPc dG cI cJ [.ref mo] (MW cI cJ mo mN mD mP mH mR mQ mF mO near (nI n) (nI ec) (bI bt) dis par hubs rnks que far frm (nI vi) (nI cu) (nI pu) (nI pn) (nI wn) th ++ X) A) (va_Qi (S := Unit) (fun r _ => r = nI n) (fun _ => WB dG A (MW cI cJ mo mN mD mP mH mR mQ mF mO near (nI n) (nI ec) (bI bt) dis par hubs rnks que far frm (nI vi) (nI cu) (nI pu) (nI pn) (nI wn) (nI 0) ++ X)) A) 0 0 A := by
  refine Met.ofW (cc := cX4_vertices) (maxL := 1) (ret := (some .int)) (by decide) rfl ?_
  intro p e s m args below meth c s₁ B9 hml hv
  obtain ⟨rfl, hP, hK, hD⟩ := hv
  have hx := B9.exec
  have hb := B9.bytes
  have hr := B9.returns
  have hts := atoms_spec (ws := wsX4_vertices) B9.pre
  have hown : s.vm.findClass RX4 = some m.cls := findClass_of_methodNamed B9.named
  have hlocks := B9.notSynchronized
  have hS : va_S A s.heap s.heap [] := va_S.rf
  have hl := lv_entry ([.ref mo]) (n := 1) (Nat.le_of_ble_eq_true rfl)
  rw [lg_entry_eq]
  generalize (lg_sl ([.ref mo]) ++ List.replicate (1 - (lg_sl ([.ref mo])).length) Slot.unset).toArray = ls at hl ⊢
  have hl : lv_has ls 1 [(0, .ref mo)] := hl
  have hiX4 : ∀ w ∈ wsX40, w ∈ wsX4_vertices := by decide +kernel
  have hf35 := hts (.fieldLink RX4 35 "LandmarkLeaModel" "thrown" "I") (by decide +kernel)
  have hf39 := hts (.fieldLink RX4 39 "LandmarkLeaModel" "many" "I") (by decide +kernel)
  refine lv_aload_n hx hb dX4_vertices_0 rfl (lv_at hl 0 rfl) ?_
  refine lv_iconst (v := (nI 0)) hx hb dX4_vertices_1 (by decide) ?_
  refine va_put (D := dG) (ci := 4) (v := .int (nI 0)) (ty := .int) (C := RX4) (T := TX4) (N := 17) hx hb hts hiX4 tyX4 tyX4_ok nmX4 hown hK.1 hP hD hS 0 rfl rfl 16 (by decide) hf35 (fun _ h9 => h9) rfl (by decide +kernel) rfl rfl (Nat.le_of_ble_eq_true rfl) dX4_vertices_2 (fun H locs hP hD hS => ?_)
  have hP : va_P dG vwCl (MW cI cJ mo mN mD mP mH mR mQ mF mO near (nI n) (nI ec) (bI bt) dis par hubs rnks que far frm (nI vi) (nI cu) (nI pu) (nI pn) (nI wn) (nI 0) ++ X) H := hP
  have hD : va_D A (MW cI cJ mo mN mD mP mH mR mQ mF mO near (nI n) (nI ec) (bI bt) dis par hubs rnks que far frm (nI vi) (nI cu) (nI pu) (nI pn) (nI wn) (nI 0) ++ X) := hD
  refine lv_aload_n hx hb dX4_vertices_5 rfl (lv_at hl 0 rfl) ?_
  refine va_get (D := dG) (ci := 4) (v := .int (nI n)) (C := RX4) (T := TX4) (N := 17) hx hb hts hiX4 hown hK.1 hP 0 rfl rfl 1 (by decide) hf39 (fun _ h9 => h9) rfl dX4_vertices_6 ?_
  exact W.iret (v := (nI n)) hx hb hr (fun t ht hW => ⟨⟨_, (), rfl, rfl, by rw [ht]; exact hP, hD⟩, hS.F ht⟩) hS.2.2 dX4_vertices_9

set_option maxHeartbeats 4000000 in
set_option maxRecDepth 100000 in
/-- reference: edges -/
theorem m_edges (l : Launch) (dG : va_G) (cI cJ : ClassId) (A : Nat → Prop) (mo mN mD mP mH mR mQ mF mO : Nat) (near : Nat → Int64) (n ec : Nat) (bt : Bool) (dis par hubs rnks que far frm : Nat → Int32) (vi cu pu pn wn : Nat) (th : Int32) (X : va_W) : Met l yX4_edges wsX4_edges ({ frames := 0, cells := 0, slots := 0, locals := 0 } : Room) (WPc dG cI cJ [.ref mo] (MW cI cJ mo mN mD mP mH mR mQ mF mO near (nI n) (nI ec) (bI bt) dis par hubs rnks que far frm (nI vi) (nI cu) (nI pu) (nI pn) (nI wn) th ++ X) A) (va_Qi (S := Unit) (fun r _ => r = nI ec) (fun _ => WB dG A (MW cI cJ mo mN mD mP mH mR mQ mF mO near (nI n) (nI ec) (bI bt) dis par hubs rnks que far frm (nI vi) (nI cu) (nI pu) (nI pn) (nI wn) (nI 0) ++ X)) A) 0 0 A := by
  refine Met.ofW (cc := cX4_edges) (maxL := 1) (ret := (some .int)) (by decide) rfl ?_
  intro p e s m args below meth c s₁ B9 hml hv
  obtain ⟨rfl, hP, hK, hD⟩ := hv
  have hx := B9.exec
  have hb := B9.bytes
  have hr := B9.returns
  have hts := atoms_spec (ws := wsX4_edges) B9.pre
  have hown : s.vm.findClass RX4 = some m.cls := findClass_of_methodNamed B9.named
  have hlocks := B9.notSynchronized
  have hS : va_S A s.heap s.heap [] := va_S.rf
  have hl := lv_entry ([.ref mo]) (n := 1) (Nat.le_of_ble_eq_true rfl)
  rw [lg_entry_eq]
  generalize (lg_sl ([.ref mo]) ++ List.replicate (1 - (lg_sl ([.ref mo])).length) Slot.unset).toArray = ls at hl ⊢
  have hl : lv_has ls 1 [(0, .ref mo)] := hl
  have hiX4 : ∀ w ∈ wsX40, w ∈ wsX4_edges := by decide +kernel
  have hf35 := hts (.fieldLink RX4 35 "LandmarkLeaModel" "thrown" "I") (by decide +kernel)
  have hf108 := hts (.fieldLink RX4 108 "LandmarkLeaModel" "edges" "I") (by decide +kernel)
  refine lv_aload_n hx hb dX4_edges_0 rfl (lv_at hl 0 rfl) ?_
  refine lv_iconst (v := (nI 0)) hx hb dX4_edges_1 (by decide) ?_
  refine va_put (D := dG) (ci := 4) (v := .int (nI 0)) (ty := .int) (C := RX4) (T := TX4) (N := 17) hx hb hts hiX4 tyX4 tyX4_ok nmX4 hown hK.1 hP hD hS 0 rfl rfl 16 (by decide) hf35 (fun _ h9 => h9) rfl (by decide +kernel) rfl rfl (Nat.le_of_ble_eq_true rfl) dX4_edges_2 (fun H locs hP hD hS => ?_)
  have hP : va_P dG vwCl (MW cI cJ mo mN mD mP mH mR mQ mF mO near (nI n) (nI ec) (bI bt) dis par hubs rnks que far frm (nI vi) (nI cu) (nI pu) (nI pn) (nI wn) (nI 0) ++ X) H := hP
  have hD : va_D A (MW cI cJ mo mN mD mP mH mR mQ mF mO near (nI n) (nI ec) (bI bt) dis par hubs rnks que far frm (nI vi) (nI cu) (nI pu) (nI pn) (nI wn) (nI 0) ++ X) := hD
  refine lv_aload_n hx hb dX4_edges_5 rfl (lv_at hl 0 rfl) ?_
  refine va_get (D := dG) (ci := 4) (v := .int (nI ec)) (C := RX4) (T := TX4) (N := 17) hx hb hts hiX4 hown hK.1 hP 0 rfl rfl 2 (by decide) hf108 (fun _ h9 => h9) rfl dX4_edges_6 ?_
  exact W.iret (v := (nI ec)) hx hb hr (fun t ht hW => ⟨⟨_, (), rfl, rfl, by rw [ht]; exact hP, hD⟩, hS.F ht⟩) hS.2.2 dX4_edges_9

set_option maxHeartbeats 4000000 in
set_option maxRecDepth 100000 in
/-- reference: isBuilt -/
theorem m_isBuilt (l : Launch) (dG : va_G) (cI cJ : ClassId) (A : Nat → Prop) (mo mN mD mP mH mR mQ mF mO : Nat) (near : Nat → Int64) (n ec : Nat) (bt : Bool) (dis par hubs rnks que far frm : Nat → Int32) (vi cu pu pn wn : Nat) (th : Int32) (X : va_W) : Met l yX4_isBuilt wsX4_isBuilt ({ frames := 0, cells := 0, slots := 0, locals := 0 } : Room) (WPc dG cI cJ [.ref mo] (MW cI cJ mo mN mD mP mH mR mQ mF mO near (nI n) (nI ec) (bI bt) dis par hubs rnks que far frm (nI vi) (nI cu) (nI pu) (nI pn) (nI wn) th ++ X) A) (va_Qi (S := Unit) (fun r _ => r = bI bt) (fun _ => WB dG A (MW cI cJ mo mN mD mP mH mR mQ mF mO near (nI n) (nI ec) (bI bt) dis par hubs rnks que far frm (nI vi) (nI cu) (nI pu) (nI pn) (nI wn) (nI 0) ++ X)) A) 0 0 A := by
  refine Met.ofW (cc := cX4_isBuilt) (maxL := 1) (ret := (some .boolean)) (by decide) rfl ?_
  intro p e s m args below meth c s₁ B9 hml hv
  obtain ⟨rfl, hP, hK, hD⟩ := hv
  have hx := B9.exec
  have hb := B9.bytes
  have hr := B9.returns
  have hts := atoms_spec (ws := wsX4_isBuilt) B9.pre
  have hown : s.vm.findClass RX4 = some m.cls := findClass_of_methodNamed B9.named
  have hlocks := B9.notSynchronized
  have hS : va_S A s.heap s.heap [] := va_S.rf
  have hl := lv_entry ([.ref mo]) (n := 1) (Nat.le_of_ble_eq_true rfl)
  rw [lg_entry_eq]
  generalize (lg_sl ([.ref mo]) ++ List.replicate (1 - (lg_sl ([.ref mo])).length) Slot.unset).toArray = ls at hl ⊢
  have hl : lv_has ls 1 [(0, .ref mo)] := hl
  have hiX4 : ∀ w ∈ wsX40, w ∈ wsX4_isBuilt := by decide +kernel
  have hf35 := hts (.fieldLink RX4 35 "LandmarkLeaModel" "thrown" "I") (by decide +kernel)
  have hf91 := hts (.fieldLink RX4 91 "LandmarkLeaModel" "isBuilt" "Z") (by decide +kernel)
  refine lv_aload_n hx hb dX4_isBuilt_0 rfl (lv_at hl 0 rfl) ?_
  refine lv_iconst (v := (nI 0)) hx hb dX4_isBuilt_1 (by decide) ?_
  refine va_put (D := dG) (ci := 4) (v := .int (nI 0)) (ty := .int) (C := RX4) (T := TX4) (N := 17) hx hb hts hiX4 tyX4 tyX4_ok nmX4 hown hK.1 hP hD hS 0 rfl rfl 16 (by decide) hf35 (fun _ h9 => h9) rfl (by decide +kernel) rfl rfl (Nat.le_of_ble_eq_true rfl) dX4_isBuilt_2 (fun H locs hP hD hS => ?_)
  have hP : va_P dG vwCl (MW cI cJ mo mN mD mP mH mR mQ mF mO near (nI n) (nI ec) (bI bt) dis par hubs rnks que far frm (nI vi) (nI cu) (nI pu) (nI pn) (nI wn) (nI 0) ++ X) H := hP
  have hD : va_D A (MW cI cJ mo mN mD mP mH mR mQ mF mO near (nI n) (nI ec) (bI bt) dis par hubs rnks que far frm (nI vi) (nI cu) (nI pu) (nI pn) (nI wn) (nI 0) ++ X) := hD
  refine lv_aload_n hx hb dX4_isBuilt_5 rfl (lv_at hl 0 rfl) ?_
  refine va_get (D := dG) (ci := 4) (v := .int (bI bt)) (C := RX4) (T := TX4) (N := 17) hx hb hts hiX4 hown hK.1 hP 0 rfl rfl 3 (by decide) hf91 (fun _ h9 => h9) rfl dX4_isBuilt_6 ?_
  exact W.zret (v := (bI bt)) (ty := .boolean) hx hb hr (bI_narrow _) (fun t ht hW => ⟨⟨_, (), rfl, rfl, by rw [ht]; exact hP, hD⟩, hS.F ht⟩) hS.2.2 dX4_isBuilt_9

set_option maxHeartbeats 4000000 in
set_option maxRecDepth 100000 in
/-- reference: pruned -/
theorem m_pruned (l : Launch) (dG : va_G) (cI cJ : ClassId) (A : Nat → Prop) (mo mN mD mP mH mR mQ mF mO : Nat) (near : Nat → Int64) (n ec : Nat) (bt : Bool) (dis par hubs rnks que far frm : Nat → Int32) (vi cu pu pn wn : Nat) (th : Int32) (X : va_W) : Met l yX4_pruned wsX4_pruned ({ frames := 0, cells := 0, slots := 0, locals := 0 } : Room) (WPc dG cI cJ [.ref mo] (MW cI cJ mo mN mD mP mH mR mQ mF mO near (nI n) (nI ec) (bI bt) dis par hubs rnks que far frm (nI vi) (nI cu) (nI pu) (nI pn) (nI wn) th ++ X) A) (va_Qi (S := Unit) (fun r _ => r = nI pn) (fun _ => WB dG A (MW cI cJ mo mN mD mP mH mR mQ mF mO near (nI n) (nI ec) (bI bt) dis par hubs rnks que far frm (nI vi) (nI cu) (nI pu) (nI pn) (nI wn) (nI 0) ++ X)) A) 0 0 A := by
  refine Met.ofW (cc := cX4_pruned) (maxL := 1) (ret := (some .int)) (by decide) rfl ?_
  intro p e s m args below meth c s₁ B9 hml hv
  obtain ⟨rfl, hP, hK, hD⟩ := hv
  have hx := B9.exec
  have hb := B9.bytes
  have hr := B9.returns
  have hts := atoms_spec (ws := wsX4_pruned) B9.pre
  have hown : s.vm.findClass RX4 = some m.cls := findClass_of_methodNamed B9.named
  have hlocks := B9.notSynchronized
  have hS : va_S A s.heap s.heap [] := va_S.rf
  have hl := lv_entry ([.ref mo]) (n := 1) (Nat.le_of_ble_eq_true rfl)
  rw [lg_entry_eq]
  generalize (lg_sl ([.ref mo]) ++ List.replicate (1 - (lg_sl ([.ref mo])).length) Slot.unset).toArray = ls at hl ⊢
  have hl : lv_has ls 1 [(0, .ref mo)] := hl
  have hiX4 : ∀ w ∈ wsX40, w ∈ wsX4_pruned := by decide +kernel
  have hf35 := hts (.fieldLink RX4 35 "LandmarkLeaModel" "thrown" "I") (by decide +kernel)
  have hf85 := hts (.fieldLink RX4 85 "LandmarkLeaModel" "pruned" "I") (by decide +kernel)
  refine lv_aload_n hx hb dX4_pruned_0 rfl (lv_at hl 0 rfl) ?_
  refine lv_iconst (v := (nI 0)) hx hb dX4_pruned_1 (by decide) ?_
  refine va_put (D := dG) (ci := 4) (v := .int (nI 0)) (ty := .int) (C := RX4) (T := TX4) (N := 17) hx hb hts hiX4 tyX4 tyX4_ok nmX4 hown hK.1 hP hD hS 0 rfl rfl 16 (by decide) hf35 (fun _ h9 => h9) rfl (by decide +kernel) rfl rfl (Nat.le_of_ble_eq_true rfl) dX4_pruned_2 (fun H locs hP hD hS => ?_)
  have hP : va_P dG vwCl (MW cI cJ mo mN mD mP mH mR mQ mF mO near (nI n) (nI ec) (bI bt) dis par hubs rnks que far frm (nI vi) (nI cu) (nI pu) (nI pn) (nI wn) (nI 0) ++ X) H := hP
  have hD : va_D A (MW cI cJ mo mN mD mP mH mR mQ mF mO near (nI n) (nI ec) (bI bt) dis par hubs rnks que far frm (nI vi) (nI cu) (nI pu) (nI pn) (nI wn) (nI 0) ++ X) := hD
  refine lv_aload_n hx hb dX4_pruned_5 rfl (lv_at hl 0 rfl) ?_
  refine va_get (D := dG) (ci := 4) (v := .int (nI pn)) (C := RX4) (T := TX4) (N := 17) hx hb hts hiX4 hown hK.1 hP 0 rfl rfl 14 (by decide) hf85 (fun _ h9 => h9) rfl dX4_pruned_6 ?_
  exact W.iret (v := (nI pn)) hx hb hr (fun t ht hW => ⟨⟨_, (), rfl, rfl, by rw [ht]; exact hP, hD⟩, hS.F ht⟩) hS.2.2 dX4_pruned_9

set_option maxHeartbeats 4000000 in
set_option maxRecDepth 100000 in
/-- reference: written -/
theorem m_written (l : Launch) (dG : va_G) (cI cJ : ClassId) (A : Nat → Prop) (mo mN mD mP mH mR mQ mF mO : Nat) (near : Nat → Int64) (n ec : Nat) (bt : Bool) (dis par hubs rnks que far frm : Nat → Int32) (vi cu pu pn wn : Nat) (th : Int32) (X : va_W) : Met l yX4_written wsX4_written ({ frames := 0, cells := 0, slots := 0, locals := 0 } : Room) (WPc dG cI cJ [.ref mo] (MW cI cJ mo mN mD mP mH mR mQ mF mO near (nI n) (nI ec) (bI bt) dis par hubs rnks que far frm (nI vi) (nI cu) (nI pu) (nI pn) (nI wn) th ++ X) A) (va_Qi (S := Unit) (fun r _ => r = nI wn) (fun _ => WB dG A (MW cI cJ mo mN mD mP mH mR mQ mF mO near (nI n) (nI ec) (bI bt) dis par hubs rnks que far frm (nI vi) (nI cu) (nI pu) (nI pn) (nI wn) (nI 0) ++ X)) A) 0 0 A := by
  refine Met.ofW (cc := cX4_written) (maxL := 1) (ret := (some .int)) (by decide) rfl ?_
  intro p e s m args below meth c s₁ B9 hml hv
  obtain ⟨rfl, hP, hK, hD⟩ := hv
  have hx := B9.exec
  have hb := B9.bytes
  have hr := B9.returns
  have hts := atoms_spec (ws := wsX4_written) B9.pre
  have hown : s.vm.findClass RX4 = some m.cls := findClass_of_methodNamed B9.named
  have hlocks := B9.notSynchronized
  have hS : va_S A s.heap s.heap [] := va_S.rf
  have hl := lv_entry ([.ref mo]) (n := 1) (Nat.le_of_ble_eq_true rfl)
  rw [lg_entry_eq]
  generalize (lg_sl ([.ref mo]) ++ List.replicate (1 - (lg_sl ([.ref mo])).length) Slot.unset).toArray = ls at hl ⊢
  have hl : lv_has ls 1 [(0, .ref mo)] := hl
  have hiX4 : ∀ w ∈ wsX40, w ∈ wsX4_written := by decide +kernel
  have hf35 := hts (.fieldLink RX4 35 "LandmarkLeaModel" "thrown" "I") (by decide +kernel)
  have hf88 := hts (.fieldLink RX4 88 "LandmarkLeaModel" "written" "I") (by decide +kernel)
  refine lv_aload_n hx hb dX4_written_0 rfl (lv_at hl 0 rfl) ?_
  refine lv_iconst (v := (nI 0)) hx hb dX4_written_1 (by decide) ?_
  refine va_put (D := dG) (ci := 4) (v := .int (nI 0)) (ty := .int) (C := RX4) (T := TX4) (N := 17) hx hb hts hiX4 tyX4 tyX4_ok nmX4 hown hK.1 hP hD hS 0 rfl rfl 16 (by decide) hf35 (fun _ h9 => h9) rfl (by decide +kernel) rfl rfl (Nat.le_of_ble_eq_true rfl) dX4_written_2 (fun H locs hP hD hS => ?_)
  have hP : va_P dG vwCl (MW cI cJ mo mN mD mP mH mR mQ mF mO near (nI n) (nI ec) (bI bt) dis par hubs rnks que far frm (nI vi) (nI cu) (nI pu) (nI pn) (nI wn) (nI 0) ++ X) H := hP
  have hD : va_D A (MW cI cJ mo mN mD mP mH mR mQ mF mO near (nI n) (nI ec) (bI bt) dis par hubs rnks que far frm (nI vi) (nI cu) (nI pu) (nI pn) (nI wn) (nI 0) ++ X) := hD
  refine lv_aload_n hx hb dX4_written_5 rfl (lv_at hl 0 rfl) ?_
  refine va_get (D := dG) (ci := 4) (v := .int (nI wn)) (C := RX4) (T := TX4) (N := 17) hx hb hts hiX4 hown hK.1 hP 0 rfl rfl 15 (by decide) hf88 (fun _ h9 => h9) rfl dX4_written_6 ?_
  exact W.iret (v := (nI wn)) hx hb hr (fun t ht hW => ⟨⟨_, (), rfl, rfl, by rw [ht]; exact hP, hD⟩, hS.F ht⟩) hS.2.2 dX4_written_9

set_option maxHeartbeats 4000000 in
set_option maxRecDepth 100000 in
/-- reference: neighbours -/
theorem m_neighboursX (l : Launch) (dG : va_G) (cI cJ : ClassId) (A : Nat → Prop) (mo mN mD mP mH mR mQ mF mO : Nat) (near : Nat → Int64) (n ec : Nat) (bt : Bool) (dis par hubs rnks que far frm : Nat → Int32) (vi cu pu pn wn : Nat) (th : Int32) (hn : n ≤ 48) (x : Int32) (hx9 : inV x n = false) (X : va_W) : Met l yX4_neighbours wsX4_neighbours ({ frames := 1, cells := 0, slots := 0, locals := 21 } : Room) (WPc dG cI cJ [.ref mo, .int x] (MW cI cJ mo mN mD mP mH mR mQ mF mO near (nI n) (nI ec) (bI bt) dis par hubs rnks que far frm (nI vi) (nI cu) (nI pu) (nI pn) (nI wn) th ++ X) A) (va_Ql (S := Unit) (fun r _ => r = 0) (fun _ => WB dG A (MW cI cJ mo mN mD mP mH mR mQ mF mO near (nI n) (nI ec) (bI bt) dis par hubs rnks que far frm (nI vi) (nI cu) (nI pu) (nI pn) (nI wn) (nI 1) ++ X)) A) 0 0 A := by
  refine Met.ofW (cc := cX4_neighbours) (maxL := 2) (ret := (some .long)) (by decide) rfl ?_
  intro p e s m args below meth c s₁ B9 hml hv
  obtain ⟨rfl, hP, hK, hD⟩ := hv
  have hx := B9.exec
  have hb := B9.bytes
  have hr := B9.returns
  have hts := atoms_spec (ws := wsX4_neighbours) B9.pre
  have hown : s.vm.findClass RX4 = some m.cls := findClass_of_methodNamed B9.named
  have hlocks := B9.notSynchronized
  have hS : va_S A s.heap s.heap [] := va_S.rf
  have hl := lv_entry ([.ref mo, .int x]) (n := 2) (Nat.le_of_ble_eq_true rfl)
  rw [lg_entry_eq]
  generalize (lg_sl ([.ref mo, .int x]) ++ List.replicate (2 - (lg_sl ([.ref mo, .int x])).length) Slot.unset).toArray = ls at hl ⊢
  have hl : lv_has ls 2 [(0, .ref mo), (1, .int x)] := hl
  have hiX4 : ∀ w ∈ wsX40, w ∈ wsX4_neighbours := by decide +kernel
  have hf7 := hts (.fieldLink RX4 7 "LandmarkLeaModel" "near" "[J") (by decide +kernel)
  refine lv_aload_n hx hb dX4_neighbours_0 rfl (lv_at hl 0 rfl) ?_
  refine lv_aload_n hx hb dX4_neighbours_1 rfl (lv_at hl 0 rfl) ?_
  refine lv_iload_n hx hb dX4_neighbours_2 rfl (lv_at hl 1 rfl) ?_
  have hPc := hP.sub (ws' := (MW cI cJ mo mN mD mP mH mR mQ mF mO near (nI n) (nI ec) (bI bt) dis par hubs rnks que far frm (nI vi) (nI cu) (nI pu) (nI pn) (nI wn) th)) [0, 1, 2, 3, 4, 5, 6, 7, 8] rfl
  refine x_ri (W.runV (As := [.int x]) (rest := [.ref mo]) ⟨hx, hb, hml, hown, hts⟩ (m_isVertex l dG cI cJ mo mN mD mP mH mR mQ mF mO near n ec bt dis par hubs rnks que far frm vi cu pu pn wn th (by omega) x) (cwV 1 hts gX4_neighbours_X4_isVertex rfl rfl rfl (by decide +kernel) ⟨Nat.le_of_ble_eq_true rfl, Nat.le_of_ble_eq_true rfl⟩) (RPc.pre hPc hK (va_recv hK.1 hPc (ci := 4) (q0 := 0) rfl rfl)) rfl rfl hl.1 rfl (lv_room (Nat.le_of_ble_eq_true rfl)) dX4_neighbours_3 ⟨Nat.zero_le _, Nat.zero_le _⟩) ?_
  refine x_ifeqB (tgt := 13) hx hb dX4_neighbours_6 (by decide) (fun c6 => ?_) (fun c6 => ?_)
  · skip
    refine lv_iconst (v := (nI 1)) hx hb dX4_neighbours_13 (by decide) ?_
    have hPc : va_P dG vwCl (MW cI cJ mo mN mD mP mH mR mQ mF mO near (nI n) (nI ec) (bI bt) dis par hubs rnks que far frm (nI vi) (nI cu) (nI pu) (nI pn) (nI wn) th ++ X) s.heap := hP
    have hDc : va_D A (MW cI cJ mo mN mD mP mH mR mQ mF mO near (nI n) (nI ec) (bI bt) dis par hubs rnks que far frm (nI vi) (nI cu) (nI pu) (nI pn) (nI wn) th ++ X) := hD
    refine va_calli (va_runV (As := [.int (nI 1)]) (rest := []) ⟨hx, hb, hml, hown, hts⟩ (m_goes l dG cI cJ A mo mN mD mP mH mR mQ mF mO near n ec bt dis par hubs rnks que far frm vi cu pu pn wn th 1 (by omega) _) (cwV 1 hts gX4_neighbours_X4_goes rfl rfl rfl (by decide +kernel) ⟨Nat.le_of_ble_eq_true rfl, Nat.le_of_ble_eq_true rfl⟩) (WPc.pre hPc hDc hK (va_recv hK.1 hPc (ci := 4) (q0 := 0) rfl rfl)) rfl rfl hl.1 rfl (lv_room (Nat.le_of_ble_eq_true rfl)) dX4_neighbours_14 ⟨Nat.zero_le _, Nat.zero_le _⟩) hS (fun q _ h => h) (fun q h => h) (fun r9 u9 t H locs ht hvm hw hB hz1 hk1 hS => ?_)
    obtain ⟨hP, hD⟩ := hB
    rw [ht] at hP
    have hP : va_P dG vwCl (MW cI cJ mo mN mD mP mH mR mQ mF mO near (nI n) (nI ec) (bI bt) dis par hubs rnks que far frm (nI vi) (nI cu) (nI pu) (nI pn) (nI wn) (nI 1) ++ X) H := hP
    have hD : va_D A (MW cI cJ mo mN mD mP mH mR mQ mF mO near (nI n) (nI ec) (bI bt) dis par hubs rnks que far frm (nI vi) (nI cu) (nI pu) (nI pn) (nI wn) (nI 1) ++ X) := hD
    rw [show r9 = bI false from hw]
    refine x_ifeqB (tgt := 29) hx hb dX4_neighbours_17 (by decide) (fun h9 => ?_) (fun h9 => absurd h9 (by decide))
    refine lv_lconst (v := 0) hx hb dX4_neighbours_29 rfl ?_
    exact W.lret (v := 0) hx hb hr (fun t ht hW => ⟨⟨_, (), rfl, rfl, by rw [ht]; exact hP, hD⟩, hS.F ht⟩) hS.2.2 dX4_neighbours_30
  · skip
    rw [hx9] at c6; cases c6

set_option maxHeartbeats 4000000 in
set_option maxRecDepth 100000 in
/-- reference: neighbours -/
theorem m_neighbours (l : Launch) (dG : va_G) (cI cJ : ClassId) (A : Nat → Prop) (mo mN mD mP mH mR mQ mF mO : Nat) (near : Nat → Int64) (n ec : Nat) (bt : Bool) (dis par hubs rnks que far frm : Nat → Int32) (vi cu pu pn wn : Nat) (th : Int32) (hn : n ≤ 48) (u : Nat) (hu : u < n) (X : va_W) : Met l yX4_neighbours wsX4_neighbours ({ frames := 1, cells := 0, slots := 0, locals := 21 } : Room) (WPc dG cI cJ [.ref mo, .int (nI u)] (MW cI cJ mo mN mD mP mH mR mQ mF mO near (nI n) (nI ec) (bI bt) dis par hubs rnks que far frm (nI vi) (nI cu) (nI pu) (nI pn) (nI wn) th ++ X) A) (va_Ql (S := Unit) (fun r _ => r = near u) (fun _ => WB dG A (MW cI cJ mo mN mD mP mH mR mQ mF mO near (nI n) (nI ec) (bI bt) dis par hubs rnks que far frm (nI vi) (nI cu) (nI pu) (nI pn) (nI wn) (nI 0) ++ X)) A) 0 0 A := by
  refine Met.ofW (cc := cX4_neighbours) (maxL := 2) (ret := (some .long)) (by decide) rfl ?_
  intro p e s m args below meth c s₁ B9 hml hv
  obtain ⟨rfl, hP, hK, hD⟩ := hv
  have hx := B9.exec
  have hb := B9.bytes
  have hr := B9.returns
  have hts := atoms_spec (ws := wsX4_neighbours) B9.pre
  have hown : s.vm.findClass RX4 = some m.cls := findClass_of_methodNamed B9.named
  have hlocks := B9.notSynchronized
  have hS : va_S A s.heap s.heap [] := va_S.rf
  have hl := lv_entry ([.ref mo, .int (nI u)]) (n := 2) (Nat.le_of_ble_eq_true rfl)
  rw [lg_entry_eq]
  generalize (lg_sl ([.ref mo, .int (nI u)]) ++ List.replicate (2 - (lg_sl ([.ref mo, .int (nI u)])).length) Slot.unset).toArray = ls at hl ⊢
  have hl : lv_has ls 2 [(0, .ref mo), (1, .int (nI u))] := hl
  have hiX4 : ∀ w ∈ wsX40, w ∈ wsX4_neighbours := by decide +kernel
  have hf7 := hts (.fieldLink RX4 7 "LandmarkLeaModel" "near" "[J") (by decide +kernel)
  refine lv_aload_n hx hb dX4_neighbours_0 rfl (lv_at hl 0 rfl) ?_
  refine lv_aload_n hx hb dX4_neighbours_1 rfl (lv_at hl 0 rfl) ?_
  refine lv_iload_n hx hb dX4_neighbours_2 rfl (lv_at hl 1 rfl) ?_
  have hPc := hP.sub (ws' := (MW cI cJ mo mN mD mP mH mR mQ mF mO near (nI n) (nI ec) (bI bt) dis par hubs rnks que far frm (nI vi) (nI cu) (nI pu) (nI pn) (nI wn) th)) [0, 1, 2, 3, 4, 5, 6, 7, 8] rfl
  refine x_ri (W.runV (As := [.int (nI u)]) (rest := [.ref mo]) ⟨hx, hb, hml, hown, hts⟩ (m_isVertex l dG cI cJ mo mN mD mP mH mR mQ mF mO near n ec bt dis par hubs rnks que far frm vi cu pu pn wn th (by omega) (nI u)) (cwV 1 hts gX4_neighbours_X4_isVertex rfl rfl rfl (by decide +kernel) ⟨Nat.le_of_ble_eq_true rfl, Nat.le_of_ble_eq_true rfl⟩) (RPc.pre hPc hK (va_recv hK.1 hPc (ci := 4) (q0 := 0) rfl rfl)) rfl rfl hl.1 rfl (lv_room (Nat.le_of_ble_eq_true rfl)) dX4_neighbours_3 ⟨Nat.zero_le _, Nat.zero_le _⟩) ?_
  refine x_ifeqB (tgt := 13) hx hb dX4_neighbours_6 (by decide) (fun c6 => ?_) (fun c6 => ?_)
  · skip
    rw [inV_nI (by omega), decide_eq_true hu] at c6; cases c6
  · skip
    refine lv_iconst (v := (nI 0)) hx hb dX4_neighbours_9 (by decide) ?_
    refine lv_goto (tgt := 14) hx hb dX4_neighbours_10 (by decide) ?_
    have hPc : va_P dG vwCl (MW cI cJ mo mN mD mP mH mR mQ mF mO near (nI n) (nI ec) (bI bt) dis par hubs rnks que far frm (nI vi) (nI cu) (nI pu) (nI pn) (nI wn) th ++ X) s.heap := hP
    have hDc : va_D A (MW cI cJ mo mN mD mP mH mR mQ mF mO near (nI n) (nI ec) (bI bt) dis par hubs rnks que far frm (nI vi) (nI cu) (nI pu) (nI pn) (nI wn) th ++ X) := hD
    refine va_calli (va_runV (As := [.int (nI 0)]) (rest := []) ⟨hx, hb, hml, hown, hts⟩ (m_goes l dG cI cJ A mo mN mD mP mH mR mQ mF mO near n ec bt dis par hubs rnks que far frm vi cu pu pn wn th 0 (by omega) _) (cwV 1 hts gX4_neighbours_X4_goes rfl rfl rfl (by decide +kernel) ⟨Nat.le_of_ble_eq_true rfl, Nat.le_of_ble_eq_true rfl⟩) (WPc.pre hPc hDc hK (va_recv hK.1 hPc (ci := 4) (q0 := 0) rfl rfl)) rfl rfl hl.1 rfl (lv_room (Nat.le_of_ble_eq_true rfl)) dX4_neighbours_14 ⟨Nat.zero_le _, Nat.zero_le _⟩) hS (fun q _ h => h) (fun q h => h) (fun r9 u9 t H locs ht hvm hw hB hz1 hk1 hS => ?_)
    obtain ⟨hP, hD⟩ := hB
    rw [ht] at hP
    have hP : va_P dG vwCl (MW cI cJ mo mN mD mP mH mR mQ mF mO near (nI n) (nI ec) (bI bt) dis par hubs rnks que far frm (nI vi) (nI cu) (nI pu) (nI pn) (nI wn) (nI 0) ++ X) H := hP
    have hD : va_D A (MW cI cJ mo mN mD mP mH mR mQ mF mO near (nI n) (nI ec) (bI bt) dis par hubs rnks que far frm (nI vi) (nI cu) (nI pu) (nI pn) (nI wn) (nI 0) ++ X) := hD
    rw [show r9 = bI true from hw]
    refine x_ifeqB (tgt := 29) hx hb dX4_neighbours_17 (by decide) (fun h9 => absurd h9 (by decide)) (fun h9 => ?_)
    refine lv_aload_n hx hb dX4_neighbours_20 rfl (lv_at hl 0 rfl) ?_
    refine va_get (D := dG) (ci := 4) (v := .ref mN) (C := RX4) (T := TX4) (N := 17) hx hb hts hiX4 hown hK.1 hP 0 rfl rfl 0 (by decide) hf7 (fun _ h9 => h9) rfl dX4_neighbours_21 ?_
    refine lv_iload_n hx hb dX4_neighbours_24 rfl (lv_at hl 1 rfl) ?_
    refine x_lald (f := near) hx hb hK hP 1 rfl (by omega) (by decide) dX4_neighbours_25 ?_
    refine lv_goto (tgt := 30) hx hb dX4_neighbours_26 (by decide) ?_
    exact W.lret (v := (near u)) hx hb hr (fun t ht hW => ⟨⟨_, (), rfl, rfl, by rw [ht]; exact hP, hD⟩, hS.F ht⟩) hS.2.2 dX4_neighbours_30

set_option maxHeartbeats 4000000 in
set_option maxRecDepth 100000 in
/-- reference: addVertex -/
theorem m_addVertexX (l : Launch) (dG : va_G) (cI cJ : ClassId) (A : Nat → Prop) (mo mN mD mP mH mR mQ mF mO : Nat) (near : Nat → Int64) (n ec : Nat) (bt : Bool) (dis par hubs rnks que far frm : Nat → Int32) (vi cu pu pn wn : Nat) (th : Int32) (hn : n = 48) (X : va_W) : Met l yX4_addVertex wsX4_addVertex ({ frames := 1, cells := 0, slots := 0, locals := 21 } : Room) (WPc dG cI cJ [.ref mo] (MW cI cJ mo mN mD mP mH mR mQ mF mO near (nI n) (nI ec) (bI bt) dis par hubs rnks que far frm (nI vi) (nI cu) (nI pu) (nI pn) (nI wn) th ++ X) A) (va_Qi (S := Unit) (fun r _ => r = nI 0) (fun _ => WB dG A (MW cI cJ mo mN mD mP mH mR mQ mF mO near (nI n) (nI ec) (bI bt) dis par hubs rnks que far frm (nI vi) (nI cu) (nI pu) (nI pn) (nI wn) (nI 1) ++ X)) A) 0 0 A := by
  refine Met.ofW (cc := cX4_addVertex) (maxL := 1) (ret := (some .int)) (by decide) rfl ?_
  intro p e s m args below meth c s₁ B9 hml hv
  obtain ⟨rfl, hP, hK, hD⟩ := hv
  have hx := B9.exec
  have hb := B9.bytes
  have hr := B9.returns
  have hts := atoms_spec (ws := wsX4_addVertex) B9.pre
  have hown : s.vm.findClass RX4 = some m.cls := findClass_of_methodNamed B9.named
  have hlocks := B9.notSynchronized
  have hS : va_S A s.heap s.heap [] := va_S.rf
  have hl := lv_entry ([.ref mo]) (n := 1) (Nat.le_of_ble_eq_true rfl)
  rw [lg_entry_eq]
  generalize (lg_sl ([.ref mo]) ++ List.replicate (1 - (lg_sl ([.ref mo])).length) Slot.unset).toArray = ls at hl ⊢
  have hl : lv_has ls 1 [(0, .ref mo)] := hl
  have hiX4 : ∀ w ∈ wsX40, w ∈ wsX4_addVertex := by decide +kernel
  have hf39 := hts (.fieldLink RX4 39 "LandmarkLeaModel" "many" "I") (by decide +kernel)
  refine lv_aload_n hx hb dX4_addVertex_0 rfl (lv_at hl 0 rfl) ?_
  refine lv_aload_n hx hb dX4_addVertex_1 rfl (lv_at hl 0 rfl) ?_
  refine va_get (D := dG) (ci := 4) (v := .int (nI n)) (C := RX4) (T := TX4) (N := 17) hx hb hts hiX4 hown hK.1 hP 0 rfl rfl 1 (by decide) hf39 (fun _ h9 => h9) rfl dX4_addVertex_2 ?_
  refine lv_bipush (v := (nI 48)) hx hb dX4_addVertex_5 (by decide) ?_
  refine x_icmp_neN (i := n) (j := 48) (tgt := 14) hx hb (by omega) (by omega) dX4_addVertex_7 (by decide) (fun c7 => ?_) (fun c7 => ?_)
  · skip
    exact absurd hn c7
  · skip
    refine lv_iconst (v := (nI 1)) hx hb dX4_addVertex_10 (by decide) ?_
    refine lv_goto (tgt := 15) hx hb dX4_addVertex_11 (by decide) ?_
    have hPc : va_P dG vwCl (MW cI cJ mo mN mD mP mH mR mQ mF mO near (nI n) (nI ec) (bI bt) dis par hubs rnks que far frm (nI vi) (nI cu) (nI pu) (nI pn) (nI wn) th ++ X) s.heap := hP
    have hDc : va_D A (MW cI cJ mo mN mD mP mH mR mQ mF mO near (nI n) (nI ec) (bI bt) dis par hubs rnks que far frm (nI vi) (nI cu) (nI pu) (nI pn) (nI wn) th ++ X) := hD
    refine va_calli (va_runV (As := [.int (nI 1)]) (rest := []) ⟨hx, hb, hml, hown, hts⟩ (m_goes l dG cI cJ A mo mN mD mP mH mR mQ mF mO near n ec bt dis par hubs rnks que far frm vi cu pu pn wn th 1 (by omega) _) (cwV 1 hts gX4_addVertex_X4_goes rfl rfl rfl (by decide +kernel) ⟨Nat.le_of_ble_eq_true rfl, Nat.le_of_ble_eq_true rfl⟩) (WPc.pre hPc hDc hK (va_recv hK.1 hPc (ci := 4) (q0 := 0) rfl rfl)) rfl rfl hl.1 rfl (lv_room (Nat.le_of_ble_eq_true rfl)) dX4_addVertex_15 ⟨Nat.zero_le _, Nat.zero_le _⟩) hS (fun q _ h => h) (fun q h => h) (fun r9 u9 t H locs ht hvm hw hB hz1 hk1 hS => ?_)
    obtain ⟨hP, hD⟩ := hB
    rw [ht] at hP
    have hP : va_P dG vwCl (MW cI cJ mo mN mD mP mH mR mQ mF mO near (nI n) (nI ec) (bI bt) dis par hubs rnks que far frm (nI vi) (nI cu) (nI pu) (nI pn) (nI wn) (nI 1) ++ X) H := hP
    have hD : va_D A (MW cI cJ mo mN mD mP mH mR mQ mF mO near (nI n) (nI ec) (bI bt) dis par hubs rnks que far frm (nI vi) (nI cu) (nI pu) (nI pn) (nI wn) (nI 1) ++ X) := hD
    rw [show r9 = bI false from hw]
    refine x_ifneB (tgt := 23) hx hb dX4_addVertex_18 (by decide) (fun h9 => absurd h9 (by decide)) (fun h9 => ?_)
    refine lv_iconst (v := (nI 0)) hx hb dX4_addVertex_21 (by decide) ?_
    exact W.iret (v := (nI 0)) hx hb hr (fun t ht hW => ⟨⟨_, (), rfl, rfl, by rw [ht]; exact hP, hD⟩, hS.F ht⟩) hS.2.2 dX4_addVertex_22

set_option maxHeartbeats 4000000 in
set_option maxRecDepth 100000 in
/-- reference: addVertex -/
theorem m_addVertexU (l : Launch) (dG : va_G) (cI cJ : ClassId) (A : Nat → Prop) (mo mN mD mP mH mR mQ mF mO : Nat) (near : Nat → Int64) (n ec : Nat) (bt : Bool) (dis par hubs rnks que far frm : Nat → Int32) (vi cu pu pn wn : Nat) (th : Int32) (hn : n < 48) (hbt : bt = false) (hz : ∀ v, n ≤ v → near v = 0) (X : va_W) : Met l yX4_addVertex wsX4_addVertex ({ frames := 1, cells := 0, slots := 0, locals := 21 } : Room) (WPc dG cI cJ [.ref mo] (MW cI cJ mo mN mD mP mH mR mQ mF mO near (nI n) (nI ec) (bI bt) dis par hubs rnks que far frm (nI vi) (nI cu) (nI pu) (nI pn) (nI wn) th ++ X) A) (va_Qi (S := Unit) (fun r _ => r = nI n) (fun _ => WB dG A (MW cI cJ mo mN mD mP mH mR mQ mF mO near (nI (n + 1)) (nI ec) (bI bt) dis par hubs rnks que far frm (nI vi) (nI cu) (nI pu) (nI pn) (nI wn) (nI 0) ++ X)) A) 0 0 A := by
  refine Met.ofW (cc := cX4_addVertex) (maxL := 1) (ret := (some .int)) (by decide) rfl ?_
  intro p e s m args below meth c s₁ B9 hml hv
  obtain ⟨rfl, hP, hK, hD⟩ := hv
  have hx := B9.exec
  have hb := B9.bytes
  have hr := B9.returns
  have hts := atoms_spec (ws := wsX4_addVertex) B9.pre
  have hown : s.vm.findClass RX4 = some m.cls := findClass_of_methodNamed B9.named
  have hlocks := B9.notSynchronized
  have hS : va_S A s.heap s.heap [] := va_S.rf
  have hl := lv_entry ([.ref mo]) (n := 1) (Nat.le_of_ble_eq_true rfl)
  rw [lg_entry_eq]
  generalize (lg_sl ([.ref mo]) ++ List.replicate (1 - (lg_sl ([.ref mo])).length) Slot.unset).toArray = ls at hl ⊢
  have hl : lv_has ls 1 [(0, .ref mo)] := hl
  have hiX4 : ∀ w ∈ wsX40, w ∈ wsX4_addVertex := by decide +kernel
  have hf39 := hts (.fieldLink RX4 39 "LandmarkLeaModel" "many" "I") (by decide +kernel)
  refine lv_aload_n hx hb dX4_addVertex_0 rfl (lv_at hl 0 rfl) ?_
  refine lv_aload_n hx hb dX4_addVertex_1 rfl (lv_at hl 0 rfl) ?_
  refine va_get (D := dG) (ci := 4) (v := .int (nI n)) (C := RX4) (T := TX4) (N := 17) hx hb hts hiX4 hown hK.1 hP 0 rfl rfl 1 (by decide) hf39 (fun _ h9 => h9) rfl dX4_addVertex_2 ?_
  refine lv_bipush (v := (nI 48)) hx hb dX4_addVertex_5 (by decide) ?_
  refine x_icmp_neN (i := n) (j := 48) (tgt := 14) hx hb (by omega) (by omega) dX4_addVertex_7 (by decide) (fun c7 => ?_) (fun c7 => ?_)
  · skip
    refine lv_iconst (v := (nI 0)) hx hb dX4_addVertex_14 (by decide) ?_
    have hPc : va_P dG vwCl (MW cI cJ mo mN mD mP mH mR mQ mF mO near (nI n) (nI ec) (bI bt) dis par hubs rnks que far frm (nI vi) (nI cu) (nI pu) (nI pn) (nI wn) th ++ X) s.heap := hP
    have hDc : va_D A (MW cI cJ mo mN mD mP mH mR mQ mF mO near (nI n) (nI ec) (bI bt) dis par hubs rnks que far frm (nI vi) (nI cu) (nI pu) (nI pn) (nI wn) th ++ X) := hD
    refine va_calli (va_runV (As := [.int (nI 0)]) (rest := []) ⟨hx, hb, hml, hown, hts⟩ (m_goes l dG cI cJ A mo mN mD mP mH mR mQ mF mO near n ec bt dis par hubs rnks que far frm vi cu pu pn wn th 0 (by omega) _) (cwV 1 hts gX4_addVertex_X4_goes rfl rfl rfl (by decide +kernel) ⟨Nat.le_of_ble_eq_true rfl, Nat.le_of_ble_eq_true rfl⟩) (WPc.pre hPc hDc hK (va_recv hK.1 hPc (ci := 4) (q0 := 0) rfl rfl)) rfl rfl hl.1 rfl (lv_room (Nat.le_of_ble_eq_true rfl)) dX4_addVertex_15 ⟨Nat.zero_le _, Nat.zero_le _⟩) hS (fun q _ h => h) (fun q h => h) (fun r9 u9 t H locs ht hvm hw hB hz1 hk1 hS => ?_)
    obtain ⟨hP, hD⟩ := hB
    rw [ht] at hP
    have hP : va_P dG vwCl (MW cI cJ mo mN mD mP mH mR mQ mF mO near (nI n) (nI ec) (bI bt) dis par hubs rnks que far frm (nI vi) (nI cu) (nI pu) (nI pn) (nI wn) (nI 0) ++ X) H := hP
    have hD : va_D A (MW cI cJ mo mN mD mP mH mR mQ mF mO near (nI n) (nI ec) (bI bt) dis par hubs rnks que far frm (nI vi) (nI cu) (nI pu) (nI pn) (nI wn) (nI 0) ++ X) := hD
    rw [show r9 = bI true from hw]
    refine x_ifneB (tgt := 23) hx hb dX4_addVertex_18 (by decide) (fun h9 => ?_) (fun h9 => absurd h9 (by decide))
    refine lv_aload_n hx hb dX4_addVertex_23 rfl (lv_at hl 0 rfl) ?_
    have hPc : va_P dG vwCl (MW cI cJ mo mN mD mP mH mR mQ mF mO near (nI n) (nI ec) (bI bt) dis par hubs rnks que far frm (nI vi) (nI cu) (nI pu) (nI pn) (nI wn) (nI 0) ++ X) H := hP
    have hDc : va_D A (MW cI cJ mo mN mD mP mH mR mQ mF mO near (nI n) (nI ec) (bI bt) dis par hubs rnks que far frm (nI vi) (nI cu) (nI pu) (nI pn) (nI wn) (nI 0) ++ X) := hD
    refine va_callv (va_runV (As := []) (rest := []) ⟨hx, hb, hml, hown, hts⟩ (m_addsU l dG cI cJ A mo mN mD mP mH mR mQ mF mO near n ec bt dis par hubs rnks que far frm vi cu pu pn wn (nI 0) hn hbt _) (cwV 0 hts gX4_addVertex_X4_adds rfl rfl rfl (by decide +kernel) ⟨Nat.le_of_ble_eq_true rfl, Nat.le_of_ble_eq_true rfl⟩) (WPc.pre hPc hDc hK (va_recv hK.1 hPc (ci := 4) (q0 := 0) rfl rfl)) rfl rfl hl.1 rfl (lv_room (Nat.le_of_ble_eq_true rfl)) dX4_addVertex_24 ⟨Nat.zero_le _, Nat.zero_le _⟩) hS (fun q _ h => h) (fun q h => h) (fun u9 t H locs ht hvm hw hB hz1 hk1 hS => ?_)
    obtain ⟨hP, hD⟩ := hB
    rw [ht] at hP
    have hP : va_P dG vwCl (MW cI cJ mo mN mD mP mH mR mQ mF mO (vp_updL near n 0) (nI (n + 1)) (nI ec) (bI bt) dis par hubs rnks que far frm (nI vi) (nI cu) (nI pu) (nI pn) (nI wn) (nI 0) ++ X) H := hP
    have hD : va_D A (MW cI cJ mo mN mD mP mH mR mQ mF mO (vp_updL near n 0) (nI (n + 1)) (nI ec) (bI bt) dis par hubs rnks que far frm (nI vi) (nI cu) (nI pu) (nI pn) (nI wn) (nI 0) ++ X) := hD
    rw [near_0 hz (Nat.le_refl n)] at hP hD
    refine lv_aload_n hx hb dX4_addVertex_27 rfl (lv_at hl 0 rfl) ?_
    refine va_get (D := dG) (ci := 4) (v := .int (nI (n + 1))) (C := RX4) (T := TX4) (N := 17) hx hb hts hiX4 hown hK.1 hP 0 rfl rfl 1 (by decide) hf39 (fun _ h9 => h9) rfl dX4_addVertex_28 ?_
    refine lv_iconst (v := (nI 1)) hx hb dX4_addVertex_31 (by decide) ?_
    refine x_subN (i := (n + 1)) (j := 1) hx hb (by omega) dX4_addVertex_32 ?_
    exact W.iret (v := (nI ((n + 1) - 1))) hx hb hr (fun t ht hW => ⟨⟨_, (), rfl, by rw [Nat.add_sub_cancel], by rw [ht]; exact hP, hD⟩, hS.F ht⟩) hS.2.2 dX4_addVertex_33
  · skip
    exact absurd c7 (by omega)

set_option maxHeartbeats 4000000 in
set_option maxRecDepth 100000 in
/-- reference: addVertex -/
theorem m_addVertexB (l : Launch) (dG : va_G) (cI cJ : ClassId) (A : Nat → Prop) (mo mN mD mP mH mR mQ mF mO : Nat) (near : Nat → Int64) (n ec : Nat) (bt : Bool) (dis par hubs rnks que far frm : Nat → Int32) (vi cu pu pn wn : Nat) (th : Int32) (hn : n < 48) (hbt : bt = true) (hz : ∀ v, n ≤ v → near v = 0) (L P : Nat → Nat → Option Nat) (hR : RepM 0 L P dis par) (hL : ∀ r, L n r = none) (X : va_W) : Met l yX4_addVertex wsX4_addVertex ({ frames := 2, cells := 0, slots := 0, locals := 43 } : Room) (WPc dG cI cJ [.ref mo] (MW cI cJ mo mN mD mP mH mR mQ mF mO near (nI n) (nI ec) (bI bt) dis par hubs rnks que far frm (nI vi) (nI cu) (nI pu) (nI pn) (nI wn) th ++ X) A) (va_Qi (S := (Nat → Int32) × (Nat → Int32)) (fun r u => r = nI n ∧ RepM 0 (up2 L n n (some 0)) (up2 P n n none) u.1 u.2) (fun u => WB dG A (MW cI cJ mo mN mD mP mH mR mQ mF mO near (nI (n + 1)) (nI ec) (bI bt) u.1 u.2 (upd hubs n (nI n)) (upd rnks n (nI n)) que far frm (nI vi) (nI cu) (nI pu) (nI pn) (nI wn) (nI 0) ++ X)) A) 0 0 A := by
  refine Met.ofW (cc := cX4_addVertex) (maxL := 1) (ret := (some .int)) (by decide) rfl ?_
  intro p e s m args below meth c s₁ B9 hml hv
  obtain ⟨rfl, hP, hK, hD⟩ := hv
  have hx := B9.exec
  have hb := B9.bytes
  have hr := B9.returns
  have hts := atoms_spec (ws := wsX4_addVertex) B9.pre
  have hown : s.vm.findClass RX4 = some m.cls := findClass_of_methodNamed B9.named
  have hlocks := B9.notSynchronized
  have hS : va_S A s.heap s.heap [] := va_S.rf
  have hl := lv_entry ([.ref mo]) (n := 1) (Nat.le_of_ble_eq_true rfl)
  rw [lg_entry_eq]
  generalize (lg_sl ([.ref mo]) ++ List.replicate (1 - (lg_sl ([.ref mo])).length) Slot.unset).toArray = ls at hl ⊢
  have hl : lv_has ls 1 [(0, .ref mo)] := hl
  have hiX4 : ∀ w ∈ wsX40, w ∈ wsX4_addVertex := by decide +kernel
  have hf39 := hts (.fieldLink RX4 39 "LandmarkLeaModel" "many" "I") (by decide +kernel)
  refine lv_aload_n hx hb dX4_addVertex_0 rfl (lv_at hl 0 rfl) ?_
  refine lv_aload_n hx hb dX4_addVertex_1 rfl (lv_at hl 0 rfl) ?_
  refine va_get (D := dG) (ci := 4) (v := .int (nI n)) (C := RX4) (T := TX4) (N := 17) hx hb hts hiX4 hown hK.1 hP 0 rfl rfl 1 (by decide) hf39 (fun _ h9 => h9) rfl dX4_addVertex_2 ?_
  refine lv_bipush (v := (nI 48)) hx hb dX4_addVertex_5 (by decide) ?_
  refine x_icmp_neN (i := n) (j := 48) (tgt := 14) hx hb (by omega) (by omega) dX4_addVertex_7 (by decide) (fun c7 => ?_) (fun c7 => ?_)
  · skip
    refine lv_iconst (v := (nI 0)) hx hb dX4_addVertex_14 (by decide) ?_
    have hPc : va_P dG vwCl (MW cI cJ mo mN mD mP mH mR mQ mF mO near (nI n) (nI ec) (bI bt) dis par hubs rnks que far frm (nI vi) (nI cu) (nI pu) (nI pn) (nI wn) th ++ X) s.heap := hP
    have hDc : va_D A (MW cI cJ mo mN mD mP mH mR mQ mF mO near (nI n) (nI ec) (bI bt) dis par hubs rnks que far frm (nI vi) (nI cu) (nI pu) (nI pn) (nI wn) th ++ X) := hD
    refine va_calli (va_runV (As := [.int (nI 0)]) (rest := []) ⟨hx, hb, hml, hown, hts⟩ (m_goes l dG cI cJ A mo mN mD mP mH mR mQ mF mO near n ec bt dis par hubs rnks que far frm vi cu pu pn wn th 0 (by omega) _) (cwV 1 hts gX4_addVertex_X4_goes rfl rfl rfl (by decide +kernel) ⟨Nat.le_of_ble_eq_true rfl, Nat.le_of_ble_eq_true rfl⟩) (WPc.pre hPc hDc hK (va_recv hK.1 hPc (ci := 4) (q0 := 0) rfl rfl)) rfl rfl hl.1 rfl (lv_room (Nat.le_of_ble_eq_true rfl)) dX4_addVertex_15 ⟨Nat.zero_le _, Nat.zero_le _⟩) hS (fun q _ h => h) (fun q h => h) (fun r9 u9 t H locs ht hvm hw hB hz1 hk1 hS => ?_)
    obtain ⟨hP, hD⟩ := hB
    rw [ht] at hP
    have hP : va_P dG vwCl (MW cI cJ mo mN mD mP mH mR mQ mF mO near (nI n) (nI ec) (bI bt) dis par hubs rnks que far frm (nI vi) (nI cu) (nI pu) (nI pn) (nI wn) (nI 0) ++ X) H := hP
    have hD : va_D A (MW cI cJ mo mN mD mP mH mR mQ mF mO near (nI n) (nI ec) (bI bt) dis par hubs rnks que far frm (nI vi) (nI cu) (nI pu) (nI pn) (nI wn) (nI 0) ++ X) := hD
    rw [show r9 = bI true from hw]
    refine x_ifneB (tgt := 23) hx hb dX4_addVertex_18 (by decide) (fun h9 => ?_) (fun h9 => absurd h9 (by decide))
    refine lv_aload_n hx hb dX4_addVertex_23 rfl (lv_at hl 0 rfl) ?_
    have hPc : va_P dG vwCl (MW cI cJ mo mN mD mP mH mR mQ mF mO near (nI n) (nI ec) (bI bt) dis par hubs rnks que far frm (nI vi) (nI cu) (nI pu) (nI pn) (nI wn) (nI 0) ++ X) H := hP
    have hDc : va_D A (MW cI cJ mo mN mD mP mH mR mQ mF mO near (nI n) (nI ec) (bI bt) dis par hubs rnks que far frm (nI vi) (nI cu) (nI pu) (nI pn) (nI wn) (nI 0) ++ X) := hD
    refine va_callv (va_runV (As := []) (rest := []) ⟨hx, hb, hml, hown, hts⟩ (m_addsB l dG cI cJ A mo mN mD mP mH mR mQ mF mO near n ec bt dis par hubs rnks que far frm vi cu pu pn wn (nI 0) hn hbt L P hR hL _) (cwV 0 hts gX4_addVertex_X4_adds rfl rfl rfl (by decide +kernel) ⟨Nat.le_of_ble_eq_true rfl, Nat.le_of_ble_eq_true rfl⟩) (WPc.pre hPc hDc hK (va_recv hK.1 hPc (ci := 4) (q0 := 0) rfl rfl)) rfl rfl hl.1 rfl (lv_room (Nat.le_of_ble_eq_true rfl)) dX4_addVertex_24 ⟨Nat.zero_le _, Nat.zero_le _⟩) hS (fun q _ h => h) (fun q h => h) (fun u t H locs ht hvm hw hB hz1 hk1 hS => ?_)
    obtain ⟨dis1, par1⟩ := u
    obtain ⟨hP, hD⟩ := hB
    rw [ht] at hP
    have hP : va_P dG vwCl (MW cI cJ mo mN mD mP mH mR mQ mF mO (vp_updL near n 0) (nI (n + 1)) (nI ec) (bI bt) dis1 par1 (upd hubs n (nI n)) (upd rnks n (nI n)) que far frm (nI vi) (nI cu) (nI pu) (nI pn) (nI wn) (nI 0) ++ X) H := hP
    have hD : va_D A (MW cI cJ mo mN mD mP mH mR mQ mF mO (vp_updL near n 0) (nI (n + 1)) (nI ec) (bI bt) dis1 par1 (upd hubs n (nI n)) (upd rnks n (nI n)) que far frm (nI vi) (nI cu) (nI pu) (nI pn) (nI wn) (nI 0) ++ X) := hD
    rw [near_0 hz (Nat.le_refl n)] at hP hD
    refine lv_aload_n hx hb dX4_addVertex_27 rfl (lv_at hl 0 rfl) ?_
    refine va_get (D := dG) (ci := 4) (v := .int (nI (n + 1))) (C := RX4) (T := TX4) (N := 17) hx hb hts hiX4 hown hK.1 hP 0 rfl rfl 1 (by decide) hf39 (fun _ h9 => h9) rfl dX4_addVertex_28 ?_
    refine lv_iconst (v := (nI 1)) hx hb dX4_addVertex_31 (by decide) ?_
    refine x_subN (i := (n + 1)) (j := 1) hx hb (by omega) dX4_addVertex_32 ?_
    exact W.iret (v := (nI ((n + 1) - 1))) hx hb hr (fun t ht hW => ⟨⟨_, (dis1, par1), rfl, ⟨by rw [Nat.add_sub_cancel], hw⟩, by rw [ht]; exact hP, hD⟩, hS.F ht⟩) hS.2.2 dX4_addVertex_33
  · skip
    exact absurd c7 (by omega)

set_option maxHeartbeats 4000000 in
set_option maxRecDepth 100000 in
/-- reference: addVertices -/
theorem m_addVerticesX (l : Launch) (dG : va_G) (cI cJ : ClassId) (A : Nat → Prop) (mo mN mD mP mH mR mQ mF mO : Nat) (near : Nat → Int64) (n ec : Nat) (bt : Bool) (dis par hubs rnks que far frm : Nat → Int32) (vi cu pu pn wn : Nat) (th : Int32) (hn : n ≤ 48) (x : Int32) (hx9 : x < nI 1 ∨ nI 48 < x) (X : va_W) : Met l yX4_addVertices wsX4_addVertices ({ frames := 1, cells := 0, slots := 0, locals := 21 } : Room) (WPc dG cI cJ [.ref mo, .int x] (MW cI cJ mo mN mD mP mH mR mQ mF mO near (nI n) (nI ec) (bI bt) dis par hubs rnks que far frm (nI vi) (nI cu) (nI pu) (nI pn) (nI wn) th ++ X) A) (va_Qi (S := Unit) (fun r _ => r = nI 0) (fun _ => WB dG A (MW cI cJ mo mN mD mP mH mR mQ mF mO near (nI n) (nI ec) (bI bt) dis par hubs rnks que far frm (nI vi) (nI cu) (nI pu) (nI pn) (nI wn) (nI 1) ++ X)) A) 0 0 A := by
  refine Met.ofW (cc := cX4_addVertices) (maxL := 3) (ret := (some .int)) (by decide) rfl ?_
  intro p e s m args below meth c s₁ B9 hml hv
  obtain ⟨rfl, hP, hK, hD⟩ := hv
  have hx := B9.exec
  have hb := B9.bytes
  have hr := B9.returns
  have hts := atoms_spec (ws := wsX4_addVertices) B9.pre
  have hown : s.vm.findClass RX4 = some m.cls := findClass_of_methodNamed B9.named
  have hlocks := B9.notSynchronized
  have hS : va_S A s.heap s.heap [] := va_S.rf
  have hl := lv_entry ([.ref mo, .int x]) (n := 3) (Nat.le_of_ble_eq_true rfl)
  rw [lg_entry_eq]
  generalize (lg_sl ([.ref mo, .int x]) ++ List.replicate (3 - (lg_sl ([.ref mo, .int x])).length) Slot.unset).toArray = ls at hl ⊢
  have hl : lv_has ls 3 [(0, .ref mo), (1, .int x)] := hl
  have hiX4 : ∀ w ∈ wsX40, w ∈ wsX4_addVertices := by decide +kernel
  have hf39 := hts (.fieldLink RX4 39 "LandmarkLeaModel" "many" "I") (by decide +kernel)
  refine lv_aload_n hx hb dX4_addVertices_0 rfl (lv_at hl 0 rfl) ?_
  refine lv_iload_n hx hb dX4_addVertices_1 rfl (lv_at hl 1 rfl) ?_
  refine lv_iconst (v := (nI 1)) hx hb dX4_addVertices_2 (by decide) ?_
  refine lv_icmp_lt (tgt := 12) hx hb dX4_addVertices_3 (by decide) (fun c3 => ?_) (fun c3 => ?_)
  · skip
    refine lv_iconst (v := (nI 1)) hx hb dX4_addVertices_12 (by decide) ?_
    refine lv_goto (tgt := 32) hx hb dX4_addVertices_13 (by decide) ?_
    have hPc : va_P dG vwCl (MW cI cJ mo mN mD mP mH mR mQ mF mO near (nI n) (nI ec) (bI bt) dis par hubs rnks que far frm (nI vi) (nI cu) (nI pu) (nI pn) (nI wn) th ++ X) s.heap := hP
    have hDc : va_D A (MW cI cJ mo mN mD mP mH mR mQ mF mO near (nI n) (nI ec) (bI bt) dis par hubs rnks que far frm (nI vi) (nI cu) (nI pu) (nI pn) (nI wn) th ++ X) := hD
    refine va_calli (va_runV (As := [.int (nI 1)]) (rest := []) ⟨hx, hb, hml, hown, hts⟩ (m_goes l dG cI cJ A mo mN mD mP mH mR mQ mF mO near n ec bt dis par hubs rnks que far frm vi cu pu pn wn th 1 (by omega) _) (cwV 1 hts gX4_addVertices_X4_goes rfl rfl rfl (by decide +kernel) ⟨Nat.le_of_ble_eq_true rfl, Nat.le_of_ble_eq_true rfl⟩) (WPc.pre hPc hDc hK (va_recv hK.1 hPc (ci := 4) (q0 := 0) rfl rfl)) rfl rfl hl.1 rfl (lv_room (Nat.le_of_ble_eq_true rfl)) dX4_addVertices_32 ⟨Nat.zero_le _, Nat.zero_le _⟩) hS (fun q _ h => h) (fun q h => h) (fun r9 u9 t H locs ht hvm hw hB hz1 hk1 hS => ?_)
    obtain ⟨hP, hD⟩ := hB
    rw [ht] at hP
    have hP : va_P dG vwCl (MW cI cJ mo mN mD mP mH mR mQ mF mO near (nI n) (nI ec) (bI bt) dis par hubs rnks que far frm (nI vi) (nI cu) (nI pu) (nI pn) (nI wn) (nI 1) ++ X) H := hP
    have hD : va_D A (MW cI cJ mo mN mD mP mH mR mQ mF mO near (nI n) (nI ec) (bI bt) dis par hubs rnks que far frm (nI vi) (nI cu) (nI pu) (nI pn) (nI wn) (nI 1) ++ X) := hD
    rw [show r9 = bI false from hw]
    refine x_ifneB (tgt := 40) hx hb dX4_addVertices_35 (by decide) (fun h9 => absurd h9 (by decide)) (fun h9 => ?_)
    refine lv_iconst (v := (nI 0)) hx hb dX4_addVertices_38 (by decide) ?_
    exact W.iret (v := (nI 0)) hx hb hr (fun t ht hW => ⟨⟨_, (), rfl, rfl, by rw [ht]; exact hP, hD⟩, hS.F ht⟩) hS.2.2 dX4_addVertices_39
  · skip
    refine lv_iload_n hx hb dX4_addVertices_6 rfl (lv_at hl 1 rfl) ?_
    refine lv_bipush (v := (nI 48)) hx hb dX4_addVertices_7 (by decide) ?_
    refine lv_icmp_le (tgt := 16) hx hb dX4_addVertices_9 (by decide) (fun c9 => ?_) (fun c9 => ?_)
    · skip
      exact absurd hx9 (fun q => q.elim c3 (fun z => absurd c9 (Int32.not_le.mpr z)))
    · skip
      refine lv_iconst (v := (nI 1)) hx hb dX4_addVertices_12 (by decide) ?_
      refine lv_goto (tgt := 32) hx hb dX4_addVertices_13 (by decide) ?_
      have hPc : va_P dG vwCl (MW cI cJ mo mN mD mP mH mR mQ mF mO near (nI n) (nI ec) (bI bt) dis par hubs rnks que far frm (nI vi) (nI cu) (nI pu) (nI pn) (nI wn) th ++ X) s.heap := hP
      have hDc : va_D A (MW cI cJ mo mN mD mP mH mR mQ mF mO near (nI n) (nI ec) (bI bt) dis par hubs rnks que far frm (nI vi) (nI cu) (nI pu) (nI pn) (nI wn) th ++ X) := hD
      refine va_calli (va_runV (As := [.int (nI 1)]) (rest := []) ⟨hx, hb, hml, hown, hts⟩ (m_goes l dG cI cJ A mo mN mD mP mH mR mQ mF mO near n ec bt dis par hubs rnks que far frm vi cu pu pn wn th 1 (by omega) _) (cwV 1 hts gX4_addVertices_X4_goes rfl rfl rfl (by decide +kernel) ⟨Nat.le_of_ble_eq_true rfl, Nat.le_of_ble_eq_true rfl⟩) (WPc.pre hPc hDc hK (va_recv hK.1 hPc (ci := 4) (q0 := 0) rfl rfl)) rfl rfl hl.1 rfl (lv_room (Nat.le_of_ble_eq_true rfl)) dX4_addVertices_32 ⟨Nat.zero_le _, Nat.zero_le _⟩) hS (fun q _ h => h) (fun q h => h) (fun r9 u9 t H locs ht hvm hw hB hz1 hk1 hS => ?_)
      obtain ⟨hP, hD⟩ := hB
      rw [ht] at hP
      have hP : va_P dG vwCl (MW cI cJ mo mN mD mP mH mR mQ mF mO near (nI n) (nI ec) (bI bt) dis par hubs rnks que far frm (nI vi) (nI cu) (nI pu) (nI pn) (nI wn) (nI 1) ++ X) H := hP
      have hD : va_D A (MW cI cJ mo mN mD mP mH mR mQ mF mO near (nI n) (nI ec) (bI bt) dis par hubs rnks que far frm (nI vi) (nI cu) (nI pu) (nI pn) (nI wn) (nI 1) ++ X) := hD
      rw [show r9 = bI false from hw]
      refine x_ifneB (tgt := 40) hx hb dX4_addVertices_35 (by decide) (fun h9 => absurd h9 (by decide)) (fun h9 => ?_)
      refine lv_iconst (v := (nI 0)) hx hb dX4_addVertices_38 (by decide) ?_
      exact W.iret (v := (nI 0)) hx hb hr (fun t ht hW => ⟨⟨_, (), rfl, rfl, by rw [ht]; exact hP, hD⟩, hS.F ht⟩) hS.2.2 dX4_addVertices_39

set_option maxHeartbeats 4000000 in
set_option maxRecDepth 100000 in
/-- reference: addVertices -/
theorem m_addVertices2 (l : Launch) (dG : va_G) (cI cJ : ClassId) (A : Nat → Prop) (mo mN mD mP mH mR mQ mF mO : Nat) (near : Nat → Int64) (n ec : Nat) (bt : Bool) (dis par hubs rnks que far frm : Nat → Int32) (vi cu pu pn wn : Nat) (th : Int32) (hn : n ≤ 48) (c0 : Nat) (hc1 : 1 ≤ c0) (hc2 : c0 ≤ 48) (hc3 : 48 < n + c0) (X : va_W) : Met l yX4_addVertices wsX4_addVertices ({ frames := 1, cells := 0, slots := 0, locals := 21 } : Room) (WPc dG cI cJ [.ref mo, .int (nI c0)] (MW cI cJ mo mN mD mP mH mR mQ mF mO near (nI n) (nI ec) (bI bt) dis par hubs rnks que far frm (nI vi) (nI cu) (nI pu) (nI pn) (nI wn) th ++ X) A) (va_Qi (S := Unit) (fun r _ => r = nI 0) (fun _ => WB dG A (MW cI cJ mo mN mD mP mH mR mQ mF mO near (nI n) (nI ec) (bI bt) dis par hubs rnks que far frm (nI vi) (nI cu) (nI pu) (nI pn) (nI wn) (nI 2) ++ X)) A) 0 0 A := by
  refine Met.ofW (cc := cX4_addVertices) (maxL := 3) (ret := (some .int)) (by decide) rfl ?_
  intro p e s m args below meth c s₁ B9 hml hv
  obtain ⟨rfl, hP, hK, hD⟩ := hv
  have hx := B9.exec
  have hb := B9.bytes
  have hr := B9.returns
  have hts := atoms_spec (ws := wsX4_addVertices) B9.pre
  have hown : s.vm.findClass RX4 = some m.cls := findClass_of_methodNamed B9.named
  have hlocks := B9.notSynchronized
  have hS : va_S A s.heap s.heap [] := va_S.rf
  have hl := lv_entry ([.ref mo, .int (nI c0)]) (n := 3) (Nat.le_of_ble_eq_true rfl)
  rw [lg_entry_eq]
  generalize (lg_sl ([.ref mo, .int (nI c0)]) ++ List.replicate (3 - (lg_sl ([.ref mo, .int (nI c0)])).length) Slot.unset).toArray = ls at hl ⊢
  have hl : lv_has ls 3 [(0, .ref mo), (1, .int (nI c0))] := hl
  have hiX4 : ∀ w ∈ wsX40, w ∈ wsX4_addVertices := by decide +kernel
  have hf39 := hts (.fieldLink RX4 39 "LandmarkLeaModel" "many" "I") (by decide +kernel)
  refine lv_aload_n hx hb dX4_addVertices_0 rfl (lv_at hl 0 rfl) ?_
  refine lv_iload_n hx hb dX4_addVertices_1 rfl (lv_at hl 1 rfl) ?_
  refine lv_iconst (v := (nI 1)) hx hb dX4_addVertices_2 (by decide) ?_
  refine x_icmp_ltN (i := c0) (j := 1) (tgt := 12) hx hb (by omega) (by omega) dX4_addVertices_3 (by decide) (fun c3 => ?_) (fun c3 => ?_)
  · skip
    exact absurd c3 (by omega)
  · skip
    refine lv_iload_n hx hb dX4_addVertices_6 rfl (lv_at hl 1 rfl) ?_
    refine lv_bipush (v := (nI 48)) hx hb dX4_addVertices_7 (by decide) ?_
    refine x_icmp_leN (i := c0) (j := 48) (tgt := 16) hx hb (by omega) (by omega) dX4_addVertices_9 (by decide) (fun c9 => ?_) (fun c9 => ?_)
    · skip
      refine lv_iload_n hx hb dX4_addVertices_16 rfl (lv_at hl 1 rfl) ?_
      refine lv_bipush (v := (nI 48)) hx hb dX4_addVertices_17 (by decide) ?_
      refine lv_aload_n hx hb dX4_addVertices_19 rfl (lv_at hl 0 rfl) ?_
      refine va_get (D := dG) (ci := 4) (v := .int (nI n)) (C := RX4) (T := TX4) (N := 17) hx hb hts hiX4 hown hK.1 hP 0 rfl rfl 1 (by decide) hf39 (fun _ h9 => h9) rfl dX4_addVertices_20 ?_
      refine x_subN (i := 48) (j := n) hx hb (by omega) dX4_addVertices_23 ?_
      refine x_icmp_leN (i := c0) (j := (48 - n)) (tgt := 31) hx hb (by omega) (by omega) dX4_addVertices_24 (by decide) (fun c24 => ?_) (fun c24 => ?_)
      · skip
        exact absurd c24 (by omega)
      · skip
        refine lv_iconst (v := (nI 2)) hx hb dX4_addVertices_27 (by decide) ?_
        refine lv_goto (tgt := 32) hx hb dX4_addVertices_28 (by decide) ?_
        have hPc : va_P dG vwCl (MW cI cJ mo mN mD mP mH mR mQ mF mO near (nI n) (nI ec) (bI bt) dis par hubs rnks que far frm (nI vi) (nI cu) (nI pu) (nI pn) (nI wn) th ++ X) s.heap := hP
        have hDc : va_D A (MW cI cJ mo mN mD mP mH mR mQ mF mO near (nI n) (nI ec) (bI bt) dis par hubs rnks que far frm (nI vi) (nI cu) (nI pu) (nI pn) (nI wn) th ++ X) := hD
        refine va_calli (va_runV (As := [.int (nI 2)]) (rest := []) ⟨hx, hb, hml, hown, hts⟩ (m_goes l dG cI cJ A mo mN mD mP mH mR mQ mF mO near n ec bt dis par hubs rnks que far frm vi cu pu pn wn th 2 (by omega) _) (cwV 1 hts gX4_addVertices_X4_goes rfl rfl rfl (by decide +kernel) ⟨Nat.le_of_ble_eq_true rfl, Nat.le_of_ble_eq_true rfl⟩) (WPc.pre hPc hDc hK (va_recv hK.1 hPc (ci := 4) (q0 := 0) rfl rfl)) rfl rfl hl.1 rfl (lv_room (Nat.le_of_ble_eq_true rfl)) dX4_addVertices_32 ⟨Nat.zero_le _, Nat.zero_le _⟩) hS (fun q _ h => h) (fun q h => h) (fun r9 u9 t H locs ht hvm hw hB hz1 hk1 hS => ?_)
        obtain ⟨hP, hD⟩ := hB
        rw [ht] at hP
        have hP : va_P dG vwCl (MW cI cJ mo mN mD mP mH mR mQ mF mO near (nI n) (nI ec) (bI bt) dis par hubs rnks que far frm (nI vi) (nI cu) (nI pu) (nI pn) (nI wn) (nI 2) ++ X) H := hP
        have hD : va_D A (MW cI cJ mo mN mD mP mH mR mQ mF mO near (nI n) (nI ec) (bI bt) dis par hubs rnks que far frm (nI vi) (nI cu) (nI pu) (nI pn) (nI wn) (nI 2) ++ X) := hD
        rw [show r9 = bI false from hw]
        refine x_ifneB (tgt := 40) hx hb dX4_addVertices_35 (by decide) (fun h9 => absurd h9 (by decide)) (fun h9 => ?_)
        refine lv_iconst (v := (nI 0)) hx hb dX4_addVertices_38 (by decide) ?_
        exact W.iret (v := (nI 0)) hx hb hr (fun t ht hW => ⟨⟨_, (), rfl, rfl, by rw [ht]; exact hP, hD⟩, hS.F ht⟩) hS.2.2 dX4_addVertices_39
    · skip
      exact absurd c9 (by omega)

set_option maxHeartbeats 4000000 in
set_option maxRecDepth 100000 in
/-- reference: addVertices -/
theorem m_addVerticesU (l : Launch) (dG : va_G) (cI cJ : ClassId) (A : Nat → Prop) (mo mN mD mP mH mR mQ mF mO : Nat) (near : Nat → Int64) (n ec : Nat) (bt : Bool) (dis par hubs rnks que far frm : Nat → Int32) (vi cu pu pn wn : Nat) (th : Int32) (hn : n ≤ 48) (c0 : Nat) (hc1 : 1 ≤ c0) (hc2 : c0 ≤ 48) (hc3 : n + c0 ≤ 48) (hz : ∀ v, n ≤ v → near v = 0) (hbt : bt = false) (X : va_W) : Met l yX4_addVertices wsX4_addVertices ({ frames := 1, cells := 0, slots := 0, locals := 21 } : Room) (WPc dG cI cJ [.ref mo, .int (nI c0)] (MW cI cJ mo mN mD mP mH mR mQ mF mO near (nI n) (nI ec) (bI bt) dis par hubs rnks que far frm (nI vi) (nI cu) (nI pu) (nI pn) (nI wn) th ++ X) A) (va_Qi (S := Unit) (fun r _ => r = nI (n + c0)) (fun _ => WB dG A (MW cI cJ mo mN mD mP mH mR mQ mF mO near (nI (n + c0)) (nI ec) (bI bt) dis par hubs rnks que far frm (nI vi) (nI cu) (nI pu) (nI pn) (nI wn) (nI 0) ++ X)) A) 0 0 A := by
  refine Met.ofW (cc := cX4_addVertices) (maxL := 3) (ret := (some .int)) (by decide) rfl ?_
  intro p e s m args below meth c s₁ B9 hml hv
  obtain ⟨rfl, hP, hK, hD⟩ := hv
  have hx := B9.exec
  have hb := B9.bytes
  have hr := B9.returns
  have hts := atoms_spec (ws := wsX4_addVertices) B9.pre
  have hown : s.vm.findClass RX4 = some m.cls := findClass_of_methodNamed B9.named
  have hlocks := B9.notSynchronized
  have hS : va_S A s.heap s.heap [] := va_S.rf
  have hl := lv_entry ([.ref mo, .int (nI c0)]) (n := 3) (Nat.le_of_ble_eq_true rfl)
  rw [lg_entry_eq]
  generalize (lg_sl ([.ref mo, .int (nI c0)]) ++ List.replicate (3 - (lg_sl ([.ref mo, .int (nI c0)])).length) Slot.unset).toArray = ls at hl ⊢
  have hl : lv_has ls 3 [(0, .ref mo), (1, .int (nI c0))] := hl
  have hiX4 : ∀ w ∈ wsX40, w ∈ wsX4_addVertices := by decide +kernel
  have hf39 := hts (.fieldLink RX4 39 "LandmarkLeaModel" "many" "I") (by decide +kernel)
  refine lv_aload_n hx hb dX4_addVertices_0 rfl (lv_at hl 0 rfl) ?_
  refine lv_iload_n hx hb dX4_addVertices_1 rfl (lv_at hl 1 rfl) ?_
  refine lv_iconst (v := (nI 1)) hx hb dX4_addVertices_2 (by decide) ?_
  refine x_icmp_ltN (i := c0) (j := 1) (tgt := 12) hx hb (by omega) (by omega) dX4_addVertices_3 (by decide) (fun c3 => ?_) (fun c3 => ?_)
  · skip
    exact absurd c3 (by omega)
  · skip
    refine lv_iload_n hx hb dX4_addVertices_6 rfl (lv_at hl 1 rfl) ?_
    refine lv_bipush (v := (nI 48)) hx hb dX4_addVertices_7 (by decide) ?_
    refine x_icmp_leN (i := c0) (j := 48) (tgt := 16) hx hb (by omega) (by omega) dX4_addVertices_9 (by decide) (fun c9 => ?_) (fun c9 => ?_)
    · skip
      refine lv_iload_n hx hb dX4_addVertices_16 rfl (lv_at hl 1 rfl) ?_
      refine lv_bipush (v := (nI 48)) hx hb dX4_addVertices_17 (by decide) ?_
      refine lv_aload_n hx hb dX4_addVertices_19 rfl (lv_at hl 0 rfl) ?_
      refine va_get (D := dG) (ci := 4) (v := .int (nI n)) (C := RX4) (T := TX4) (N := 17) hx hb hts hiX4 hown hK.1 hP 0 rfl rfl 1 (by decide) hf39 (fun _ h9 => h9) rfl dX4_addVertices_20 ?_
      refine x_subN (i := 48) (j := n) hx hb (by omega) dX4_addVertices_23 ?_
      refine x_icmp_leN (i := c0) (j := (48 - n)) (tgt := 31) hx hb (by omega) (by omega) dX4_addVertices_24 (by decide) (fun c24 => ?_) (fun c24 => ?_)
      · skip
        refine lv_iconst (v := (nI 0)) hx hb dX4_addVertices_31 (by decide) ?_
        have hPc : va_P dG vwCl (MW cI cJ mo mN mD mP mH mR mQ mF mO near (nI n) (nI ec) (bI bt) dis par hubs rnks que far frm (nI vi) (nI cu) (nI pu) (nI pn) (nI wn) th ++ X) s.heap := hP
        have hDc : va_D A (MW cI cJ mo mN mD mP mH mR mQ mF mO near (nI n) (nI ec) (bI bt) dis par hubs rnks que far frm (nI vi) (nI cu) (nI pu) (nI pn) (nI wn) th ++ X) := hD
        refine va_calli (va_runV (As := [.int (nI 0)]) (rest := []) ⟨hx, hb, hml, hown, hts⟩ (m_goes l dG cI cJ A mo mN mD mP mH mR mQ mF mO near n ec bt dis par hubs rnks que far frm vi cu pu pn wn th 0 (by omega) _) (cwV 1 hts gX4_addVertices_X4_goes rfl rfl rfl (by decide +kernel) ⟨Nat.le_of_ble_eq_true rfl, Nat.le_of_ble_eq_true rfl⟩) (WPc.pre hPc hDc hK (va_recv hK.1 hPc (ci := 4) (q0 := 0) rfl rfl)) rfl rfl hl.1 rfl (lv_room (Nat.le_of_ble_eq_true rfl)) dX4_addVertices_32 ⟨Nat.zero_le _, Nat.zero_le _⟩) hS (fun q _ h => h) (fun q h => h) (fun r9 u9 t H locs ht hvm hw hB hz1 hk1 hS => ?_)
        obtain ⟨hP, hD⟩ := hB
        rw [ht] at hP
        have hP : va_P dG vwCl (MW cI cJ mo mN mD mP mH mR mQ mF mO near (nI n) (nI ec) (bI bt) dis par hubs rnks que far frm (nI vi) (nI cu) (nI pu) (nI pn) (nI wn) (nI 0) ++ X) H := hP
        have hD : va_D A (MW cI cJ mo mN mD mP mH mR mQ mF mO near (nI n) (nI ec) (bI bt) dis par hubs rnks que far frm (nI vi) (nI cu) (nI pu) (nI pn) (nI wn) (nI 0) ++ X) := hD
        rw [show r9 = bI true from hw]
        refine x_ifneB (tgt := 40) hx hb dX4_addVertices_35 (by decide) (fun h9 => ?_) (fun h9 => absurd h9 (by decide))
        refine lv_iconst (v := (nI 0)) hx hb dX4_addVertices_40 (by decide) ?_
        refine lv_istore_n (lv' := [(2, .int (nI 0)), (0, .ref mo), (1, .int (nI c0))]) hx hb dX4_addVertices_41 rfl hl (by decide) rfl (fun ls hl => ?_)
        have loop : ∀ (QQ : State → Prop) (n1 : Nat) (k : Nat), c0 < k + n1 → k ≤ c0 → (∀ (H : Heap) (locs : List Loc), va_P dG vwCl (MW cI cJ mo mN mD mP mH mR mQ mF mO near (nI (n + c0)) (nI ec) (bI bt) dis par hubs rnks que far frm (nI vi) (nI cu) (nI pu) (nI pn) (nI wn) (nI 0) ++ X) H → va_D A (MW cI cJ mo mN mD mP mH mR mQ mF mO near (nI (n + c0)) (nI ec) (bI bt) dis par hubs rnks que far frm (nI vi) (nI cu) (nI pu) (nI pn) (nI wn) (nI 0) ++ X) → va_S A s.heap H locs → ∀ ls : Array Slot, lv_has ls 3 [(0, .ref mo), (1, .int (nI c0)), (2, .int (nI c0))] → W p l e ({ frames := 1, cells := 0, slots := 0, locals := 21 } : Room) s m ([.ref mo, .int (nI c0)] : List Value).toArray below meth c H locs 0 0 QQ (F0 m 57 ls [])) → ∀ (H : Heap) (locs : List Loc), va_P dG vwCl (MW cI cJ mo mN mD mP mH mR mQ mF mO near (nI (n + k)) (nI ec) (bI bt) dis par hubs rnks que far frm (nI vi) (nI cu) (nI pu) (nI pn) (nI wn) (nI 0) ++ X) H → va_D A (MW cI cJ mo mN mD mP mH mR mQ mF mO near (nI (n + k)) (nI ec) (bI bt) dis par hubs rnks que far frm (nI vi) (nI cu) (nI pu) (nI pn) (nI wn) (nI 0) ++ X) → va_S A s.heap H locs → ∀ ls : Array Slot, lv_has ls 3 [(0, .ref mo), (1, .int (nI c0)), (2, .int (nI k))] → W p l e ({ frames := 1, cells := 0, slots := 0, locals := 21 } : Room) s m ([.ref mo, .int (nI c0)] : List Value).toArray below meth c H locs 0 0 QQ (F0 m 42 ls []) := by
          intro QQ n1
          induction n1 with
          | zero => intro k h1 h2; exact absurd h1 (by omega)
          | succ n1 ih =>
            intro k h1 h2 kx H locs hP hD hS ls hl
            refine lv_iload_n hx hb dX4_addVertices_42 rfl (lv_at hl 2 rfl) ?_
            refine lv_iload_n hx hb dX4_addVertices_43 rfl (lv_at hl 1 rfl) ?_
            refine x_icmp_geN (i := k) (j := c0) (tgt := 57) hx hb (by omega) (by omega) dX4_addVertices_44 (by decide) (fun c44 => ?_) (fun c44 => ?_)
            · skip
              have ek : k = c0 := by omega
              subst ek
              exact kx  H locs hP hD hS ls (lv_sub hl [0, 1, 2] rfl)
            · skip
              refine lv_aload_n hx hb dX4_addVertices_47 rfl (lv_at hl 0 rfl) ?_
              have hPc : va_P dG vwCl (MW cI cJ mo mN mD mP mH mR mQ mF mO near (nI (n + k)) (nI ec) (bI bt) dis par hubs rnks que far frm (nI vi) (nI cu) (nI pu) (nI pn) (nI wn) (nI 0) ++ X) H := hP
              have hDc : va_D A (MW cI cJ mo mN mD mP mH mR mQ mF mO near (nI (n + k)) (nI ec) (bI bt) dis par hubs rnks que far frm (nI vi) (nI cu) (nI pu) (nI pn) (nI wn) (nI 0) ++ X) := hD
              refine va_callv (va_runV (As := []) (rest := []) ⟨hx, hb, hml, hown, hts⟩ (m_addsU l dG cI cJ A mo mN mD mP mH mR mQ mF mO near (n + k) ec bt dis par hubs rnks que far frm vi cu pu pn wn (nI 0) (by omega) hbt _) (cwV 0 hts gX4_addVertices_X4_adds rfl rfl rfl (by decide +kernel) ⟨Nat.le_of_ble_eq_true rfl, Nat.le_of_ble_eq_true rfl⟩) (WPc.pre hPc hDc hK (va_recv hK.1 hPc (ci := 4) (q0 := 0) rfl rfl)) rfl rfl hl.1 rfl (lv_room (Nat.le_of_ble_eq_true rfl)) dX4_addVertices_48 ⟨Nat.zero_le _, Nat.zero_le _⟩) hS (fun q _ h => h) (fun q h => h) (fun u9 t H locs ht hvm hw hB hz1 hk1 hS => ?_)
              obtain ⟨hP, hD⟩ := hB
              rw [ht] at hP
              have hP : va_P dG vwCl (MW cI cJ mo mN mD mP mH mR mQ mF mO (vp_updL near (n + k) 0) (nI (n + k + 1)) (nI ec) (bI bt) dis par hubs rnks que far frm (nI vi) (nI cu) (nI pu) (nI pn) (nI wn) (nI 0) ++ X) H := hP
              have hD : va_D A (MW cI cJ mo mN mD mP mH mR mQ mF mO (vp_updL near (n + k) 0) (nI (n + k + 1)) (nI ec) (bI bt) dis par hubs rnks que far frm (nI vi) (nI cu) (nI pu) (nI pn) (nI wn) (nI 0) ++ X) := hD
              rw [near_0 hz (Nat.le_add_right n k)] at hP hD
              refine x_iincN (lv' := [(2, .int (nI (k + 1))), (0, .ref mo), (1, .int (nI c0))]) hx hb dX4_addVertices_51 hl (k := 2) rfl (by decide) rfl (fun ls hl => ?_)
              refine lv_goto (tgt := 42) hx hb dX4_addVertices_54 (by decide) ?_
              exact ih (k + 1) (by omega) (by omega) kx H locs hP hD hS ls (lv_sub hl [1, 2, 0] rfl)
        refine loop _ 49 0 (by omega) (by omega) (fun  H locs hP hD hS ls hl => ?_) H locs hP hD hS ls (lv_sub hl [1, 2, 0] rfl)
        refine lv_aload_n hx hb dX4_addVertices_57 rfl (lv_at hl 0 rfl) ?_
        refine va_get (D := dG) (ci := 4) (v := .int (nI (n + c0))) (C := RX4) (T := TX4) (N := 17) hx hb hts hiX4 hown hK.1 hP 0 rfl rfl 1 (by decide) hf39 (fun _ h9 => h9) rfl dX4_addVertices_58 ?_
        exact W.iret (v := (nI (n + c0))) hx hb hr (fun t ht hW => ⟨⟨_, (), rfl, rfl, by rw [ht]; exact hP, hD⟩, hS.F ht⟩) hS.2.2 dX4_addVertices_61
      · skip
        exact absurd c24 (by omega)
    · skip
      exact absurd c9 (by omega)

set_option maxHeartbeats 4000000 in
set_option maxRecDepth 100000 in
/-- reference: addVertices -/
theorem m_addVerticesB (l : Launch) (dG : va_G) (cI cJ : ClassId) (A : Nat → Prop) (mo mN mD mP mH mR mQ mF mO : Nat) (near : Nat → Int64) (n ec : Nat) (bt : Bool) (dis par hubs rnks que far frm : Nat → Int32) (vi cu pu pn wn : Nat) (th : Int32) (hn : n ≤ 48) (c0 : Nat) (hc1 : 1 ≤ c0) (hc2 : c0 ≤ 48) (hc3 : n + c0 ≤ 48) (hz : ∀ v, n ≤ v → near v = 0) (hbt : bt = true) (L P : Nat → Nat → Option Nat) (hR : RepM 0 L P dis par) (hL : ∀ v r, n ≤ v → L v r = none) (X : va_W) : Met l yX4_addVertices wsX4_addVertices ({ frames := 2, cells := 0, slots := 0, locals := 43 } : Room) (WPc dG cI cJ [.ref mo, .int (nI c0)] (MW cI cJ mo mN mD mP mH mR mQ mF mO near (nI n) (nI ec) (bI bt) dis par hubs rnks que far frm (nI vi) (nI cu) (nI pu) (nI pn) (nI wn) th ++ X) A) (va_Qi (S := (Nat → Int32) × (Nat → Int32)) (fun r u => r = nI (n + c0) ∧ RepM 0 (adL L n c0) (adP P n c0) u.1 u.2) (fun u => WB dG A (MW cI cJ mo mN mD mP mH mR mQ mF mO near (nI (n + c0)) (nI ec) (bI bt) u.1 u.2 (adH hubs n c0) (adH rnks n c0) que far frm (nI vi) (nI cu) (nI pu) (nI pn) (nI wn) (nI 0) ++ X)) A) 0 0 A := by
  refine Met.ofW (cc := cX4_addVertices) (maxL := 3) (ret := (some .int)) (by decide) rfl ?_
  intro p e s m args below meth c s₁ B9 hml hv
  obtain ⟨rfl, hP, hK, hD⟩ := hv
  have hx := B9.exec
  have hb := B9.bytes
  have hr := B9.returns
  have hts := atoms_spec (ws := wsX4_addVertices) B9.pre
  have hown : s.vm.findClass RX4 = some m.cls := findClass_of_methodNamed B9.named
  have hlocks := B9.notSynchronized
  have hS : va_S A s.heap s.heap [] := va_S.rf
  have hl := lv_entry ([.ref mo, .int (nI c0)]) (n := 3) (Nat.le_of_ble_eq_true rfl)
  rw [lg_entry_eq]
  generalize (lg_sl ([.ref mo, .int (nI c0)]) ++ List.replicate (3 - (lg_sl ([.ref mo, .int (nI c0)])).length) Slot.unset).toArray = ls at hl ⊢
  have hl : lv_has ls 3 [(0, .ref mo), (1, .int (nI c0))] := hl
  have hiX4 : ∀ w ∈ wsX40, w ∈ wsX4_addVertices := by decide +kernel
  have hf39 := hts (.fieldLink RX4 39 "LandmarkLeaModel" "many" "I") (by decide +kernel)
  refine lv_aload_n hx hb dX4_addVertices_0 rfl (lv_at hl 0 rfl) ?_
  refine lv_iload_n hx hb dX4_addVertices_1 rfl (lv_at hl 1 rfl) ?_
  refine lv_iconst (v := (nI 1)) hx hb dX4_addVertices_2 (by decide) ?_
  refine x_icmp_ltN (i := c0) (j := 1) (tgt := 12) hx hb (by omega) (by omega) dX4_addVertices_3 (by decide) (fun c3 => ?_) (fun c3 => ?_)
  · skip
    exact absurd c3 (by omega)
  · skip
    refine lv_iload_n hx hb dX4_addVertices_6 rfl (lv_at hl 1 rfl) ?_
    refine lv_bipush (v := (nI 48)) hx hb dX4_addVertices_7 (by decide) ?_
    refine x_icmp_leN (i := c0) (j := 48) (tgt := 16) hx hb (by omega) (by omega) dX4_addVertices_9 (by decide) (fun c9 => ?_) (fun c9 => ?_)
    · skip
      refine lv_iload_n hx hb dX4_addVertices_16 rfl (lv_at hl 1 rfl) ?_
      refine lv_bipush (v := (nI 48)) hx hb dX4_addVertices_17 (by decide) ?_
      refine lv_aload_n hx hb dX4_addVertices_19 rfl (lv_at hl 0 rfl) ?_
      refine va_get (D := dG) (ci := 4) (v := .int (nI n)) (C := RX4) (T := TX4) (N := 17) hx hb hts hiX4 hown hK.1 hP 0 rfl rfl 1 (by decide) hf39 (fun _ h9 => h9) rfl dX4_addVertices_20 ?_
      refine x_subN (i := 48) (j := n) hx hb (by omega) dX4_addVertices_23 ?_
      refine x_icmp_leN (i := c0) (j := (48 - n)) (tgt := 31) hx hb (by omega) (by omega) dX4_addVertices_24 (by decide) (fun c24 => ?_) (fun c24 => ?_)
      · skip
        refine lv_iconst (v := (nI 0)) hx hb dX4_addVertices_31 (by decide) ?_
        have hPc : va_P dG vwCl (MW cI cJ mo mN mD mP mH mR mQ mF mO near (nI n) (nI ec) (bI bt) dis par hubs rnks que far frm (nI vi) (nI cu) (nI pu) (nI pn) (nI wn) th ++ X) s.heap := hP
        have hDc : va_D A (MW cI cJ mo mN mD mP mH mR mQ mF mO near (nI n) (nI ec) (bI bt) dis par hubs rnks que far frm (nI vi) (nI cu) (nI pu) (nI pn) (nI wn) th ++ X) := hD
        refine va_calli (va_runV (As := [.int (nI 0)]) (rest := []) ⟨hx, hb, hml, hown, hts⟩ (m_goes l dG cI cJ A mo mN mD mP mH mR mQ mF mO near n ec bt dis par hubs rnks que far frm vi cu pu pn wn th 0 (by omega) _) (cwV 1 hts gX4_addVertices_X4_goes rfl rfl rfl (by decide +kernel) ⟨Nat.le_of_ble_eq_true rfl, Nat.le_of_ble_eq_true rfl⟩) (WPc.pre hPc hDc hK (va_recv hK.1 hPc (ci := 4) (q0 := 0) rfl rfl)) rfl rfl hl.1 rfl (lv_room (Nat.le_of_ble_eq_true rfl)) dX4_addVertices_32 ⟨Nat.zero_le _, Nat.zero_le _⟩) hS (fun q _ h => h) (fun q h => h) (fun r9 u9 t H locs ht hvm hw hB hz1 hk1 hS => ?_)
        obtain ⟨hP, hD⟩ := hB
        rw [ht] at hP
        have hP : va_P dG vwCl (MW cI cJ mo mN mD mP mH mR mQ mF mO near (nI n) (nI ec) (bI bt) dis par hubs rnks que far frm (nI vi) (nI cu) (nI pu) (nI pn) (nI wn) (nI 0) ++ X) H := hP
        have hD : va_D A (MW cI cJ mo mN mD mP mH mR mQ mF mO near (nI n) (nI ec) (bI bt) dis par hubs rnks que far frm (nI vi) (nI cu) (nI pu) (nI pn) (nI wn) (nI 0) ++ X) := hD
        rw [show r9 = bI true from hw]
        refine x_ifneB (tgt := 40) hx hb dX4_addVertices_35 (by decide) (fun h9 => ?_) (fun h9 => absurd h9 (by decide))
        refine lv_iconst (v := (nI 0)) hx hb dX4_addVertices_40 (by decide) ?_
        refine lv_istore_n (lv' := [(2, .int (nI 0)), (0, .ref mo), (1, .int (nI c0))]) hx hb dX4_addVertices_41 rfl hl (by decide) rfl (fun ls hl => ?_)
        have loop : ∀ (QQ : State → Prop) (n1 : Nat) (k : Nat) (dis par : Nat → Int32), c0 < k + n1 → k ≤ c0 → RepM 0 (adL L n k) (adP P n k) dis par → (∀ (dis par : Nat → Int32) (_ : RepM 0 (adL L n c0) (adP P n c0) dis par), ∀ (H : Heap) (locs : List Loc), va_P dG vwCl (MW cI cJ mo mN mD mP mH mR mQ mF mO near (nI (n + c0)) (nI ec) (bI bt) dis par (adH hubs n c0) (adH rnks n c0) que far frm (nI vi) (nI cu) (nI pu) (nI pn) (nI wn) (nI 0) ++ X) H → va_D A (MW cI cJ mo mN mD mP mH mR mQ mF mO near (nI (n + c0)) (nI ec) (bI bt) dis par (adH hubs n c0) (adH rnks n c0) que far frm (nI vi) (nI cu) (nI pu) (nI pn) (nI wn) (nI 0) ++ X) → va_S A s.heap H locs → ∀ ls : Array Slot, lv_has ls 3 [(0, .ref mo), (1, .int (nI c0)), (2, .int (nI c0))] → W p l e ({ frames := 2, cells := 0, slots := 0, locals := 43 } : Room) s m ([.ref mo, .int (nI c0)] : List Value).toArray below meth c H locs 0 0 QQ (F0 m 57 ls [])) → ∀ (H : Heap) (locs : List Loc), va_P dG vwCl (MW cI cJ mo mN mD mP mH mR mQ mF mO near (nI (n + k)) (nI ec) (bI bt) dis par (adH hubs n k) (adH rnks n k) que far frm (nI vi) (nI cu) (nI pu) (nI pn) (nI wn) (nI 0) ++ X) H → va_D A (MW cI cJ mo mN mD mP mH mR mQ mF mO near (nI (n + k)) (nI ec) (bI bt) dis par (adH hubs n k) (adH rnks n k) que far frm (nI vi) (nI cu) (nI pu) (nI pn) (nI wn) (nI 0) ++ X) → va_S A s.heap H locs → ∀ ls : Array Slot, lv_has ls 3 [(0, .ref mo), (1, .int (nI c0)), (2, .int (nI k))] → W p l e ({ frames := 2, cells := 0, slots := 0, locals := 43 } : Room) s m ([.ref mo, .int (nI c0)] : List Value).toArray below meth c H locs 0 0 QQ (F0 m 42 ls []) := by
          intro QQ n1
          induction n1 with
          | zero => intro k dis par h1 h2 hRk; exact absurd h1 (by omega)
          | succ n1 ih =>
            intro k dis par h1 h2 hRk kx H locs hP hD hS ls hl
            refine lv_iload_n hx hb dX4_addVertices_42 rfl (lv_at hl 2 rfl) ?_
            refine lv_iload_n hx hb dX4_addVertices_43 rfl (lv_at hl 1 rfl) ?_
            refine x_icmp_geN (i := k) (j := c0) (tgt := 57) hx hb (by omega) (by omega) dX4_addVertices_44 (by decide) (fun c44 => ?_) (fun c44 => ?_)
            · skip
              have ek : k = c0 := by omega
              subst ek
              exact kx (dis) (par) (hRk) H locs hP hD hS ls (lv_sub hl [0, 1, 2] rfl)
            · skip
              refine lv_aload_n hx hb dX4_addVertices_47 rfl (lv_at hl 0 rfl) ?_
              have hPc : va_P dG vwCl (MW cI cJ mo mN mD mP mH mR mQ mF mO near (nI (n + k)) (nI ec) (bI bt) dis par (adH hubs n k) (adH rnks n k) que far frm (nI vi) (nI cu) (nI pu) (nI pn) (nI wn) (nI 0) ++ X) H := hP
              have hDc : va_D A (MW cI cJ mo mN mD mP mH mR mQ mF mO near (nI (n + k)) (nI ec) (bI bt) dis par (adH hubs n k) (adH rnks n k) que far frm (nI vi) (nI cu) (nI pu) (nI pn) (nI wn) (nI 0) ++ X) := hD
              refine va_callv (va_runV (As := []) (rest := []) ⟨hx, hb, hml, hown, hts⟩ (m_addsB l dG cI cJ A mo mN mD mP mH mR mQ mF mO near (n + k) ec bt dis par (adH hubs n k) (adH rnks n k) que far frm vi cu pu pn wn (nI 0) (by omega) hbt (adL L n k) (adP P n k) hRk (fun r => adL_none hL k (n + k) r (Nat.le_refl _)) _) (cwV 0 hts gX4_addVertices_X4_adds rfl rfl rfl (by decide +kernel) ⟨Nat.le_of_ble_eq_true rfl, Nat.le_of_ble_eq_true rfl⟩) (WPc.pre hPc hDc hK (va_recv hK.1 hPc (ci := 4) (q0 := 0) rfl rfl)) rfl rfl hl.1 rfl (lv_room (Nat.le_of_ble_eq_true rfl)) dX4_addVertices_48 ⟨Nat.zero_le _, Nat.zero_le _⟩) hS (fun q _ h => h) (fun q h => h) (fun u t H locs ht hvm hw hB hz1 hk1 hS => ?_)
              obtain ⟨dis, par⟩ := u
              obtain ⟨hP, hD⟩ := hB
              rw [ht] at hP
              have hP : va_P dG vwCl (MW cI cJ mo mN mD mP mH mR mQ mF mO (vp_updL near (n + k) 0) (nI (n + k + 1)) (nI ec) (bI bt) dis par (upd (adH hubs n k) (n + k) (nI (n + k))) (upd (adH rnks n k) (n + k) (nI (n + k))) que far frm (nI vi) (nI cu) (nI pu) (nI pn) (nI wn) (nI 0) ++ X) H := hP
              have hD : va_D A (MW cI cJ mo mN mD mP mH mR mQ mF mO (vp_updL near (n + k) 0) (nI (n + k + 1)) (nI ec) (bI bt) dis par (upd (adH hubs n k) (n + k) (nI (n + k))) (upd (adH rnks n k) (n + k) (nI (n + k))) que far frm (nI vi) (nI cu) (nI pu) (nI pn) (nI wn) (nI 0) ++ X) := hD
              rw [near_0 hz (Nat.le_add_right n k)] at hP hD
              refine x_iincN (lv' := [(2, .int (nI (k + 1))), (0, .ref mo), (1, .int (nI c0))]) hx hb dX4_addVertices_51 hl (k := 2) rfl (by decide) rfl (fun ls hl => ?_)
              refine lv_goto (tgt := 42) hx hb dX4_addVertices_54 (by decide) ?_
              exact ih (k + 1) dis par (by omega) (by omega) (hw) kx H locs hP hD hS ls (lv_sub hl [1, 2, 0] rfl)
        refine loop _ 49 0 dis par (by omega) (by omega) (hR) (fun dis par hRk H locs hP hD hS ls hl => ?_) H locs hP hD hS ls (lv_sub hl [1, 2, 0] rfl)
        refine lv_aload_n hx hb dX4_addVertices_57 rfl (lv_at hl 0 rfl) ?_
        refine va_get (D := dG) (ci := 4) (v := .int (nI (n + c0))) (C := RX4) (T := TX4) (N := 17) hx hb hts hiX4 hown hK.1 hP 0 rfl rfl 1 (by decide) hf39 (fun _ h9 => h9) rfl dX4_addVertices_58 ?_
        exact W.iret (v := (nI (n + c0))) hx hb hr (fun t ht hW => ⟨⟨_, (dis, par), rfl, ⟨rfl, hRk⟩, by rw [ht]; exact hP, hD⟩, hS.F ht⟩) hS.2.2 dX4_addVertices_61
      · skip
        exact absurd c24 (by omega)
    · skip
      exact absurd c9 (by omega)

set_option maxHeartbeats 4000000 in
set_option maxRecDepth 100000 in
/-- reference: addEdge -/
theorem m_addEdgeX (l : Launch) (dG : va_G) (cI cJ : ClassId) (A : Nat → Prop) (mo mN mD mP mH mR mQ mF mO : Nat) (near : Nat → Int64) (n ec : Nat) (bt : Bool) (dis par hubs rnks que far frm : Nat → Int32) (vi cu pu pn wn : Nat) (th : Int32) (hn : n ≤ 48) (x y : Int32) (hx9 : (inV x n && inV y n) = false) (X : va_W) : Met l yX4_addEdge wsX4_addEdge ({ frames := 5, cells := 0, slots := 0, locals := 133 } : Room) (WPc dG cI cJ [.ref mo, .int x, .int y] (MW cI cJ mo mN mD mP mH mR mQ mF mO near (nI n) (nI ec) (bI bt) dis par hubs rnks que far frm (nI vi) (nI cu) (nI pu) (nI pn) (nI wn) th ++ X) A) (va_Qi (S := Unit) (fun r _ => r = nI 0) (fun _ => WB dG A (MW cI cJ mo mN mD mP mH mR mQ mF mO near (nI n) (nI ec) (bI bt) dis par hubs rnks que far frm (nI vi) (nI cu) (nI pu) (nI pn) (nI wn) (nI 1) ++ X)) A) 0 0 A := by
  refine Met.ofW (cc := cX4_addEdge) (maxL := 3) (ret := (some .int)) (by decide) rfl ?_
  intro p e s m args below meth c s₁ B9 hml hv
  obtain ⟨rfl, hP, hK, hD⟩ := hv
  have hx := B9.exec
  have hb := B9.bytes
  have hr := B9.returns
  have hts := atoms_spec (ws := wsX4_addEdge) B9.pre
  have hown : s.vm.findClass RX4 = some m.cls := findClass_of_methodNamed B9.named
  have hlocks := B9.notSynchronized
  have hS : va_S A s.heap s.heap [] := va_S.rf
  have hl := lv_entry ([.ref mo, .int x, .int y]) (n := 3) (Nat.le_of_ble_eq_true rfl)
  rw [lg_entry_eq]
  generalize (lg_sl ([.ref mo, .int x, .int y]) ++ List.replicate (3 - (lg_sl ([.ref mo, .int x, .int y])).length) Slot.unset).toArray = ls at hl ⊢
  have hl : lv_has ls 3 [(0, .ref mo), (1, .int x), (2, .int y)] := hl
  have hiX4 : ∀ w ∈ wsX40, w ∈ wsX4_addEdge := by decide +kernel
  have hf7 := hts (.fieldLink RX4 7 "LandmarkLeaModel" "near" "[J") (by decide +kernel)
  have hf54 := hts (.fieldLink RX4 54 "LandmarkLeaModel" "visits" "I") (by decide +kernel)
  have hf91 := hts (.fieldLink RX4 91 "LandmarkLeaModel" "isBuilt" "Z") (by decide +kernel)
  have hf108 := hts (.fieldLink RX4 108 "LandmarkLeaModel" "edges" "I") (by decide +kernel)
  refine lv_aload_n hx hb dX4_addEdge_0 rfl (lv_at hl 0 rfl) ?_
  refine lv_aload_n hx hb dX4_addEdge_1 rfl (lv_at hl 0 rfl) ?_
  refine lv_iload_n hx hb dX4_addEdge_2 rfl (lv_at hl 1 rfl) ?_
  have hPc := hP.sub (ws' := (MW cI cJ mo mN mD mP mH mR mQ mF mO near (nI n) (nI ec) (bI bt) dis par hubs rnks que far frm (nI vi) (nI cu) (nI pu) (nI pn) (nI wn) th)) [0, 1, 2, 3, 4, 5, 6, 7, 8] rfl
  refine x_ri (W.runV (As := [.int x]) (rest := [.ref mo]) ⟨hx, hb, hml, hown, hts⟩ (m_isVertex l dG cI cJ mo mN mD mP mH mR mQ mF mO near n ec bt dis par hubs rnks que far frm vi cu pu pn wn th (by omega) x) (cwV 1 hts gX4_addEdge_X4_isVertex rfl rfl rfl (by decide +kernel) ⟨Nat.le_of_ble_eq_true rfl, Nat.le_of_ble_eq_true rfl⟩) (RPc.pre hPc hK (va_recv hK.1 hPc (ci := 4) (q0 := 0) rfl rfl)) rfl rfl hl.1 rfl (lv_room (Nat.le_of_ble_eq_true rfl)) dX4_addEdge_3 ⟨Nat.zero_le _, Nat.zero_le _⟩) ?_
  refine x_ifeqB (tgt := 17) hx hb dX4_addEdge_6 (by decide) (fun c6 => ?_) (fun c6 => ?_)
  · skip
    refine lv_iconst (v := (nI 1)) hx hb dX4_addEdge_17 (by decide) ?_
    refine lv_goto (tgt := 40) hx hb dX4_addEdge_18 (by decide) ?_
    have hPc : va_P dG vwCl (MW cI cJ mo mN mD mP mH mR mQ mF mO near (nI n) (nI ec) (bI bt) dis par hubs rnks que far frm (nI vi) (nI cu) (nI pu) (nI pn) (nI wn) th ++ X) s.heap := hP
    have hDc : va_D A (MW cI cJ mo mN mD mP mH mR mQ mF mO near (nI n) (nI ec) (bI bt) dis par hubs rnks que far frm (nI vi) (nI cu) (nI pu) (nI pn) (nI wn) th ++ X) := hD
    refine va_calli (va_runV (As := [.int (nI 1)]) (rest := []) ⟨hx, hb, hml, hown, hts⟩ (m_goes l dG cI cJ A mo mN mD mP mH mR mQ mF mO near n ec bt dis par hubs rnks que far frm vi cu pu pn wn th 1 (by omega) _) (cwV 1 hts gX4_addEdge_X4_goes rfl rfl rfl (by decide +kernel) ⟨Nat.le_of_ble_eq_true rfl, Nat.le_of_ble_eq_true rfl⟩) (WPc.pre hPc hDc hK (va_recv hK.1 hPc (ci := 4) (q0 := 0) rfl rfl)) rfl rfl hl.1 rfl (lv_room (Nat.le_of_ble_eq_true rfl)) dX4_addEdge_40 ⟨Nat.zero_le _, Nat.zero_le _⟩) hS (fun q _ h => h) (fun q h => h) (fun r9 u9 t H locs ht hvm hw hB hz1 hk1 hS => ?_)
    obtain ⟨hP, hD⟩ := hB
    rw [ht] at hP
    have hP : va_P dG vwCl (MW cI cJ mo mN mD mP mH mR mQ mF mO near (nI n) (nI ec) (bI bt) dis par hubs rnks que far frm (nI vi) (nI cu) (nI pu) (nI pn) (nI wn) (nI 1) ++ X) H := hP
    have hD : va_D A (MW cI cJ mo mN mD mP mH mR mQ mF mO near (nI n) (nI ec) (bI bt) dis par hubs rnks que far frm (nI vi) (nI cu) (nI pu) (nI pn) (nI wn) (nI 1) ++ X) := hD
    rw [show r9 = bI false from hw]
    refine x_ifneB (tgt := 48) hx hb dX4_addEdge_43 (by decide) (fun h9 => absurd h9 (by decide)) (fun h9 => ?_)
    refine lv_iconst (v := (nI 0)) hx hb dX4_addEdge_46 (by decide) ?_
    exact W.iret (v := (nI 0)) hx hb hr (fun t ht hW => ⟨⟨_, (), rfl, rfl, by rw [ht]; exact hP, hD⟩, hS.F ht⟩) hS.2.2 dX4_addEdge_47
  · skip
    refine lv_aload_n hx hb dX4_addEdge_9 rfl (lv_at hl 0 rfl) ?_
    refine lv_iload_n hx hb dX4_addEdge_10 rfl (lv_at hl 2 rfl) ?_
    have hPc := hP.sub (ws' := (MW cI cJ mo mN mD mP mH mR mQ mF mO near (nI n) (nI ec) (bI bt) dis par hubs rnks que far frm (nI vi) (nI cu) (nI pu) (nI pn) (nI wn) th)) [0, 1, 2, 3, 4, 5, 6, 7, 8] rfl
    refine x_ri (W.runV (As := [.int y]) (rest := [.ref mo]) ⟨hx, hb, hml, hown, hts⟩ (m_isVertex l dG cI cJ mo mN mD mP mH mR mQ mF mO near n ec bt dis par hubs rnks que far frm vi cu pu pn wn th (by omega) y) (cwV 1 hts gX4_addEdge_X4_isVertex rfl rfl rfl (by decide +kernel) ⟨Nat.le_of_ble_eq_true rfl, Nat.le_of_ble_eq_true rfl⟩) (RPc.pre hPc hK (va_recv hK.1 hPc (ci := 4) (q0 := 0) rfl rfl)) rfl rfl hl.1 rfl (lv_room (Nat.le_of_ble_eq_true rfl)) dX4_addEdge_11 ⟨Nat.zero_le _, Nat.zero_le _⟩) ?_
    refine x_ifneB (tgt := 21) hx hb dX4_addEdge_14 (by decide) (fun c14 => ?_) (fun c14 => ?_)
    · skip
      rw [c6, c14] at hx9; cases hx9
    · skip
      refine lv_iconst (v := (nI 1)) hx hb dX4_addEdge_17 (by decide) ?_
      refine lv_goto (tgt := 40) hx hb dX4_addEdge_18 (by decide) ?_
      have hPc : va_P dG vwCl (MW cI cJ mo mN mD mP mH mR mQ mF mO near (nI n) (nI ec) (bI bt) dis par hubs rnks que far frm (nI vi) (nI cu) (nI pu) (nI pn) (nI wn) th ++ X) s.heap := hP
      have hDc : va_D A (MW cI cJ mo mN mD mP mH mR mQ mF mO near (nI n) (nI ec) (bI bt) dis par hubs rnks que far frm (nI vi) (nI cu) (nI pu) (nI pn) (nI wn) th ++ X) := hD
      refine va_calli (va_runV (As := [.int (nI 1)]) (rest := []) ⟨hx, hb, hml, hown, hts⟩ (m_goes l dG cI cJ A mo mN mD mP mH mR mQ mF mO near n ec bt dis par hubs rnks que far frm vi cu pu pn wn th 1 (by omega) _) (cwV 1 hts gX4_addEdge_X4_goes rfl rfl rfl (by decide +kernel) ⟨Nat.le_of_ble_eq_true rfl, Nat.le_of_ble_eq_true rfl⟩) (WPc.pre hPc hDc hK (va_recv hK.1 hPc (ci := 4) (q0 := 0) rfl rfl)) rfl rfl hl.1 rfl (lv_room (Nat.le_of_ble_eq_true rfl)) dX4_addEdge_40 ⟨Nat.zero_le _, Nat.zero_le _⟩) hS (fun q _ h => h) (fun q h => h) (fun r9 u9 t H locs ht hvm hw hB hz1 hk1 hS => ?_)
      obtain ⟨hP, hD⟩ := hB
      rw [ht] at hP
      have hP : va_P dG vwCl (MW cI cJ mo mN mD mP mH mR mQ mF mO near (nI n) (nI ec) (bI bt) dis par hubs rnks que far frm (nI vi) (nI cu) (nI pu) (nI pn) (nI wn) (nI 1) ++ X) H := hP
      have hD : va_D A (MW cI cJ mo mN mD mP mH mR mQ mF mO near (nI n) (nI ec) (bI bt) dis par hubs rnks que far frm (nI vi) (nI cu) (nI pu) (nI pn) (nI wn) (nI 1) ++ X) := hD
      rw [show r9 = bI false from hw]
      refine x_ifneB (tgt := 48) hx hb dX4_addEdge_43 (by decide) (fun h9 => absurd h9 (by decide)) (fun h9 => ?_)
      refine lv_iconst (v := (nI 0)) hx hb dX4_addEdge_46 (by decide) ?_
      exact W.iret (v := (nI 0)) hx hb hr (fun t ht hW => ⟨⟨_, (), rfl, rfl, by rw [ht]; exact hP, hD⟩, hS.F ht⟩) hS.2.2 dX4_addEdge_47

set_option maxHeartbeats 4000000 in
set_option maxRecDepth 100000 in
/-- reference: addEdge -/
theorem m_addEdge2 (l : Launch) (dG : va_G) (cI cJ : ClassId) (A : Nat → Prop) (mo mN mD mP mH mR mQ mF mO : Nat) (near : Nat → Int64) (n ec : Nat) (bt : Bool) (dis par hubs rnks que far frm : Nat → Int32) (vi cu pu pn wn : Nat) (th : Int32) (hn : n ≤ 48) (a b : Nat) (ha : a < n) (hbn : b < n) (h9 : a = b ∨ gb (near a) b = true) (X : va_W) : Met l yX4_addEdge wsX4_addEdge ({ frames := 5, cells := 0, slots := 0, locals := 133 } : Room) (WPc dG cI cJ [.ref mo, .int (nI a), .int (nI b)] (MW cI cJ mo mN mD mP mH mR mQ mF mO near (nI n) (nI ec) (bI bt) dis par hubs rnks que far frm (nI vi) (nI cu) (nI pu) (nI pn) (nI wn) th ++ X) A) (va_Qi (S := Unit) (fun r _ => r = nI 0) (fun _ => WB dG A (MW cI cJ mo mN mD mP mH mR mQ mF mO near (nI n) (nI ec) (bI bt) dis par hubs rnks que far frm (nI vi) (nI cu) (nI pu) (nI pn) (nI wn) (nI 2) ++ X)) A) 0 0 A := by
  refine Met.ofW (cc := cX4_addEdge) (maxL := 3) (ret := (some .int)) (by decide) rfl ?_
  intro p e s m args below meth c s₁ B9 hml hv
  obtain ⟨rfl, hP, hK, hD⟩ := hv
  have hx := B9.exec
  have hb := B9.bytes
  have hr := B9.returns
  have hts := atoms_spec (ws := wsX4_addEdge) B9.pre
  have hown : s.vm.findClass RX4 = some m.cls := findClass_of_methodNamed B9.named
  have hlocks := B9.notSynchronized
  have hS : va_S A s.heap s.heap [] := va_S.rf
  have hl := lv_entry ([.ref mo, .int (nI a), .int (nI b)]) (n := 3) (Nat.le_of_ble_eq_true rfl)
  rw [lg_entry_eq]
  generalize (lg_sl ([.ref mo, .int (nI a), .int (nI b)]) ++ List.replicate (3 - (lg_sl ([.ref mo, .int (nI a), .int (nI b)])).length) Slot.unset).toArray = ls at hl ⊢
  have hl : lv_has ls 3 [(0, .ref mo), (1, .int (nI a)), (2, .int (nI b))] := hl
  have hiX4 : ∀ w ∈ wsX40, w ∈ wsX4_addEdge := by decide +kernel
  have hf7 := hts (.fieldLink RX4 7 "LandmarkLeaModel" "near" "[J") (by decide +kernel)
  have hf54 := hts (.fieldLink RX4 54 "LandmarkLeaModel" "visits" "I") (by decide +kernel)
  have hf91 := hts (.fieldLink RX4 91 "LandmarkLeaModel" "isBuilt" "Z") (by decide +kernel)
  have hf108 := hts (.fieldLink RX4 108 "LandmarkLeaModel" "edges" "I") (by decide +kernel)
  refine lv_aload_n hx hb dX4_addEdge_0 rfl (lv_at hl 0 rfl) ?_
  refine lv_aload_n hx hb dX4_addEdge_1 rfl (lv_at hl 0 rfl) ?_
  refine lv_iload_n hx hb dX4_addEdge_2 rfl (lv_at hl 1 rfl) ?_
  have hPc := hP.sub (ws' := (MW cI cJ mo mN mD mP mH mR mQ mF mO near (nI n) (nI ec) (bI bt) dis par hubs rnks que far frm (nI vi) (nI cu) (nI pu) (nI pn) (nI wn) th)) [0, 1, 2, 3, 4, 5, 6, 7, 8] rfl
  refine x_ri (W.runV (As := [.int (nI a)]) (rest := [.ref mo]) ⟨hx, hb, hml, hown, hts⟩ (m_isVertex l dG cI cJ mo mN mD mP mH mR mQ mF mO near n ec bt dis par hubs rnks que far frm vi cu pu pn wn th (by omega) (nI a)) (cwV 1 hts gX4_addEdge_X4_isVertex rfl rfl rfl (by decide +kernel) ⟨Nat.le_of_ble_eq_true rfl, Nat.le_of_ble_eq_true rfl⟩) (RPc.pre hPc hK (va_recv hK.1 hPc (ci := 4) (q0 := 0) rfl rfl)) rfl rfl hl.1 rfl (lv_room (Nat.le_of_ble_eq_true rfl)) dX4_addEdge_3 ⟨Nat.zero_le _, Nat.zero_le _⟩) ?_
  refine x_ifeqB (tgt := 17) hx hb dX4_addEdge_6 (by decide) (fun c6 => ?_) (fun c6 => ?_)
  · skip
    rw [inV_nI (by omega), decide_eq_true ha] at c6; cases c6
  · skip
    refine lv_aload_n hx hb dX4_addEdge_9 rfl (lv_at hl 0 rfl) ?_
    refine lv_iload_n hx hb dX4_addEdge_10 rfl (lv_at hl 2 rfl) ?_
    have hPc := hP.sub (ws' := (MW cI cJ mo mN mD mP mH mR mQ mF mO near (nI n) (nI ec) (bI bt) dis par hubs rnks que far frm (nI vi) (nI cu) (nI pu) (nI pn) (nI wn) th)) [0, 1, 2, 3, 4, 5, 6, 7, 8] rfl
    refine x_ri (W.runV (As := [.int (nI b)]) (rest := [.ref mo]) ⟨hx, hb, hml, hown, hts⟩ (m_isVertex l dG cI cJ mo mN mD mP mH mR mQ mF mO near n ec bt dis par hubs rnks que far frm vi cu pu pn wn th (by omega) (nI b)) (cwV 1 hts gX4_addEdge_X4_isVertex rfl rfl rfl (by decide +kernel) ⟨Nat.le_of_ble_eq_true rfl, Nat.le_of_ble_eq_true rfl⟩) (RPc.pre hPc hK (va_recv hK.1 hPc (ci := 4) (q0 := 0) rfl rfl)) rfl rfl hl.1 rfl (lv_room (Nat.le_of_ble_eq_true rfl)) dX4_addEdge_11 ⟨Nat.zero_le _, Nat.zero_le _⟩) ?_
    refine x_ifneB (tgt := 21) hx hb dX4_addEdge_14 (by decide) (fun c14 => ?_) (fun c14 => ?_)
    · skip
      refine lv_iload_n hx hb dX4_addEdge_21 rfl (lv_at hl 1 rfl) ?_
      refine lv_iload_n hx hb dX4_addEdge_22 rfl (lv_at hl 2 rfl) ?_
      refine x_icmp_eqN (i := a) (j := b) (tgt := 35) hx hb (by omega) (by omega) dX4_addEdge_23 (by decide) (fun c23 => ?_) (fun c23 => ?_)
      · skip
        refine lv_iconst (v := (nI 2)) hx hb dX4_addEdge_35 (by decide) ?_
        refine lv_goto (tgt := 40) hx hb dX4_addEdge_36 (by decide) ?_
        have hPc : va_P dG vwCl (MW cI cJ mo mN mD mP mH mR mQ mF mO near (nI n) (nI ec) (bI bt) dis par hubs rnks que far frm (nI vi) (nI cu) (nI pu) (nI pn) (nI wn) th ++ X) s.heap := hP
        have hDc : va_D A (MW cI cJ mo mN mD mP mH mR mQ mF mO near (nI n) (nI ec) (bI bt) dis par hubs rnks que far frm (nI vi) (nI cu) (nI pu) (nI pn) (nI wn) th ++ X) := hD
        refine va_calli (va_runV (As := [.int (nI 2)]) (rest := []) ⟨hx, hb, hml, hown, hts⟩ (m_goes l dG cI cJ A mo mN mD mP mH mR mQ mF mO near n ec bt dis par hubs rnks que far frm vi cu pu pn wn th 2 (by omega) _) (cwV 1 hts gX4_addEdge_X4_goes rfl rfl rfl (by decide +kernel) ⟨Nat.le_of_ble_eq_true rfl, Nat.le_of_ble_eq_true rfl⟩) (WPc.pre hPc hDc hK (va_recv hK.1 hPc (ci := 4) (q0 := 0) rfl rfl)) rfl rfl hl.1 rfl (lv_room (Nat.le_of_ble_eq_true rfl)) dX4_addEdge_40 ⟨Nat.zero_le _, Nat.zero_le _⟩) hS (fun q _ h => h) (fun q h => h) (fun r9 u9 t H locs ht hvm hw hB hz1 hk1 hS => ?_)
        obtain ⟨hP, hD⟩ := hB
        rw [ht] at hP
        have hP : va_P dG vwCl (MW cI cJ mo mN mD mP mH mR mQ mF mO near (nI n) (nI ec) (bI bt) dis par hubs rnks que far frm (nI vi) (nI cu) (nI pu) (nI pn) (nI wn) (nI 2) ++ X) H := hP
        have hD : va_D A (MW cI cJ mo mN mD mP mH mR mQ mF mO near (nI n) (nI ec) (bI bt) dis par hubs rnks que far frm (nI vi) (nI cu) (nI pu) (nI pn) (nI wn) (nI 2) ++ X) := hD
        rw [show r9 = bI false from hw]
        refine x_ifneB (tgt := 48) hx hb dX4_addEdge_43 (by decide) (fun h9 => absurd h9 (by decide)) (fun h9 => ?_)
        refine lv_iconst (v := (nI 0)) hx hb dX4_addEdge_46 (by decide) ?_
        exact W.iret (v := (nI 0)) hx hb hr (fun t ht hW => ⟨⟨_, (), rfl, rfl, by rw [ht]; exact hP, hD⟩, hS.F ht⟩) hS.2.2 dX4_addEdge_47
      · skip
        refine lv_aload_n hx hb dX4_addEdge_26 rfl (lv_at hl 0 rfl) ?_
        refine lv_iload_n hx hb dX4_addEdge_27 rfl (lv_at hl 1 rfl) ?_
        refine lv_iload_n hx hb dX4_addEdge_28 rfl (lv_at hl 2 rfl) ?_
        have hPc := hP.sub (ws' := (MW cI cJ mo mN mD mP mH mR mQ mF mO near (nI n) (nI ec) (bI bt) dis par hubs rnks que far frm (nI vi) (nI cu) (nI pu) (nI pn) (nI wn) th)) [0, 1, 2, 3, 4, 5, 6, 7, 8] rfl
        refine x_ri (W.runV (As := [.int (nI a), .int (nI b)]) (rest := [.ref mo]) ⟨hx, hb, hml, hown, hts⟩ (m_isEdge l dG cI cJ mo mN mD mP mH mR mQ mF mO near n ec bt dis par hubs rnks que far frm vi cu pu pn wn th a b (by omega) (by omega)) (cwV 2 hts gX4_addEdge_X4_isEdge rfl rfl rfl (by decide +kernel) ⟨Nat.le_of_ble_eq_true rfl, Nat.le_of_ble_eq_true rfl⟩) (RPc.pre hPc hK (va_recv hK.1 hPc (ci := 4) (q0 := 0) rfl rfl)) rfl rfl hl.1 rfl (lv_room (Nat.le_of_ble_eq_true rfl)) dX4_addEdge_29 ⟨Nat.zero_le _, Nat.zero_le _⟩) ?_
        refine x_ifeqB (tgt := 39) hx hb dX4_addEdge_32 (by decide) (fun c32 => ?_) (fun c32 => ?_)
        · skip
          exact absurd h9 (fun q => q.elim c23 (fun z => by rw [c32] at z; cases z))
        · skip
          refine lv_iconst (v := (nI 2)) hx hb dX4_addEdge_35 (by decide) ?_
          refine lv_goto (tgt := 40) hx hb dX4_addEdge_36 (by decide) ?_
          have hPc : va_P dG vwCl (MW cI cJ mo mN mD mP mH mR mQ mF mO near (nI n) (nI ec) (bI bt) dis par hubs rnks que far frm (nI vi) (nI cu) (nI pu) (nI pn) (nI wn) th ++ X) s.heap := hP
          have hDc : va_D A (MW cI cJ mo mN mD mP mH mR mQ mF mO near (nI n) (nI ec) (bI bt) dis par hubs rnks que far frm (nI vi) (nI cu) (nI pu) (nI pn) (nI wn) th ++ X) := hD
          refine va_calli (va_runV (As := [.int (nI 2)]) (rest := []) ⟨hx, hb, hml, hown, hts⟩ (m_goes l dG cI cJ A mo mN mD mP mH mR mQ mF mO near n ec bt dis par hubs rnks que far frm vi cu pu pn wn th 2 (by omega) _) (cwV 1 hts gX4_addEdge_X4_goes rfl rfl rfl (by decide +kernel) ⟨Nat.le_of_ble_eq_true rfl, Nat.le_of_ble_eq_true rfl⟩) (WPc.pre hPc hDc hK (va_recv hK.1 hPc (ci := 4) (q0 := 0) rfl rfl)) rfl rfl hl.1 rfl (lv_room (Nat.le_of_ble_eq_true rfl)) dX4_addEdge_40 ⟨Nat.zero_le _, Nat.zero_le _⟩) hS (fun q _ h => h) (fun q h => h) (fun r9 u9 t H locs ht hvm hw hB hz1 hk1 hS => ?_)
          obtain ⟨hP, hD⟩ := hB
          rw [ht] at hP
          have hP : va_P dG vwCl (MW cI cJ mo mN mD mP mH mR mQ mF mO near (nI n) (nI ec) (bI bt) dis par hubs rnks que far frm (nI vi) (nI cu) (nI pu) (nI pn) (nI wn) (nI 2) ++ X) H := hP
          have hD : va_D A (MW cI cJ mo mN mD mP mH mR mQ mF mO near (nI n) (nI ec) (bI bt) dis par hubs rnks que far frm (nI vi) (nI cu) (nI pu) (nI pn) (nI wn) (nI 2) ++ X) := hD
          rw [show r9 = bI false from hw]
          refine x_ifneB (tgt := 48) hx hb dX4_addEdge_43 (by decide) (fun h9 => absurd h9 (by decide)) (fun h9 => ?_)
          refine lv_iconst (v := (nI 0)) hx hb dX4_addEdge_46 (by decide) ?_
          exact W.iret (v := (nI 0)) hx hb hr (fun t ht hW => ⟨⟨_, (), rfl, rfl, by rw [ht]; exact hP, hD⟩, hS.F ht⟩) hS.2.2 dX4_addEdge_47
    · skip
      rw [inV_nI (by omega), decide_eq_true hbn] at c14; cases c14

set_option maxHeartbeats 4000000 in
set_option maxRecDepth 100000 in
/-- reference: addEdge -/
theorem m_addEdgeU (l : Launch) (dG : va_G) (cI cJ : ClassId) (A : Nat → Prop) (mo mN mD mP mH mR mQ mF mO : Nat) (near : Nat → Int64) (n ec : Nat) (bt : Bool) (dis par hubs rnks que far frm : Nat → Int32) (vi cu pu pn wn : Nat) (th : Int32) (hn : n ≤ 48) (a b : Nat) (ha : a < n) (hbn : b < n) (hne2 : a ≠ b) (hed : gb (near a) b = false) (hbt : bt = false) (X : va_W) : Met l yX4_addEdge wsX4_addEdge ({ frames := 5, cells := 0, slots := 0, locals := 133 } : Room) (WPc dG cI cJ [.ref mo, .int (nI a), .int (nI b)] (MW cI cJ mo mN mD mP mH mR mQ mF mO near (nI n) (nI ec) (bI bt) dis par hubs rnks que far frm (nI vi) (nI cu) (nI pu) (nI pn) (nI wn) th ++ X) A) (va_Qi (S := Unit) (fun r _ => r = nI 0) (fun _ => WB dG A (MW cI cJ mo mN mD mP mH mR mQ mF mO (jn near a b) (nI n) (nI (ec + 1)) (bI bt) dis par hubs rnks que far frm (nI vi) (nI cu) (nI pu) (nI pn) (nI wn) (nI 0) ++ X)) A) 0 0 A := by
  refine Met.ofW (cc := cX4_addEdge) (maxL := 3) (ret := (some .int)) (by decide) rfl ?_
  intro p e s m args below meth c s₁ B9 hml hv
  obtain ⟨rfl, hP, hK, hD⟩ := hv
  have hx := B9.exec
  have hb := B9.bytes
  have hr := B9.returns
  have hts := atoms_spec (ws := wsX4_addEdge) B9.pre
  have hown : s.vm.findClass RX4 = some m.cls := findClass_of_methodNamed B9.named
  have hlocks := B9.notSynchronized
  have hS : va_S A s.heap s.heap [] := va_S.rf
  have hl := lv_entry ([.ref mo, .int (nI a), .int (nI b)]) (n := 3) (Nat.le_of_ble_eq_true rfl)
  rw [lg_entry_eq]
  generalize (lg_sl ([.ref mo, .int (nI a), .int (nI b)]) ++ List.replicate (3 - (lg_sl ([.ref mo, .int (nI a), .int (nI b)])).length) Slot.unset).toArray = ls at hl ⊢
  have hl : lv_has ls 3 [(0, .ref mo), (1, .int (nI a)), (2, .int (nI b))] := hl
  have hiX4 : ∀ w ∈ wsX40, w ∈ wsX4_addEdge := by decide +kernel
  have hf7 := hts (.fieldLink RX4 7 "LandmarkLeaModel" "near" "[J") (by decide +kernel)
  have hf54 := hts (.fieldLink RX4 54 "LandmarkLeaModel" "visits" "I") (by decide +kernel)
  have hf91 := hts (.fieldLink RX4 91 "LandmarkLeaModel" "isBuilt" "Z") (by decide +kernel)
  have hf108 := hts (.fieldLink RX4 108 "LandmarkLeaModel" "edges" "I") (by decide +kernel)
  refine lv_aload_n hx hb dX4_addEdge_0 rfl (lv_at hl 0 rfl) ?_
  refine lv_aload_n hx hb dX4_addEdge_1 rfl (lv_at hl 0 rfl) ?_
  refine lv_iload_n hx hb dX4_addEdge_2 rfl (lv_at hl 1 rfl) ?_
  have hPc := hP.sub (ws' := (MW cI cJ mo mN mD mP mH mR mQ mF mO near (nI n) (nI ec) (bI bt) dis par hubs rnks que far frm (nI vi) (nI cu) (nI pu) (nI pn) (nI wn) th)) [0, 1, 2, 3, 4, 5, 6, 7, 8] rfl
  refine x_ri (W.runV (As := [.int (nI a)]) (rest := [.ref mo]) ⟨hx, hb, hml, hown, hts⟩ (m_isVertex l dG cI cJ mo mN mD mP mH mR mQ mF mO near n ec bt dis par hubs rnks que far frm vi cu pu pn wn th (by omega) (nI a)) (cwV 1 hts gX4_addEdge_X4_isVertex rfl rfl rfl (by decide +kernel) ⟨Nat.le_of_ble_eq_true rfl, Nat.le_of_ble_eq_true rfl⟩) (RPc.pre hPc hK (va_recv hK.1 hPc (ci := 4) (q0 := 0) rfl rfl)) rfl rfl hl.1 rfl (lv_room (Nat.le_of_ble_eq_true rfl)) dX4_addEdge_3 ⟨Nat.zero_le _, Nat.zero_le _⟩) ?_
  refine x_ifeqB (tgt := 17) hx hb dX4_addEdge_6 (by decide) (fun c6 => ?_) (fun c6 => ?_)
  · skip
    rw [inV_nI (by omega), decide_eq_true ha] at c6; cases c6
  · skip
    refine lv_aload_n hx hb dX4_addEdge_9 rfl (lv_at hl 0 rfl) ?_
    refine lv_iload_n hx hb dX4_addEdge_10 rfl (lv_at hl 2 rfl) ?_
    have hPc := hP.sub (ws' := (MW cI cJ mo mN mD mP mH mR mQ mF mO near (nI n) (nI ec) (bI bt) dis par hubs rnks que far frm (nI vi) (nI cu) (nI pu) (nI pn) (nI wn) th)) [0, 1, 2, 3, 4, 5, 6, 7, 8] rfl
    refine x_ri (W.runV (As := [.int (nI b)]) (rest := [.ref mo]) ⟨hx, hb, hml, hown, hts⟩ (m_isVertex l dG cI cJ mo mN mD mP mH mR mQ mF mO near n ec bt dis par hubs rnks que far frm vi cu pu pn wn th (by omega) (nI b)) (cwV 1 hts gX4_addEdge_X4_isVertex rfl rfl rfl (by decide +kernel) ⟨Nat.le_of_ble_eq_true rfl, Nat.le_of_ble_eq_true rfl⟩) (RPc.pre hPc hK (va_recv hK.1 hPc (ci := 4) (q0 := 0) rfl rfl)) rfl rfl hl.1 rfl (lv_room (Nat.le_of_ble_eq_true rfl)) dX4_addEdge_11 ⟨Nat.zero_le _, Nat.zero_le _⟩) ?_
    refine x_ifneB (tgt := 21) hx hb dX4_addEdge_14 (by decide) (fun c14 => ?_) (fun c14 => ?_)
    · skip
      refine lv_iload_n hx hb dX4_addEdge_21 rfl (lv_at hl 1 rfl) ?_
      refine lv_iload_n hx hb dX4_addEdge_22 rfl (lv_at hl 2 rfl) ?_
      refine x_icmp_eqN (i := a) (j := b) (tgt := 35) hx hb (by omega) (by omega) dX4_addEdge_23 (by decide) (fun c23 => ?_) (fun c23 => ?_)
      · skip
        exact absurd c23 hne2
      · skip
        refine lv_aload_n hx hb dX4_addEdge_26 rfl (lv_at hl 0 rfl) ?_
        refine lv_iload_n hx hb dX4_addEdge_27 rfl (lv_at hl 1 rfl) ?_
        refine lv_iload_n hx hb dX4_addEdge_28 rfl (lv_at hl 2 rfl) ?_
        have hPc := hP.sub (ws' := (MW cI cJ mo mN mD mP mH mR mQ mF mO near (nI n) (nI ec) (bI bt) dis par hubs rnks que far frm (nI vi) (nI cu) (nI pu) (nI pn) (nI wn) th)) [0, 1, 2, 3, 4, 5, 6, 7, 8] rfl
        refine x_ri (W.runV (As := [.int (nI a), .int (nI b)]) (rest := [.ref mo]) ⟨hx, hb, hml, hown, hts⟩ (m_isEdge l dG cI cJ mo mN mD mP mH mR mQ mF mO near n ec bt dis par hubs rnks que far frm vi cu pu pn wn th a b (by omega) (by omega)) (cwV 2 hts gX4_addEdge_X4_isEdge rfl rfl rfl (by decide +kernel) ⟨Nat.le_of_ble_eq_true rfl, Nat.le_of_ble_eq_true rfl⟩) (RPc.pre hPc hK (va_recv hK.1 hPc (ci := 4) (q0 := 0) rfl rfl)) rfl rfl hl.1 rfl (lv_room (Nat.le_of_ble_eq_true rfl)) dX4_addEdge_29 ⟨Nat.zero_le _, Nat.zero_le _⟩) ?_
        refine x_ifeqB (tgt := 39) hx hb dX4_addEdge_32 (by decide) (fun c32 => ?_) (fun c32 => ?_)
        · skip
          refine lv_iconst (v := (nI 0)) hx hb dX4_addEdge_39 (by decide) ?_
          have hPc : va_P dG vwCl (MW cI cJ mo mN mD mP mH mR mQ mF mO near (nI n) (nI ec) (bI bt) dis par hubs rnks que far frm (nI vi) (nI cu) (nI pu) (nI pn) (nI wn) th ++ X) s.heap := hP
          have hDc : va_D A (MW cI cJ mo mN mD mP mH mR mQ mF mO near (nI n) (nI ec) (bI bt) dis par hubs rnks que far frm (nI vi) (nI cu) (nI pu) (nI pn) (nI wn) th ++ X) := hD
          refine va_calli (va_runV (As := [.int (nI 0)]) (rest := []) ⟨hx, hb, hml, hown, hts⟩ (m_goes l dG cI cJ A mo mN mD mP mH mR mQ mF mO near n ec bt dis par hubs rnks que far frm vi cu pu pn wn th 0 (by omega) _) (cwV 1 hts gX4_addEdge_X4_goes rfl rfl rfl (by decide +kernel) ⟨Nat.le_of_ble_eq_true rfl, Nat.le_of_ble_eq_true rfl⟩) (WPc.pre hPc hDc hK (va_recv hK.1 hPc (ci := 4) (q0 := 0) rfl rfl)) rfl rfl hl.1 rfl (lv_room (Nat.le_of_ble_eq_true rfl)) dX4_addEdge_40 ⟨Nat.zero_le _, Nat.zero_le _⟩) hS (fun q _ h => h) (fun q h => h) (fun r9 u9 t H locs ht hvm hw hB hz1 hk1 hS => ?_)
          obtain ⟨hP, hD⟩ := hB
          rw [ht] at hP
          have hP : va_P dG vwCl (MW cI cJ mo mN mD mP mH mR mQ mF mO near (nI n) (nI ec) (bI bt) dis par hubs rnks que far frm (nI vi) (nI cu) (nI pu) (nI pn) (nI wn) (nI 0) ++ X) H := hP
          have hD : va_D A (MW cI cJ mo mN mD mP mH mR mQ mF mO near (nI n) (nI ec) (bI bt) dis par hubs rnks que far frm (nI vi) (nI cu) (nI pu) (nI pn) (nI wn) (nI 0) ++ X) := hD
          rw [show r9 = bI true from hw]
          refine x_ifneB (tgt := 48) hx hb dX4_addEdge_43 (by decide) (fun h9 => ?_) (fun h9 => absurd h9 (by decide))
          refine lv_aload_n hx hb dX4_addEdge_48 rfl (lv_at hl 0 rfl) ?_
          refine va_get (D := dG) (ci := 4) (v := .ref mN) (C := RX4) (T := TX4) (N := 17) hx hb hts hiX4 hown hK.1 hP 0 rfl rfl 0 (by decide) hf7 (fun _ h9 => h9) rfl dX4_addEdge_49 ?_
          refine lv_iload_n hx hb dX4_addEdge_52 rfl (lv_at hl 1 rfl) ?_
          refine lv_dup2_11 hx hb dX4_addEdge_53 rfl rfl ?_
          refine x_lald (f := near) hx hb hK hP 1 rfl (by omega) (by decide) dX4_addEdge_54 ?_
          refine lv_lconst (v := 1) hx hb dX4_addEdge_55 rfl ?_
          refine lv_iload_n hx hb dX4_addEdge_56 rfl (lv_at hl 2 rfl) ?_
          refine lv_lshl (v := (1 <<< ((nI b).toInt64 &&& 63))) hx hb dX4_addEdge_57 rfl ?_
          refine lv_lor hx hb dX4_addEdge_58 ?_
          refine x_last (f := near) hx hb hK hP hD hS 1 rfl (by omega) (by decide) dX4_addEdge_59 (fun H locs hP hD hS => ?_)
          have hP : va_P dG vwCl (MW cI cJ mo mN mD mP mH mR mQ mF mO (vp_updL near a ((near a) ||| (1 <<< ((nI b).toInt64 &&& 63)))) (nI n) (nI ec) (bI bt) dis par hubs rnks que far frm (nI vi) (nI cu) (nI pu) (nI pn) (nI wn) (nI 0) ++ X) H := hP
          have hD : va_D A (MW cI cJ mo mN mD mP mH mR mQ mF mO (vp_updL near a ((near a) ||| (1 <<< ((nI b).toInt64 &&& 63)))) (nI n) (nI ec) (bI bt) dis par hubs rnks que far frm (nI vi) (nI cu) (nI pu) (nI pn) (nI wn) (nI 0) ++ X) := hD
          refine lv_aload_n hx hb dX4_addEdge_60 rfl (lv_at hl 0 rfl) ?_
          refine va_get (D := dG) (ci := 4) (v := .ref mN) (C := RX4) (T := TX4) (N := 17) hx hb hts hiX4 hown hK.1 hP 0 rfl rfl 0 (by decide) hf7 (fun _ h9 => h9) rfl dX4_addEdge_61 ?_
          refine lv_iload_n hx hb dX4_addEdge_64 rfl (lv_at hl 2 rfl) ?_
          refine lv_dup2_11 hx hb dX4_addEdge_65 rfl rfl ?_
          refine x_lald (f := (vp_updL near a ((near a) ||| (1 <<< ((nI b).toInt64 &&& 63))))) hx hb hK hP 1 rfl (by omega) (by decide) dX4_addEdge_66 ?_
          refine lv_lconst (v := 1) hx hb dX4_addEdge_67 rfl ?_
          refine lv_iload_n hx hb dX4_addEdge_68 rfl (lv_at hl 1 rfl) ?_
          refine lv_lshl (v := (1 <<< ((nI a).toInt64 &&& 63))) hx hb dX4_addEdge_69 rfl ?_
          refine lv_lor hx hb dX4_addEdge_70 ?_
          refine x_last (f := (vp_updL near a ((near a) ||| (1 <<< ((nI b).toInt64 &&& 63))))) hx hb hK hP hD hS 1 rfl (by omega) (by decide) dX4_addEdge_71 (fun H locs hP hD hS => ?_)
          have hP : va_P dG vwCl (MW cI cJ mo mN mD mP mH mR mQ mF mO (vp_updL (vp_updL near a ((near a) ||| (1 <<< ((nI b).toInt64 &&& 63)))) b (((vp_updL near a ((near a) ||| (1 <<< ((nI b).toInt64 &&& 63)))) b) ||| (1 <<< ((nI a).toInt64 &&& 63)))) (nI n) (nI ec) (bI bt) dis par hubs rnks que far frm (nI vi) (nI cu) (nI pu) (nI pn) (nI wn) (nI 0) ++ X) H := hP
          have hD : va_D A (MW cI cJ mo mN mD mP mH mR mQ mF mO (vp_updL (vp_updL near a ((near a) ||| (1 <<< ((nI b).toInt64 &&& 63)))) b (((vp_updL near a ((near a) ||| (1 <<< ((nI b).toInt64 &&& 63)))) b) ||| (1 <<< ((nI a).toInt64 &&& 63)))) (nI n) (nI ec) (bI bt) dis par hubs rnks que far frm (nI vi) (nI cu) (nI pu) (nI pn) (nI wn) (nI 0) ++ X) := hD
          refine lv_aload_n hx hb dX4_addEdge_72 rfl (lv_at hl 0 rfl) ?_
          refine lv_dup hx hb dX4_addEdge_73 rfl ?_
          refine va_get (D := dG) (ci := 4) (v := .int (nI ec)) (C := RX4) (T := TX4) (N := 17) hx hb hts hiX4 hown hK.1 hP 0 rfl rfl 2 (by decide) hf108 (fun _ h9 => h9) rfl dX4_addEdge_74 ?_
          refine lv_iconst (v := (nI 1)) hx hb dX4_addEdge_77 (by decide) ?_
          refine x_addN (i := ec) (j := 1) hx hb dX4_addEdge_78 ?_
          refine va_put (D := dG) (ci := 4) (v := .int (nI (ec + 1))) (ty := .int) (C := RX4) (T := TX4) (N := 17) hx hb hts hiX4 tyX4 tyX4_ok nmX4 hown hK.1 hP hD hS 0 rfl rfl 2 (by decide) hf108 (fun _ h9 => h9) rfl (by decide +kernel) rfl rfl (Nat.le_of_ble_eq_true rfl) dX4_addEdge_79 (fun H locs hP hD hS => ?_)
          have hP : va_P dG vwCl (MW cI cJ mo mN mD mP mH mR mQ mF mO (vp_updL (vp_updL near a ((near a) ||| (1 <<< ((nI b).toInt64 &&& 63)))) b (((vp_updL near a ((near a) ||| (1 <<< ((nI b).toInt64 &&& 63)))) b) ||| (1 <<< ((nI a).toInt64 &&& 63)))) (nI n) (nI (ec + 1)) (bI bt) dis par hubs rnks que far frm (nI vi) (nI cu) (nI pu) (nI pn) (nI wn) (nI 0) ++ X) H := hP
          have hD : va_D A (MW cI cJ mo mN mD mP mH mR mQ mF mO (vp_updL (vp_updL near a ((near a) ||| (1 <<< ((nI b).toInt64 &&& 63)))) b (((vp_updL near a ((near a) ||| (1 <<< ((nI b).toInt64 &&& 63)))) b) ||| (1 <<< ((nI a).toInt64 &&& 63)))) (nI n) (nI (ec + 1)) (bI bt) dis par hubs rnks que far frm (nI vi) (nI cu) (nI pu) (nI pn) (nI wn) (nI 0) ++ X) := hD
          refine lv_aload_n hx hb dX4_addEdge_82 rfl (lv_at hl 0 rfl) ?_
          refine va_get (D := dG) (ci := 4) (v := .int (bI bt)) (C := RX4) (T := TX4) (N := 17) hx hb hts hiX4 hown hK.1 hP 0 rfl rfl 3 (by decide) hf91 (fun _ h9 => h9) rfl dX4_addEdge_83 ?_
          refine x_ifneB (tgt := 91) hx hb dX4_addEdge_86 (by decide) (fun c86 => ?_) (fun c86 => ?_)
          · skip
            rw [hbt] at c86; cases c86
          · skip
            refine lv_iconst (v := (nI 0)) hx hb dX4_addEdge_89 (by decide) ?_
            exact W.iret (v := (nI 0)) hx hb hr (fun t ht hW => ⟨⟨_, (), rfl, rfl, by rw [ht]; exact hP, hD⟩, hS.F ht⟩) hS.2.2 dX4_addEdge_90
        · skip
          rw [hed] at c32; cases c32
    · skip
      rw [inV_nI (by omega), decide_eq_true hbn] at c14; cases c14

set_option maxHeartbeats 4000000 in
set_option maxRecDepth 100000 in
/-- reference: addEdge -/
theorem m_addEdgeB (l : Launch) (dG : va_G) (cI cJ : ClassId) (A : Nat → Prop) (mo mN mD mP mH mR mQ mF mO : Nat) (near : Nat → Int64) (n ec : Nat) (bt : Bool) (dis par hubs rnks que far frm : Nat → Int32) (vi cu pu pn wn : Nat) (th : Int32) (hn : n ≤ 48) (a b : Nat) (ha : a < n) (hbn : b < n) (hne2 : a ≠ b) (hed : gb (near a) b = false) (hbt : bt = true) (L P : Nat → Nat → Option Nat) (B : Nat) (hR : RepM 0 L P dis par) (hL : LBd L B) (hB3 : B + 4704 ≤ 2 ^ 30) (hb0 : Nat → Nat) (hhb : ∀ k, k < n → hb0 k < n ∧ hubs k = nI (hb0 k)) (F : BT) (hF : ex (jn near a b) n hb0 a b L P n = F) (X : va_W) : Met l yX4_addEdge wsX4_addEdge ({ frames := 5, cells := 0, slots := 0, locals := 133 } : Room) (WPc dG cI cJ [.ref mo, .int (nI a), .int (nI b)] (MW cI cJ mo mN mD mP mH mR mQ mF mO near (nI n) (nI ec) (bI bt) dis par hubs rnks que far frm (nI vi) (nI cu) (nI pu) (nI pn) (nI wn) th ++ X) A) (va_Qi (S := (Nat → Int32) × (Nat → Int32) × (Nat → Int32) × (Nat → Int32) × (Nat → Int32)) (fun r u => r = nI F.2.2.1 ∧ RepM 0 F.1 F.2.1 u.1 u.2.1) (fun u => WB dG A (MW cI cJ mo mN mD mP mH mR mQ mF mO (jn near a b) (nI n) (nI (ec + 1)) (bI bt) u.1 u.2.1 hubs rnks u.2.2.1 u.2.2.2.1 u.2.2.2.2 (nI F.2.2.1) (nI F.2.2.2.1) (nI F.2.2.2.2) (nI F.2.2.2.1) (nI F.2.2.2.2) (nI 0) ++ X)) A) 0 0 A := by
  refine Met.ofW (cc := cX4_addEdge) (maxL := 3) (ret := (some .int)) (by decide) rfl ?_
  intro p e s m args below meth c s₁ B9 hml hv
  obtain ⟨rfl, hP, hK, hD⟩ := hv
  have hx := B9.exec
  have hb := B9.bytes
  have hr := B9.returns
  have hts := atoms_spec (ws := wsX4_addEdge) B9.pre
  have hown : s.vm.findClass RX4 = some m.cls := findClass_of_methodNamed B9.named
  have hlocks := B9.notSynchronized
  have hS : va_S A s.heap s.heap [] := va_S.rf
  have hl := lv_entry ([.ref mo, .int (nI a), .int (nI b)]) (n := 3) (Nat.le_of_ble_eq_true rfl)
  rw [lg_entry_eq]
  generalize (lg_sl ([.ref mo, .int (nI a), .int (nI b)]) ++ List.replicate (3 - (lg_sl ([.ref mo, .int (nI a), .int (nI b)])).length) Slot.unset).toArray = ls at hl ⊢
  have hl : lv_has ls 3 [(0, .ref mo), (1, .int (nI a)), (2, .int (nI b))] := hl
  have hiX4 : ∀ w ∈ wsX40, w ∈ wsX4_addEdge := by decide +kernel
  have hf7 := hts (.fieldLink RX4 7 "LandmarkLeaModel" "near" "[J") (by decide +kernel)
  have hf54 := hts (.fieldLink RX4 54 "LandmarkLeaModel" "visits" "I") (by decide +kernel)
  have hf91 := hts (.fieldLink RX4 91 "LandmarkLeaModel" "isBuilt" "Z") (by decide +kernel)
  have hf108 := hts (.fieldLink RX4 108 "LandmarkLeaModel" "edges" "I") (by decide +kernel)
  refine lv_aload_n hx hb dX4_addEdge_0 rfl (lv_at hl 0 rfl) ?_
  refine lv_aload_n hx hb dX4_addEdge_1 rfl (lv_at hl 0 rfl) ?_
  refine lv_iload_n hx hb dX4_addEdge_2 rfl (lv_at hl 1 rfl) ?_
  have hPc := hP.sub (ws' := (MW cI cJ mo mN mD mP mH mR mQ mF mO near (nI n) (nI ec) (bI bt) dis par hubs rnks que far frm (nI vi) (nI cu) (nI pu) (nI pn) (nI wn) th)) [0, 1, 2, 3, 4, 5, 6, 7, 8] rfl
  refine x_ri (W.runV (As := [.int (nI a)]) (rest := [.ref mo]) ⟨hx, hb, hml, hown, hts⟩ (m_isVertex l dG cI cJ mo mN mD mP mH mR mQ mF mO near n ec bt dis par hubs rnks que far frm vi cu pu pn wn th (by omega) (nI a)) (cwV 1 hts gX4_addEdge_X4_isVertex rfl rfl rfl (by decide +kernel) ⟨Nat.le_of_ble_eq_true rfl, Nat.le_of_ble_eq_true rfl⟩) (RPc.pre hPc hK (va_recv hK.1 hPc (ci := 4) (q0 := 0) rfl rfl)) rfl rfl hl.1 rfl (lv_room (Nat.le_of_ble_eq_true rfl)) dX4_addEdge_3 ⟨Nat.zero_le _, Nat.zero_le _⟩) ?_
  refine x_ifeqB (tgt := 17) hx hb dX4_addEdge_6 (by decide) (fun c6 => ?_) (fun c6 => ?_)
  · skip
    rw [inV_nI (by omega), decide_eq_true ha] at c6; cases c6
  · skip
    refine lv_aload_n hx hb dX4_addEdge_9 rfl (lv_at hl 0 rfl) ?_
    refine lv_iload_n hx hb dX4_addEdge_10 rfl (lv_at hl 2 rfl) ?_
    have hPc := hP.sub (ws' := (MW cI cJ mo mN mD mP mH mR mQ mF mO near (nI n) (nI ec) (bI bt) dis par hubs rnks que far frm (nI vi) (nI cu) (nI pu) (nI pn) (nI wn) th)) [0, 1, 2, 3, 4, 5, 6, 7, 8] rfl
    refine x_ri (W.runV (As := [.int (nI b)]) (rest := [.ref mo]) ⟨hx, hb, hml, hown, hts⟩ (m_isVertex l dG cI cJ mo mN mD mP mH mR mQ mF mO near n ec bt dis par hubs rnks que far frm vi cu pu pn wn th (by omega) (nI b)) (cwV 1 hts gX4_addEdge_X4_isVertex rfl rfl rfl (by decide +kernel) ⟨Nat.le_of_ble_eq_true rfl, Nat.le_of_ble_eq_true rfl⟩) (RPc.pre hPc hK (va_recv hK.1 hPc (ci := 4) (q0 := 0) rfl rfl)) rfl rfl hl.1 rfl (lv_room (Nat.le_of_ble_eq_true rfl)) dX4_addEdge_11 ⟨Nat.zero_le _, Nat.zero_le _⟩) ?_
    refine x_ifneB (tgt := 21) hx hb dX4_addEdge_14 (by decide) (fun c14 => ?_) (fun c14 => ?_)
    · skip
      refine lv_iload_n hx hb dX4_addEdge_21 rfl (lv_at hl 1 rfl) ?_
      refine lv_iload_n hx hb dX4_addEdge_22 rfl (lv_at hl 2 rfl) ?_
      refine x_icmp_eqN (i := a) (j := b) (tgt := 35) hx hb (by omega) (by omega) dX4_addEdge_23 (by decide) (fun c23 => ?_) (fun c23 => ?_)
      · skip
        exact absurd c23 hne2
      · skip
        refine lv_aload_n hx hb dX4_addEdge_26 rfl (lv_at hl 0 rfl) ?_
        refine lv_iload_n hx hb dX4_addEdge_27 rfl (lv_at hl 1 rfl) ?_
        refine lv_iload_n hx hb dX4_addEdge_28 rfl (lv_at hl 2 rfl) ?_
        have hPc := hP.sub (ws' := (MW cI cJ mo mN mD mP mH mR mQ mF mO near (nI n) (nI ec) (bI bt) dis par hubs rnks que far frm (nI vi) (nI cu) (nI pu) (nI pn) (nI wn) th)) [0, 1, 2, 3, 4, 5, 6, 7, 8] rfl
        refine x_ri (W.runV (As := [.int (nI a), .int (nI b)]) (rest := [.ref mo]) ⟨hx, hb, hml, hown, hts⟩ (m_isEdge l dG cI cJ mo mN mD mP mH mR mQ mF mO near n ec bt dis par hubs rnks que far frm vi cu pu pn wn th a b (by omega) (by omega)) (cwV 2 hts gX4_addEdge_X4_isEdge rfl rfl rfl (by decide +kernel) ⟨Nat.le_of_ble_eq_true rfl, Nat.le_of_ble_eq_true rfl⟩) (RPc.pre hPc hK (va_recv hK.1 hPc (ci := 4) (q0 := 0) rfl rfl)) rfl rfl hl.1 rfl (lv_room (Nat.le_of_ble_eq_true rfl)) dX4_addEdge_29 ⟨Nat.zero_le _, Nat.zero_le _⟩) ?_
        refine x_ifeqB (tgt := 39) hx hb dX4_addEdge_32 (by decide) (fun c32 => ?_) (fun c32 => ?_)
        · skip
          refine lv_iconst (v := (nI 0)) hx hb dX4_addEdge_39 (by decide) ?_
          have hPc : va_P dG vwCl (MW cI cJ mo mN mD mP mH mR mQ mF mO near (nI n) (nI ec) (bI bt) dis par hubs rnks que far frm (nI vi) (nI cu) (nI pu) (nI pn) (nI wn) th ++ X) s.heap := hP
          have hDc : va_D A (MW cI cJ mo mN mD mP mH mR mQ mF mO near (nI n) (nI ec) (bI bt) dis par hubs rnks que far frm (nI vi) (nI cu) (nI pu) (nI pn) (nI wn) th ++ X) := hD
          refine va_calli (va_runV (As := [.int (nI 0)]) (rest := []) ⟨hx, hb, hml, hown, hts⟩ (m_goes l dG cI cJ A mo mN mD mP mH mR mQ mF mO near n ec bt dis par hubs rnks que far frm vi cu pu pn wn th 0 (by omega) _) (cwV 1 hts gX4_addEdge_X4_goes rfl rfl rfl (by decide +kernel) ⟨Nat.le_of_ble_eq_true rfl, Nat.le_of_ble_eq_true rfl⟩) (WPc.pre hPc hDc hK (va_recv hK.1 hPc (ci := 4) (q0 := 0) rfl rfl)) rfl rfl hl.1 rfl (lv_room (Nat.le_of_ble_eq_true rfl)) dX4_addEdge_40 ⟨Nat.zero_le _, Nat.zero_le _⟩) hS (fun q _ h => h) (fun q h => h) (fun r9 u9 t H locs ht hvm hw hB hz1 hk1 hS => ?_)
          obtain ⟨hP, hD⟩ := hB
          rw [ht] at hP
          have hP : va_P dG vwCl (MW cI cJ mo mN mD mP mH mR mQ mF mO near (nI n) (nI ec) (bI bt) dis par hubs rnks que far frm (nI vi) (nI cu) (nI pu) (nI pn) (nI wn) (nI 0) ++ X) H := hP
          have hD : va_D A (MW cI cJ mo mN mD mP mH mR mQ mF mO near (nI n) (nI ec) (bI bt) dis par hubs rnks que far frm (nI vi) (nI cu) (nI pu) (nI pn) (nI wn) (nI 0) ++ X) := hD
          rw [show r9 = bI true from hw]
          refine x_ifneB (tgt := 48) hx hb dX4_addEdge_43 (by decide) (fun h9 => ?_) (fun h9 => absurd h9 (by decide))
          refine lv_aload_n hx hb dX4_addEdge_48 rfl (lv_at hl 0 rfl) ?_
          refine va_get (D := dG) (ci := 4) (v := .ref mN) (C := RX4) (T := TX4) (N := 17) hx hb hts hiX4 hown hK.1 hP 0 rfl rfl 0 (by decide) hf7 (fun _ h9 => h9) rfl dX4_addEdge_49 ?_
          refine lv_iload_n hx hb dX4_addEdge_52 rfl (lv_at hl 1 rfl) ?_
          refine lv_dup2_11 hx hb dX4_addEdge_53 rfl rfl ?_
          refine x_lald (f := near) hx hb hK hP 1 rfl (by omega) (by decide) dX4_addEdge_54 ?_
          refine lv_lconst (v := 1) hx hb dX4_addEdge_55 rfl ?_
          refine lv_iload_n hx hb dX4_addEdge_56 rfl (lv_at hl 2 rfl) ?_
          refine lv_lshl (v := (1 <<< ((nI b).toInt64 &&& 63))) hx hb dX4_addEdge_57 rfl ?_
          refine lv_lor hx hb dX4_addEdge_58 ?_
          refine x_last (f := near) hx hb hK hP hD hS 1 rfl (by omega) (by decide) dX4_addEdge_59 (fun H locs hP hD hS => ?_)
          have hP : va_P dG vwCl (MW cI cJ mo mN mD mP mH mR mQ mF mO (vp_updL near a ((near a) ||| (1 <<< ((nI b).toInt64 &&& 63)))) (nI n) (nI ec) (bI bt) dis par hubs rnks que far frm (nI vi) (nI cu) (nI pu) (nI pn) (nI wn) (nI 0) ++ X) H := hP
          have hD : va_D A (MW cI cJ mo mN mD mP mH mR mQ mF mO (vp_updL near a ((near a) ||| (1 <<< ((nI b).toInt64 &&& 63)))) (nI n) (nI ec) (bI bt) dis par hubs rnks que far frm (nI vi) (nI cu) (nI pu) (nI pn) (nI wn) (nI 0) ++ X) := hD
          refine lv_aload_n hx hb dX4_addEdge_60 rfl (lv_at hl 0 rfl) ?_
          refine va_get (D := dG) (ci := 4) (v := .ref mN) (C := RX4) (T := TX4) (N := 17) hx hb hts hiX4 hown hK.1 hP 0 rfl rfl 0 (by decide) hf7 (fun _ h9 => h9) rfl dX4_addEdge_61 ?_
          refine lv_iload_n hx hb dX4_addEdge_64 rfl (lv_at hl 2 rfl) ?_
          refine lv_dup2_11 hx hb dX4_addEdge_65 rfl rfl ?_
          refine x_lald (f := (vp_updL near a ((near a) ||| (1 <<< ((nI b).toInt64 &&& 63))))) hx hb hK hP 1 rfl (by omega) (by decide) dX4_addEdge_66 ?_
          refine lv_lconst (v := 1) hx hb dX4_addEdge_67 rfl ?_
          refine lv_iload_n hx hb dX4_addEdge_68 rfl (lv_at hl 1 rfl) ?_
          refine lv_lshl (v := (1 <<< ((nI a).toInt64 &&& 63))) hx hb dX4_addEdge_69 rfl ?_
          refine lv_lor hx hb dX4_addEdge_70 ?_
          refine x_last (f := (vp_updL near a ((near a) ||| (1 <<< ((nI b).toInt64 &&& 63))))) hx hb hK hP hD hS 1 rfl (by omega) (by decide) dX4_addEdge_71 (fun H locs hP hD hS => ?_)
          have hP : va_P dG vwCl (MW cI cJ mo mN mD mP mH mR mQ mF mO (vp_updL (vp_updL near a ((near a) ||| (1 <<< ((nI b).toInt64 &&& 63)))) b (((vp_updL near a ((near a) ||| (1 <<< ((nI b).toInt64 &&& 63)))) b) ||| (1 <<< ((nI a).toInt64 &&& 63)))) (nI n) (nI ec) (bI bt) dis par hubs rnks que far frm (nI vi) (nI cu) (nI pu) (nI pn) (nI wn) (nI 0) ++ X) H := hP
          have hD : va_D A (MW cI cJ mo mN mD mP mH mR mQ mF mO (vp_updL (vp_updL near a ((near a) ||| (1 <<< ((nI b).toInt64 &&& 63)))) b (((vp_updL near a ((near a) ||| (1 <<< ((nI b).toInt64 &&& 63)))) b) ||| (1 <<< ((nI a).toInt64 &&& 63)))) (nI n) (nI ec) (bI bt) dis par hubs rnks que far frm (nI vi) (nI cu) (nI pu) (nI pn) (nI wn) (nI 0) ++ X) := hD
          refine lv_aload_n hx hb dX4_addEdge_72 rfl (lv_at hl 0 rfl) ?_
          refine lv_dup hx hb dX4_addEdge_73 rfl ?_
          refine va_get (D := dG) (ci := 4) (v := .int (nI ec)) (C := RX4) (T := TX4) (N := 17) hx hb hts hiX4 hown hK.1 hP 0 rfl rfl 2 (by decide) hf108 (fun _ h9 => h9) rfl dX4_addEdge_74 ?_
          refine lv_iconst (v := (nI 1)) hx hb dX4_addEdge_77 (by decide) ?_
          refine x_addN (i := ec) (j := 1) hx hb dX4_addEdge_78 ?_
          refine va_put (D := dG) (ci := 4) (v := .int (nI (ec + 1))) (ty := .int) (C := RX4) (T := TX4) (N := 17) hx hb hts hiX4 tyX4 tyX4_ok nmX4 hown hK.1 hP hD hS 0 rfl rfl 2 (by decide) hf108 (fun _ h9 => h9) rfl (by decide +kernel) rfl rfl (Nat.le_of_ble_eq_true rfl) dX4_addEdge_79 (fun H locs hP hD hS => ?_)
          have hP : va_P dG vwCl (MW cI cJ mo mN mD mP mH mR mQ mF mO (vp_updL (vp_updL near a ((near a) ||| (1 <<< ((nI b).toInt64 &&& 63)))) b (((vp_updL near a ((near a) ||| (1 <<< ((nI b).toInt64 &&& 63)))) b) ||| (1 <<< ((nI a).toInt64 &&& 63)))) (nI n) (nI (ec + 1)) (bI bt) dis par hubs rnks que far frm (nI vi) (nI cu) (nI pu) (nI pn) (nI wn) (nI 0) ++ X) H := hP
          have hD : va_D A (MW cI cJ mo mN mD mP mH mR mQ mF mO (vp_updL (vp_updL near a ((near a) ||| (1 <<< ((nI b).toInt64 &&& 63)))) b (((vp_updL near a ((near a) ||| (1 <<< ((nI b).toInt64 &&& 63)))) b) ||| (1 <<< ((nI a).toInt64 &&& 63)))) (nI n) (nI (ec + 1)) (bI bt) dis par hubs rnks que far frm (nI vi) (nI cu) (nI pu) (nI pn) (nI wn) (nI 0) ++ X) := hD
          refine lv_aload_n hx hb dX4_addEdge_82 rfl (lv_at hl 0 rfl) ?_
          refine va_get (D := dG) (ci := 4) (v := .int (bI bt)) (C := RX4) (T := TX4) (N := 17) hx hb hts hiX4 hown hK.1 hP 0 rfl rfl 3 (by decide) hf91 (fun _ h9 => h9) rfl dX4_addEdge_83 ?_
          refine x_ifneB (tgt := 91) hx hb dX4_addEdge_86 (by decide) (fun c86 => ?_) (fun c86 => ?_)
          · skip
            refine lv_aload_n hx hb dX4_addEdge_91 rfl (lv_at hl 0 rfl) ?_
            refine lv_iload_n hx hb dX4_addEdge_92 rfl (lv_at hl 1 rfl) ?_
            refine lv_iload_n hx hb dX4_addEdge_93 rfl (lv_at hl 2 rfl) ?_
            have hPc : va_P dG vwCl (MW cI cJ mo mN mD mP mH mR mQ mF mO (vp_updL (vp_updL near a ((near a) ||| (1 <<< ((nI b).toInt64 &&& 63)))) b (((vp_updL near a ((near a) ||| (1 <<< ((nI b).toInt64 &&& 63)))) b) ||| (1 <<< ((nI a).toInt64 &&& 63)))) (nI n) (nI (ec + 1)) (bI bt) dis par hubs rnks que far frm (nI vi) (nI cu) (nI pu) (nI pn) (nI wn) (nI 0) ++ X) H := hP
            have hDc : va_D A (MW cI cJ mo mN mD mP mH mR mQ mF mO (vp_updL (vp_updL near a ((near a) ||| (1 <<< ((nI b).toInt64 &&& 63)))) b (((vp_updL near a ((near a) ||| (1 <<< ((nI b).toInt64 &&& 63)))) b) ||| (1 <<< ((nI a).toInt64 &&& 63)))) (nI n) (nI (ec + 1)) (bI bt) dis par hubs rnks que far frm (nI vi) (nI cu) (nI pu) (nI pn) (nI wn) (nI 0) ++ X) := hD
            refine va_callv (va_runV (As := [.int (nI a), .int (nI b)]) (rest := []) ⟨hx, hb, hml, hown, hts⟩ (m_extendsBy l dG cI cJ A mo mN mD mP mH mR mQ mF mO (vp_updL (vp_updL near a ((near a) ||| (1 <<< ((nI b).toInt64 &&& 63)))) b (((vp_updL near a ((near a) ||| (1 <<< ((nI b).toInt64 &&& 63)))) b) ||| (1 <<< ((nI a).toInt64 &&& 63)))) n (ec + 1) bt dis par hubs rnks que far frm vi cu pu pn wn (nI 0) hn L P B hR hL hB3 hb0 hhb a b ha hbn F hF _) (cwV 2 hts gX4_addEdge_X4_extendsBy rfl rfl rfl (by decide +kernel) ⟨Nat.le_of_ble_eq_true rfl, Nat.le_of_ble_eq_true rfl⟩) (WPc.pre hPc hDc hK (va_recv hK.1 hPc (ci := 4) (q0 := 0) rfl rfl)) rfl rfl hl.1 rfl (lv_room (Nat.le_of_ble_eq_true rfl)) dX4_addEdge_94 ⟨Nat.zero_le _, Nat.zero_le _⟩) hS (fun q _ h => h) (fun q h => h) (fun u t H locs ht hvm hw hB hz1 hk1 hS => ?_)
            obtain ⟨dis, par, que, far, frm⟩ := u
            obtain ⟨hP, hD⟩ := hB
            rw [ht] at hP
            have hP : va_P dG vwCl (MW cI cJ mo mN mD mP mH mR mQ mF mO (jn near a b) (nI n) (nI (ec + 1)) (bI bt) dis par hubs rnks que far frm (nI F.2.2.1) (nI F.2.2.2.1) (nI F.2.2.2.2) (nI F.2.2.2.1) (nI F.2.2.2.2) (nI 0) ++ X) H := hP
            have hD : va_D A (MW cI cJ mo mN mD mP mH mR mQ mF mO (jn near a b) (nI n) (nI (ec + 1)) (bI bt) dis par hubs rnks que far frm (nI F.2.2.1) (nI F.2.2.2.1) (nI F.2.2.2.2) (nI F.2.2.2.1) (nI F.2.2.2.2) (nI 0) ++ X) := hD
            refine lv_aload_n hx hb dX4_addEdge_97 rfl (lv_at hl 0 rfl) ?_
            refine va_get (D := dG) (ci := 4) (v := .int (nI F.2.2.1)) (C := RX4) (T := TX4) (N := 17) hx hb hts hiX4 hown hK.1 hP 0 rfl rfl 11 (by decide) hf54 (fun _ h9 => h9) rfl dX4_addEdge_98 ?_
            exact W.iret (v := (nI F.2.2.1)) hx hb hr (fun t ht hW => ⟨⟨_, (dis, par, que, far, frm), rfl, ⟨rfl, hw⟩, by rw [ht]; exact hP, hD⟩, hS.F ht⟩) hS.2.2 dX4_addEdge_101
          · skip
            rw [hbt] at c86; cases c86
        · skip
          rw [hed] at c32; cases c32
    · skip
      rw [inV_nI (by omega), decide_eq_true hbn] at c14; cases c14

set_option maxHeartbeats 4000000 in
set_option maxRecDepth 100000 in
/-- reference: clear -/
theorem m_clear (l : Launch) (dG : va_G) (cI cJ : ClassId) (A : Nat → Prop) (mo mN mD mP mH mR mQ mF mO : Nat) (near : Nat → Int64) (n ec : Nat) (bt : Bool) (dis par hubs rnks que far frm : Nat → Int32) (vi cu pu pn wn : Nat) (th : Int32) (hn : n ≤ 48) (X : va_W) : Met l yX4_clear wsX4_clear ({ frames := 0, cells := 0, slots := 0, locals := 0 } : Room) (WPc dG cI cJ [.ref mo] (MW cI cJ mo mN mD mP mH mR mQ mF mO near (nI n) (nI ec) (bI bt) dis par hubs rnks que far frm (nI vi) (nI cu) (nI pu) (nI pn) (nI wn) th ++ X) A) (va_Qi (S := Unit) (fun r _ => r = nI ec) (fun _ => WB dG A (MW cI cJ mo mN mD mP mH mR mQ mF mO (cut0 near n) (nI n) (nI 0) (bI false) dis par hubs rnks que far frm (nI vi) (nI cu) (nI pu) (nI 0) (nI 0) (nI 0) ++ X)) A) 0 0 A := by
  refine Met.ofW (cc := cX4_clear) (maxL := 3) (ret := (some .int)) (by decide) rfl ?_
  intro p e s m args below meth c s₁ B9 hml hv
  obtain ⟨rfl, hP, hK, hD⟩ := hv
  have hx := B9.exec
  have hb := B9.bytes
  have hr := B9.returns
  have hts := atoms_spec (ws := wsX4_clear) B9.pre
  have hown : s.vm.findClass RX4 = some m.cls := findClass_of_methodNamed B9.named
  have hlocks := B9.notSynchronized
  have hS : va_S A s.heap s.heap [] := va_S.rf
  have hl := lv_entry ([.ref mo]) (n := 3) (Nat.le_of_ble_eq_true rfl)
  rw [lg_entry_eq]
  generalize (lg_sl ([.ref mo]) ++ List.replicate (3 - (lg_sl ([.ref mo])).length) Slot.unset).toArray = ls at hl ⊢
  have hl : lv_has ls 3 [(0, .ref mo)] := hl
  have hiX4 : ∀ w ∈ wsX40, w ∈ wsX4_clear := by decide +kernel
  have hf7 := hts (.fieldLink RX4 7 "LandmarkLeaModel" "near" "[J") (by decide +kernel)
  have hf35 := hts (.fieldLink RX4 35 "LandmarkLeaModel" "thrown" "I") (by decide +kernel)
  have hf39 := hts (.fieldLink RX4 39 "LandmarkLeaModel" "many" "I") (by decide +kernel)
  have hf85 := hts (.fieldLink RX4 85 "LandmarkLeaModel" "pruned" "I") (by decide +kernel)
  have hf88 := hts (.fieldLink RX4 88 "LandmarkLeaModel" "written" "I") (by decide +kernel)
  have hf91 := hts (.fieldLink RX4 91 "LandmarkLeaModel" "isBuilt" "Z") (by decide +kernel)
  have hf108 := hts (.fieldLink RX4 108 "LandmarkLeaModel" "edges" "I") (by decide +kernel)
  refine lv_aload_n hx hb dX4_clear_0 rfl (lv_at hl 0 rfl) ?_
  refine lv_iconst (v := (nI 0)) hx hb dX4_clear_1 (by decide) ?_
  refine va_put (D := dG) (ci := 4) (v := .int (nI 0)) (ty := .int) (C := RX4) (T := TX4) (N := 17) hx hb hts hiX4 tyX4 tyX4_ok nmX4 hown hK.1 hP hD hS 0 rfl rfl 16 (by decide) hf35 (fun _ h9 => h9) rfl (by decide +kernel) rfl rfl (Nat.le_of_ble_eq_true rfl) dX4_clear_2 (fun H locs hP hD hS => ?_)
  have hP : va_P dG vwCl (MW cI cJ mo mN mD mP mH mR mQ mF mO near (nI n) (nI ec) (bI bt) dis par hubs rnks que far frm (nI vi) (nI cu) (nI pu) (nI pn) (nI wn) (nI 0) ++ X) H := hP
  have hD : va_D A (MW cI cJ mo mN mD mP mH mR mQ mF mO near (nI n) (nI ec) (bI bt) dis par hubs rnks que far frm (nI vi) (nI cu) (nI pu) (nI pn) (nI wn) (nI 0) ++ X) := hD
  refine lv_aload_n hx hb dX4_clear_5 rfl (lv_at hl 0 rfl) ?_
  refine va_get (D := dG) (ci := 4) (v := .int (nI ec)) (C := RX4) (T := TX4) (N := 17) hx hb hts hiX4 hown hK.1 hP 0 rfl rfl 2 (by decide) hf108 (fun _ h9 => h9) rfl dX4_clear_6 ?_
  refine lv_istore_n (lv' := [(1, .int (nI ec)), (0, .ref mo)]) hx hb dX4_clear_9 rfl hl (by decide) rfl (fun ls hl => ?_)
  refine lv_iconst (v := (nI 0)) hx hb dX4_clear_10 (by decide) ?_
  refine lv_istore_n (lv' := [(2, .int (nI 0)), (1, .int (nI ec)), (0, .ref mo)]) hx hb dX4_clear_11 rfl hl (by decide) rfl (fun ls hl => ?_)
  rw [← cut0_0 near] at hP hD
  have loop : ∀ (QQ : State → Prop) (n1 : Nat) (k : Nat), n < k + n1 → k ≤ n → (∀ (H : Heap) (locs : List Loc), va_P dG vwCl (MW cI cJ mo mN mD mP mH mR mQ mF mO (cut0 near n) (nI n) (nI ec) (bI bt) dis par hubs rnks que far frm (nI vi) (nI cu) (nI pu) (nI pn) (nI wn) (nI 0) ++ X) H → va_D A (MW cI cJ mo mN mD mP mH mR mQ mF mO (cut0 near n) (nI n) (nI ec) (bI bt) dis par hubs rnks que far frm (nI vi) (nI cu) (nI pu) (nI pn) (nI wn) (nI 0) ++ X) → va_S A s.heap H locs → ∀ ls : Array Slot, lv_has ls 3 [(0, .ref mo), (1, .int (nI ec)), (2, .int (nI n))] → W p l e ({ frames := 0, cells := 0, slots := 0, locals := 0 } : Room) s m ([.ref mo] : List Value).toArray below meth c H locs 0 0 QQ (F0 m 33 ls [])) → ∀ (H : Heap) (locs : List Loc), va_P dG vwCl (MW cI cJ mo mN mD mP mH mR mQ mF mO (cut0 near k) (nI n) (nI ec) (bI bt) dis par hubs rnks que far frm (nI vi) (nI cu) (nI pu) (nI pn) (nI wn) (nI 0) ++ X) H → va_D A (MW cI cJ mo mN mD mP mH mR mQ mF mO (cut0 near k) (nI n) (nI ec) (bI bt) dis par hubs rnks que far frm (nI vi) (nI cu) (nI pu) (nI pn) (nI wn) (nI 0) ++ X) → va_S A s.heap H locs → ∀ ls : Array Slot, lv_has ls 3 [(0, .ref mo), (1, .int (nI ec)), (2, .int (nI k))] → W p l e ({ frames := 0, cells := 0, slots := 0, locals := 0 } : Room) s m ([.ref mo] : List Value).toArray below meth c H locs 0 0 QQ (F0 m 12 ls []) := by
    intro QQ n1
    induction n1 with
    | zero => intro k h1 h2; exact absurd h1 (by omega)
    | succ n1 ih =>
      intro k h1 h2 kx H locs hP hD hS ls hl
      refine lv_iload_n hx hb dX4_clear_12 rfl (lv_at hl 2 rfl) ?_
      refine lv_aload_n hx hb dX4_clear_13 rfl (lv_at hl 0 rfl) ?_
      refine va_get (D := dG) (ci := 4) (v := .int (nI n)) (C := RX4) (T := TX4) (N := 17) hx hb hts hiX4 hown hK.1 hP 0 rfl rfl 1 (by decide) hf39 (fun _ h9 => h9) rfl dX4_clear_14 ?_
      refine x_icmp_geN (i := k) (j := n) (tgt := 33) hx hb (by omega) (by omega) dX4_clear_17 (by decide) (fun c17 => ?_) (fun c17 => ?_)
      · skip
        have ek : k = n := by omega
        subst ek
        exact kx  H locs hP hD hS ls (lv_sub hl [0, 1, 2] rfl)
      · skip
        refine lv_aload_n hx hb dX4_clear_20 rfl (lv_at hl 0 rfl) ?_
        refine va_get (D := dG) (ci := 4) (v := .ref mN) (C := RX4) (T := TX4) (N := 17) hx hb hts hiX4 hown hK.1 hP 0 rfl rfl 0 (by decide) hf7 (fun _ h9 => h9) rfl dX4_clear_21 ?_
        refine lv_iload_n hx hb dX4_clear_24 rfl (lv_at hl 2 rfl) ?_
        refine lv_lconst (v := 0) hx hb dX4_clear_25 rfl ?_
        refine x_last (f := (cut0 near k)) hx hb hK hP hD hS 1 rfl (by omega) (by decide) dX4_clear_26 (fun H locs hP hD hS => ?_)
        have hP : va_P dG vwCl (MW cI cJ mo mN mD mP mH mR mQ mF mO (vp_updL (cut0 near k) k 0) (nI n) (nI ec) (bI bt) dis par hubs rnks que far frm (nI vi) (nI cu) (nI pu) (nI pn) (nI wn) (nI 0) ++ X) H := hP
        have hD : va_D A (MW cI cJ mo mN mD mP mH mR mQ mF mO (vp_updL (cut0 near k) k 0) (nI n) (nI ec) (bI bt) dis par hubs rnks que far frm (nI vi) (nI cu) (nI pu) (nI pn) (nI wn) (nI 0) ++ X) := hD
        refine x_iincN (lv' := [(2, .int (nI (k + 1))), (0, .ref mo), (1, .int (nI ec))]) hx hb dX4_clear_27 hl (k := 2) rfl (by decide) rfl (fun ls hl => ?_)
        refine lv_goto (tgt := 12) hx hb dX4_clear_30 (by decide) ?_
        rw [cut0_s] at hP hD
        exact ih (k + 1) (by omega) (by omega) kx H locs hP hD hS ls (lv_sub hl [1, 2, 0] rfl)
  refine loop _ 49 0 (by omega) (by omega) (fun  H locs hP hD hS ls hl => ?_) H locs hP hD hS ls (lv_sub hl [2, 1, 0] rfl)
  refine lv_aload_n hx hb dX4_clear_33 rfl (lv_at hl 0 rfl) ?_
  refine lv_iconst (v := (nI 0)) hx hb dX4_clear_34 (by decide) ?_
  refine va_put (D := dG) (ci := 4) (v := .int (nI 0)) (ty := .int) (C := RX4) (T := TX4) (N := 17) hx hb hts hiX4 tyX4 tyX4_ok nmX4 hown hK.1 hP hD hS 0 rfl rfl 2 (by decide) hf108 (fun _ h9 => h9) rfl (by decide +kernel) rfl rfl (Nat.le_of_ble_eq_true rfl) dX4_clear_35 (fun H locs hP hD hS => ?_)
  have hP : va_P dG vwCl (MW cI cJ mo mN mD mP mH mR mQ mF mO (cut0 near n) (nI n) (nI 0) (bI bt) dis par hubs rnks que far frm (nI vi) (nI cu) (nI pu) (nI pn) (nI wn) (nI 0) ++ X) H := hP
  have hD : va_D A (MW cI cJ mo mN mD mP mH mR mQ mF mO (cut0 near n) (nI n) (nI 0) (bI bt) dis par hubs rnks que far frm (nI vi) (nI cu) (nI pu) (nI pn) (nI wn) (nI 0) ++ X) := hD
  refine lv_aload_n hx hb dX4_clear_38 rfl (lv_at hl 0 rfl) ?_
  refine lv_iconst (v := (nI 0)) hx hb dX4_clear_39 (by decide) ?_
  refine va_put (D := dG) (ci := 4) (v := .int (nI 0)) (ty := .boolean) (C := RX4) (T := TX4) (N := 17) hx hb hts hiX4 tyX4 tyX4_ok nmX4 hown hK.1 hP hD hS 0 rfl rfl 3 (by decide) hf91 (fun _ h9 => h9) rfl (by decide +kernel) (by decide) (by decide) (Nat.le_of_ble_eq_true rfl) dX4_clear_40 (fun H locs hP hD hS => ?_)
  have hP : va_P dG vwCl (MW cI cJ mo mN mD mP mH mR mQ mF mO (cut0 near n) (nI n) (nI 0) (nI 0) dis par hubs rnks que far frm (nI vi) (nI cu) (nI pu) (nI pn) (nI wn) (nI 0) ++ X) H := hP
  have hD : va_D A (MW cI cJ mo mN mD mP mH mR mQ mF mO (cut0 near n) (nI n) (nI 0) (nI 0) dis par hubs rnks que far frm (nI vi) (nI cu) (nI pu) (nI pn) (nI wn) (nI 0) ++ X) := hD
  refine lv_aload_n hx hb dX4_clear_43 rfl (lv_at hl 0 rfl) ?_
  refine lv_iconst (v := (nI 0)) hx hb dX4_clear_44 (by decide) ?_
  refine va_put (D := dG) (ci := 4) (v := .int (nI 0)) (ty := .int) (C := RX4) (T := TX4) (N := 17) hx hb hts hiX4 tyX4 tyX4_ok nmX4 hown hK.1 hP hD hS 0 rfl rfl 14 (by decide) hf85 (fun _ h9 => h9) rfl (by decide +kernel) rfl rfl (Nat.le_of_ble_eq_true rfl) dX4_clear_45 (fun H locs hP hD hS => ?_)
  have hP : va_P dG vwCl (MW cI cJ mo mN mD mP mH mR mQ mF mO (cut0 near n) (nI n) (nI 0) (nI 0) dis par hubs rnks que far frm (nI vi) (nI cu) (nI pu) (nI 0) (nI wn) (nI 0) ++ X) H := hP
  have hD : va_D A (MW cI cJ mo mN mD mP mH mR mQ mF mO (cut0 near n) (nI n) (nI 0) (nI 0) dis par hubs rnks que far frm (nI vi) (nI cu) (nI pu) (nI 0) (nI wn) (nI 0) ++ X) := hD
  refine lv_aload_n hx hb dX4_clear_48 rfl (lv_at hl 0 rfl) ?_
  refine lv_iconst (v := (nI 0)) hx hb dX4_clear_49 (by decide) ?_
  refine va_put (D := dG) (ci := 4) (v := .int (nI 0)) (ty := .int) (C := RX4) (T := TX4) (N := 17) hx hb hts hiX4 tyX4 tyX4_ok nmX4 hown hK.1 hP hD hS 0 rfl rfl 15 (by decide) hf88 (fun _ h9 => h9) rfl (by decide +kernel) rfl rfl (Nat.le_of_ble_eq_true rfl) dX4_clear_50 (fun H locs hP hD hS => ?_)
  have hP : va_P dG vwCl (MW cI cJ mo mN mD mP mH mR mQ mF mO (cut0 near n) (nI n) (nI 0) (nI 0) dis par hubs rnks que far frm (nI vi) (nI cu) (nI pu) (nI 0) (nI 0) (nI 0) ++ X) H := hP
  have hD : va_D A (MW cI cJ mo mN mD mP mH mR mQ mF mO (cut0 near n) (nI n) (nI 0) (nI 0) dis par hubs rnks que far frm (nI vi) (nI cu) (nI pu) (nI 0) (nI 0) (nI 0) ++ X) := hD
  refine lv_iload_n hx hb dX4_clear_53 rfl (lv_at hl 1 rfl) ?_
  exact W.iret (v := (nI ec)) hx hb hr (fun t ht hW => ⟨⟨_, (), rfl, rfl, by rw [ht]; exact hP, hD⟩, hS.F ht⟩) hS.2.2 dX4_clear_54

set_option maxHeartbeats 4000000 in
set_option maxRecDepth 100000 in
/-- reference: build -/
theorem m_build (l : Launch) (dG : va_G) (cI cJ : ClassId) (A : Nat → Prop) (mo mN mD mP mH mR mQ mF mO : Nat) (near : Nat → Int64) (n ec : Nat) (bt : Bool) (dis par hubs rnks que far frm : Nat → Int32) (vi cu pu pn wn : Nat) (th : Int32) (hn : n ≤ 48) (dg : Nat → Nat) (hdg : ∀ v, v < n → dg v = fb_ct (gb (near v)) n) (F : BT) (hF : bl near n (hbf dg n) n = F) (X : va_W) : Met l yX4_build wsX4_build ({ frames := 5, cells := 0, slots := 0, locals := 130 } : Room) (WPc dG cI cJ [.ref mo] (MW cI cJ mo mN mD mP mH mR mQ mF mO near (nI n) (nI ec) (bI bt) dis par hubs rnks que far frm (nI vi) (nI cu) (nI pu) (nI pn) (nI wn) th ++ X) A) (va_Qi (S := (Nat → Int32) × (Nat → Int32) × (Nat → Int32) × (Nat → Int32) × (Nat → Int32) × (Nat → Int32) × (Nat → Int32)) (fun r u => r = nI F.2.2.1 ∧ RepM 0 F.1 F.2.1 u.1 u.2.1 ∧ RKM 0 dg n n u.2.2.2.2.2.1 u.2.2.2.2.2.2) (fun u => WB dG A (MW cI cJ mo mN mD mP mH mR mQ mF mO near (nI n) (nI ec) (bI true) u.1 u.2.1 u.2.2.2.2.2.1 u.2.2.2.2.2.2 u.2.2.1 u.2.2.2.1 u.2.2.2.2.1 (nI F.2.2.1) (nI F.2.2.2.1) (nI F.2.2.2.2) (nI F.2.2.2.1) (nI F.2.2.2.2) (nI 0) ++ X)) A) 0 0 A := by
  refine Met.ofW (cc := cX4_build) (maxL := 1) (ret := (some .int)) (by decide) rfl ?_
  intro p e s m args below meth c s₁ B9 hml hv
  obtain ⟨rfl, hP, hK, hD⟩ := hv
  have hx := B9.exec
  have hb := B9.bytes
  have hr := B9.returns
  have hts := atoms_spec (ws := wsX4_build) B9.pre
  have hown : s.vm.findClass RX4 = some m.cls := findClass_of_methodNamed B9.named
  have hlocks := B9.notSynchronized
  have hS : va_S A s.heap s.heap [] := va_S.rf
  have hl := lv_entry ([.ref mo]) (n := 1) (Nat.le_of_ble_eq_true rfl)
  rw [lg_entry_eq]
  generalize (lg_sl ([.ref mo]) ++ List.replicate (1 - (lg_sl ([.ref mo])).length) Slot.unset).toArray = ls at hl ⊢
  have hl : lv_has ls 1 [(0, .ref mo)] := hl
  have hiX4 : ∀ w ∈ wsX40, w ∈ wsX4_build := by decide +kernel
  have hf35 := hts (.fieldLink RX4 35 "LandmarkLeaModel" "thrown" "I") (by decide +kernel)
  have hf54 := hts (.fieldLink RX4 54 "LandmarkLeaModel" "visits" "I") (by decide +kernel)
  have hf91 := hts (.fieldLink RX4 91 "LandmarkLeaModel" "isBuilt" "Z") (by decide +kernel)
  refine lv_aload_n hx hb dX4_build_0 rfl (lv_at hl 0 rfl) ?_
  refine lv_iconst (v := (nI 0)) hx hb dX4_build_1 (by decide) ?_
  refine va_put (D := dG) (ci := 4) (v := .int (nI 0)) (ty := .int) (C := RX4) (T := TX4) (N := 17) hx hb hts hiX4 tyX4 tyX4_ok nmX4 hown hK.1 hP hD hS 0 rfl rfl 16 (by decide) hf35 (fun _ h9 => h9) rfl (by decide +kernel) rfl rfl (Nat.le_of_ble_eq_true rfl) dX4_build_2 (fun H locs hP hD hS => ?_)
  have hP : va_P dG vwCl (MW cI cJ mo mN mD mP mH mR mQ mF mO near (nI n) (nI ec) (bI bt) dis par hubs rnks que far frm (nI vi) (nI cu) (nI pu) (nI pn) (nI wn) (nI 0) ++ X) H := hP
  have hD : va_D A (MW cI cJ mo mN mD mP mH mR mQ mF mO near (nI n) (nI ec) (bI bt) dis par hubs rnks que far frm (nI vi) (nI cu) (nI pu) (nI pn) (nI wn) (nI 0) ++ X) := hD
  refine lv_aload_n hx hb dX4_build_5 rfl (lv_at hl 0 rfl) ?_
  refine lv_iconst (v := (nI 0)) hx hb dX4_build_6 (by decide) ?_
  have hPc : va_P dG vwCl (MW cI cJ mo mN mD mP mH mR mQ mF mO near (nI n) (nI ec) (bI bt) dis par hubs rnks que far frm (nI vi) (nI cu) (nI pu) (nI pn) (nI wn) (nI 0) ++ X) H := hP
  have hDc : va_D A (MW cI cJ mo mN mD mP mH mR mQ mF mO near (nI n) (nI ec) (bI bt) dis par hubs rnks que far frm (nI vi) (nI cu) (nI pu) (nI pn) (nI wn) (nI 0) ++ X) := hD
  refine va_callv (va_runV (As := [.int (nI 0)]) (rest := []) ⟨hx, hb, hml, hown, hts⟩ (m_builds l dG cI cJ A mo mN mD mP mH mR mQ mF mO near n ec bt dis par hubs rnks que far frm vi cu pu pn wn (nI 0) 0 (by omega) hn dg hdg F hF _) (cwV 1 hts gX4_build_X4_builds rfl rfl rfl (by decide +kernel) ⟨Nat.le_of_ble_eq_true rfl, Nat.le_of_ble_eq_true rfl⟩) (WPc.pre hPc hDc hK (va_recv hK.1 hPc (ci := 4) (q0 := 0) rfl rfl)) rfl rfl hl.1 rfl (lv_room (Nat.le_of_ble_eq_true rfl)) dX4_build_7 ⟨Nat.zero_le _, Nat.zero_le _⟩) hS (fun q _ h => h) (fun q h => h) (fun u t H locs ht hvm hw hB hz1 hk1 hS => ?_)
  obtain ⟨dis, par, que, far, frm, hubs, rnks⟩ := u
  obtain ⟨hP, hD⟩ := hB
  rw [ht] at hP
  have hP : va_P dG vwCl (MW cI cJ mo mN mD mP mH mR mQ mF mO near (nI n) (nI ec) (bI bt) dis par hubs rnks que far frm (nI F.2.2.1) (nI F.2.2.2.1) (nI F.2.2.2.2) (nI pn) (nI wn) (nI 0) ++ X) H := hP
  have hD : va_D A (MW cI cJ mo mN mD mP mH mR mQ mF mO near (nI n) (nI ec) (bI bt) dis par hubs rnks que far frm (nI F.2.2.1) (nI F.2.2.2.1) (nI F.2.2.2.2) (nI pn) (nI wn) (nI 0) ++ X) := hD
  refine lv_aload_n hx hb dX4_build_10 rfl (lv_at hl 0 rfl) ?_
  have hw0 : RepM 0 F.1 F.2.1 dis par ∧ RKM 0 dg n n hubs rnks := ⟨hw.1, hw.2.1⟩
  have hPc : va_P dG vwCl (MW cI cJ mo mN mD mP mH mR mQ mF mO near (nI n) (nI ec) (bI bt) dis par hubs rnks que far frm (nI F.2.2.1) (nI F.2.2.2.1) (nI F.2.2.2.2) (nI pn) (nI wn) (nI 0) ++ X) H := hP
  have hDc : va_D A (MW cI cJ mo mN mD mP mH mR mQ mF mO near (nI n) (nI ec) (bI bt) dis par hubs rnks que far frm (nI F.2.2.1) (nI F.2.2.2.1) (nI F.2.2.2.2) (nI pn) (nI wn) (nI 0) ++ X) := hD
  refine va_callv (va_runV (As := []) (rest := []) ⟨hx, hb, hml, hown, hts⟩ (m_keepsCounts l dG cI cJ A mo mN mD mP mH mR mQ mF mO near n ec bt dis par hubs rnks que far frm F.2.2.1 F.2.2.2.1 F.2.2.2.2 pn wn (nI 0) _) (cwV 0 hts gX4_build_X4_keepsCounts rfl rfl rfl (by decide +kernel) ⟨Nat.le_of_ble_eq_true rfl, Nat.le_of_ble_eq_true rfl⟩) (WPc.pre hPc hDc hK (va_recv hK.1 hPc (ci := 4) (q0 := 0) rfl rfl)) rfl rfl hl.1 rfl (lv_room (Nat.le_of_ble_eq_true rfl)) dX4_build_11 ⟨Nat.zero_le _, Nat.zero_le _⟩) hS (fun q _ h => h) (fun q h => h) (fun u9 t H locs ht hvm hw hB hz1 hk1 hS => ?_)
  obtain ⟨hP, hD⟩ := hB
  rw [ht] at hP
  have hP : va_P dG vwCl (MW cI cJ mo mN mD mP mH mR mQ mF mO near (nI n) (nI ec) (bI bt) dis par hubs rnks que far frm (nI F.2.2.1) (nI F.2.2.2.1) (nI F.2.2.2.2) (nI F.2.2.2.1) (nI F.2.2.2.2) (nI 0) ++ X) H := hP
  have hD : va_D A (MW cI cJ mo mN mD mP mH mR mQ mF mO near (nI n) (nI ec) (bI bt) dis par hubs rnks que far frm (nI F.2.2.1) (nI F.2.2.2.1) (nI F.2.2.2.2) (nI F.2.2.2.1) (nI F.2.2.2.2) (nI 0) ++ X) := hD
  refine lv_aload_n hx hb dX4_build_14 rfl (lv_at hl 0 rfl) ?_
  refine lv_iconst (v := (nI 1)) hx hb dX4_build_15 (by decide) ?_
  refine va_put (D := dG) (ci := 4) (v := .int (nI 1)) (ty := .boolean) (C := RX4) (T := TX4) (N := 17) hx hb hts hiX4 tyX4 tyX4_ok nmX4 hown hK.1 hP hD hS 0 rfl rfl 3 (by decide) hf91 (fun _ h9 => h9) rfl (by decide +kernel) (by decide) (by decide) (Nat.le_of_ble_eq_true rfl) dX4_build_16 (fun H locs hP hD hS => ?_)
  have hP : va_P dG vwCl (MW cI cJ mo mN mD mP mH mR mQ mF mO near (nI n) (nI ec) (nI 1) dis par hubs rnks que far frm (nI F.2.2.1) (nI F.2.2.2.1) (nI F.2.2.2.2) (nI F.2.2.2.1) (nI F.2.2.2.2) (nI 0) ++ X) H := hP
  have hD : va_D A (MW cI cJ mo mN mD mP mH mR mQ mF mO near (nI n) (nI ec) (nI 1) dis par hubs rnks que far frm (nI F.2.2.1) (nI F.2.2.2.1) (nI F.2.2.2.2) (nI F.2.2.2.1) (nI F.2.2.2.2) (nI 0) ++ X) := hD
  refine lv_aload_n hx hb dX4_build_19 rfl (lv_at hl 0 rfl) ?_
  refine va_get (D := dG) (ci := 4) (v := .int (nI F.2.2.1)) (C := RX4) (T := TX4) (N := 17) hx hb hts hiX4 hown hK.1 hP 0 rfl rfl 11 (by decide) hf54 (fun _ h9 => h9) rfl dX4_build_20 ?_
  exact W.iret (v := (nI F.2.2.1)) hx hb hr (fun t ht hW => ⟨⟨_, (dis, par, que, far, frm, hubs, rnks), rfl, ⟨rfl, hw0⟩, by rw [ht]; exact hP, hD⟩, hS.F ht⟩) hS.2.2 dX4_build_23

set_option maxHeartbeats 4000000 in
set_option maxRecDepth 100000 in
/-- reference: entries -/
theorem m_entriesU (l : Launch) (dG : va_G) (cI cJ : ClassId) (A : Nat → Prop) (mo mN mD mP mH mR mQ mF mO : Nat) (near : Nat → Int64) (n ec : Nat) (bt : Bool) (dis par hubs rnks que far frm : Nat → Int32) (vi cu pu pn wn : Nat) (th : Int32) (hbt : bt = false) (X : va_W) : Met l yX4_entries wsX4_entries ({ frames := 3, cells := 0, slots := 0, locals := 69 } : Room) (WPc dG cI cJ [.ref mo] (MW cI cJ mo mN mD mP mH mR mQ mF mO near (nI n) (nI ec) (bI bt) dis par hubs rnks que far frm (nI vi) (nI cu) (nI pu) (nI pn) (nI wn) th ++ X) A) (va_Qi (S := Unit) (fun r _ => r = nI 0) (fun _ => WB dG A (MW cI cJ mo mN mD mP mH mR mQ mF mO near (nI n) (nI ec) (bI bt) dis par hubs rnks que far frm (nI vi) (nI cu) (nI pu) (nI pn) (nI wn) (nI 0) ++ X)) A) 0 0 A := by
  refine Met.ofW (cc := cX4_entries) (maxL := 1) (ret := (some .int)) (by decide) rfl ?_
  intro p e s m args below meth c s₁ B9 hml hv
  obtain ⟨rfl, hP, hK, hD⟩ := hv
  have hx := B9.exec
  have hb := B9.bytes
  have hr := B9.returns
  have hts := atoms_spec (ws := wsX4_entries) B9.pre
  have hown : s.vm.findClass RX4 = some m.cls := findClass_of_methodNamed B9.named
  have hlocks := B9.notSynchronized
  have hS : va_S A s.heap s.heap [] := va_S.rf
  have hl := lv_entry ([.ref mo]) (n := 1) (Nat.le_of_ble_eq_true rfl)
  rw [lg_entry_eq]
  generalize (lg_sl ([.ref mo]) ++ List.replicate (1 - (lg_sl ([.ref mo])).length) Slot.unset).toArray = ls at hl ⊢
  have hl : lv_has ls 1 [(0, .ref mo)] := hl
  have hiX4 : ∀ w ∈ wsX40, w ∈ wsX4_entries := by decide +kernel
  have hf35 := hts (.fieldLink RX4 35 "LandmarkLeaModel" "thrown" "I") (by decide +kernel)
  have hf91 := hts (.fieldLink RX4 91 "LandmarkLeaModel" "isBuilt" "Z") (by decide +kernel)
  refine lv_aload_n hx hb dX4_entries_0 rfl (lv_at hl 0 rfl) ?_
  refine lv_iconst (v := (nI 0)) hx hb dX4_entries_1 (by decide) ?_
  refine va_put (D := dG) (ci := 4) (v := .int (nI 0)) (ty := .int) (C := RX4) (T := TX4) (N := 17) hx hb hts hiX4 tyX4 tyX4_ok nmX4 hown hK.1 hP hD hS 0 rfl rfl 16 (by decide) hf35 (fun _ h9 => h9) rfl (by decide +kernel) rfl rfl (Nat.le_of_ble_eq_true rfl) dX4_entries_2 (fun H locs hP hD hS => ?_)
  have hP : va_P dG vwCl (MW cI cJ mo mN mD mP mH mR mQ mF mO near (nI n) (nI ec) (bI bt) dis par hubs rnks que far frm (nI vi) (nI cu) (nI pu) (nI pn) (nI wn) (nI 0) ++ X) H := hP
  have hD : va_D A (MW cI cJ mo mN mD mP mH mR mQ mF mO near (nI n) (nI ec) (bI bt) dis par hubs rnks que far frm (nI vi) (nI cu) (nI pu) (nI pn) (nI wn) (nI 0) ++ X) := hD
  refine lv_aload_n hx hb dX4_entries_5 rfl (lv_at hl 0 rfl) ?_
  refine va_get (D := dG) (ci := 4) (v := .int (bI bt)) (C := RX4) (T := TX4) (N := 17) hx hb hts hiX4 hown hK.1 hP 0 rfl rfl 3 (by decide) hf91 (fun _ h9 => h9) rfl dX4_entries_6 ?_
  refine x_ifeqB (tgt := 20) hx hb dX4_entries_9 (by decide) (fun c9 => ?_) (fun c9 => ?_)
  · skip
    refine lv_iconst (v := (nI 0)) hx hb dX4_entries_20 (by decide) ?_
    exact W.iret (v := (nI 0)) hx hb hr (fun t ht hW => ⟨⟨_, (), rfl, rfl, by rw [ht]; exact hP, hD⟩, hS.F ht⟩) hS.2.2 dX4_entries_21
  · skip
    rw [hbt] at c9; cases c9

set_option maxHeartbeats 4000000 in
set_option maxRecDepth 100000 in
/-- reference: entries -/
theorem m_entriesB (l : Launch) (dG : va_G) (cI cJ : ClassId) (A : Nat → Prop) (mo mN mD mP mH mR mQ mF mO : Nat) (near : Nat → Int64) (n ec : Nat) (bt : Bool) (dis par hubs rnks que far frm : Nat → Int32) (vi cu pu pn wn : Nat) (th : Int32) (L P : Nat → Nat → Option Nat) (hR : RepM 0 L P dis par) (hB : LBd L (2 ^ 30)) (hn : n ≤ 48) (hbt : bt = true) (X : va_W) : Met l yX4_entries wsX4_entries ({ frames := 3, cells := 0, slots := 0, locals := 69 } : Room) (WPc dG cI cJ [.ref mo] (MW cI cJ mo mN mD mP mH mR mQ mF mO near (nI n) (nI ec) (bI bt) dis par hubs rnks que far frm (nI vi) (nI cu) (nI pu) (nI pn) (nI wn) th ++ X) A) (va_Qi (S := Unit) (fun r _ => r = nI (fb_sm (fun v => fb_ct (fun k => (L v k).isSome) n) n)) (fun _ => WB dG A (MW cI cJ mo mN mD mP mH mR mQ mF mO near (nI n) (nI ec) (bI bt) dis par hubs rnks que far frm (nI vi) (nI cu) (nI pu) (nI pn) (nI wn) (nI 0) ++ X)) A) 0 0 A := by
  refine Met.ofW (cc := cX4_entries) (maxL := 1) (ret := (some .int)) (by decide) rfl ?_
  intro p e s m args below meth c s₁ B9 hml hv
  obtain ⟨rfl, hP, hK, hD⟩ := hv
  have hx := B9.exec
  have hb := B9.bytes
  have hr := B9.returns
  have hts := atoms_spec (ws := wsX4_entries) B9.pre
  have hown : s.vm.findClass RX4 = some m.cls := findClass_of_methodNamed B9.named
  have hlocks := B9.notSynchronized
  have hS : va_S A s.heap s.heap [] := va_S.rf
  have hl := lv_entry ([.ref mo]) (n := 1) (Nat.le_of_ble_eq_true rfl)
  rw [lg_entry_eq]
  generalize (lg_sl ([.ref mo]) ++ List.replicate (1 - (lg_sl ([.ref mo])).length) Slot.unset).toArray = ls at hl ⊢
  have hl : lv_has ls 1 [(0, .ref mo)] := hl
  have hiX4 : ∀ w ∈ wsX40, w ∈ wsX4_entries := by decide +kernel
  have hf35 := hts (.fieldLink RX4 35 "LandmarkLeaModel" "thrown" "I") (by decide +kernel)
  have hf91 := hts (.fieldLink RX4 91 "LandmarkLeaModel" "isBuilt" "Z") (by decide +kernel)
  refine lv_aload_n hx hb dX4_entries_0 rfl (lv_at hl 0 rfl) ?_
  refine lv_iconst (v := (nI 0)) hx hb dX4_entries_1 (by decide) ?_
  refine va_put (D := dG) (ci := 4) (v := .int (nI 0)) (ty := .int) (C := RX4) (T := TX4) (N := 17) hx hb hts hiX4 tyX4 tyX4_ok nmX4 hown hK.1 hP hD hS 0 rfl rfl 16 (by decide) hf35 (fun _ h9 => h9) rfl (by decide +kernel) rfl rfl (Nat.le_of_ble_eq_true rfl) dX4_entries_2 (fun H locs hP hD hS => ?_)
  have hP : va_P dG vwCl (MW cI cJ mo mN mD mP mH mR mQ mF mO near (nI n) (nI ec) (bI bt) dis par hubs rnks que far frm (nI vi) (nI cu) (nI pu) (nI pn) (nI wn) (nI 0) ++ X) H := hP
  have hD : va_D A (MW cI cJ mo mN mD mP mH mR mQ mF mO near (nI n) (nI ec) (bI bt) dis par hubs rnks que far frm (nI vi) (nI cu) (nI pu) (nI pn) (nI wn) (nI 0) ++ X) := hD
  refine lv_aload_n hx hb dX4_entries_5 rfl (lv_at hl 0 rfl) ?_
  refine va_get (D := dG) (ci := 4) (v := .int (bI bt)) (C := RX4) (T := TX4) (N := 17) hx hb hts hiX4 hown hK.1 hP 0 rfl rfl 3 (by decide) hf91 (fun _ h9 => h9) rfl dX4_entries_6 ?_
  refine x_ifeqB (tgt := 20) hx hb dX4_entries_9 (by decide) (fun c9 => ?_) (fun c9 => ?_)
  · skip
    rw [hbt] at c9; cases c9
  · skip
    refine lv_aload_n hx hb dX4_entries_12 rfl (lv_at hl 0 rfl) ?_
    refine lv_iconst (v := (nI 0)) hx hb dX4_entries_13 (by decide) ?_
    have hPc := hP.sub (ws' := (MW cI cJ mo mN mD mP mH mR mQ mF mO near (nI n) (nI ec) (bI bt) dis par hubs rnks que far frm (nI vi) (nI cu) (nI pu) (nI pn) (nI wn) (nI 0))) [0, 1, 2, 3, 4, 5, 6, 7, 8] rfl
    refine x_ri (W.runV (As := [.int (nI 0)]) (rest := []) ⟨hx, hb, hml, hown, hts⟩ (m_all l dG cI cJ mo mN mD mP mH mR mQ mF mO near n ec bt dis par hubs rnks que far frm vi cu pu pn wn (nI 0) 0 (by omega) L P hR hB hn) (cwV 1 hts gX4_entries_X4_all rfl rfl rfl (by decide +kernel) ⟨Nat.le_of_ble_eq_true rfl, Nat.le_of_ble_eq_true rfl⟩) (RPc.pre hPc hK (va_recv hK.1 hPc (ci := 4) (q0 := 0) rfl rfl)) rfl rfl hl.1 rfl (lv_room (Nat.le_of_ble_eq_true rfl)) dX4_entries_14 ⟨Nat.zero_le _, Nat.zero_le _⟩) ?_
    refine lv_goto (tgt := 21) hx hb dX4_entries_17 (by decide) ?_
    exact W.iret (v := (nI (fb_sm (fun v => fb_ct (fun k => (L v k).isSome) n) n))) hx hb hr (fun t ht hW => ⟨⟨_, (), rfl, rfl, by rw [ht]; exact hP, hD⟩, hS.F ht⟩) hS.2.2 dX4_entries_21

set_option maxHeartbeats 4000000 in
set_option maxRecDepth 100000 in
/-- reference: entriesIfBuilt -/
theorem m_entriesIfBuilt (l : Launch) (dG : va_G) (cI cJ : ClassId) (A : Nat → Prop) (mo mN mD mP mH mR mQ mF mO : Nat) (near : Nat → Int64) (n ec : Nat) (bt : Bool) (dis par hubs rnks que far frm : Nat → Int32) (vi cu pu pn wn : Nat) (th : Int32) (hn : n ≤ 48) (dg : Nat → Nat) (hdg : ∀ v, v < n → dg v = fb_ct (gb (near v)) n) (F : BT) (hF : bl near n (hbf dg n) n = F) (hFB : LBd F.1 (2 ^ 30)) (X : va_W) : Met l yX4_entriesIfBuilt wsX4_entriesIfBuilt ({ frames := 5, cells := 0, slots := 0, locals := 130 } : Room) (WPc dG cI cJ [.ref mo] (MW cI cJ mo mN mD mP mH mR mQ mF mO near (nI n) (nI ec) (bI bt) dis par hubs rnks que far frm (nI vi) (nI cu) (nI pu) (nI pn) (nI wn) th ++ X) A) (va_Qi (S := (Nat → Int32) × (Nat → Int32) × (Nat → Int32) × (Nat → Int32) × (Nat → Int32) × (Nat → Int32) × (Nat → Int32)) (fun r u => r = nI (fb_sm (fun v => fb_ct (fun k => (F.1 v k).isSome) n) n) ∧ Fr (2304 * 1) 2304 dis u.1 ∧ Fr (2304 * 1) 2304 par u.2.1 ∧ Fr (48 * 1) 48 hubs u.2.2.2.2.2.1 ∧ Fr (48 * 1) 48 rnks u.2.2.2.2.2.2) (fun u => WB dG A (MW cI cJ mo mN mD mP mH mR mQ mF mO near (nI n) (nI ec) (bI bt) u.1 u.2.1 u.2.2.2.2.2.1 u.2.2.2.2.2.2 u.2.2.1 u.2.2.2.1 u.2.2.2.2.1 (nI F.2.2.1) (nI F.2.2.2.1) (nI F.2.2.2.2) (nI pn) (nI wn) (nI 0) ++ X)) A) 0 0 A := by
  refine Met.ofW (cc := cX4_entriesIfBuilt) (maxL := 1) (ret := (some .int)) (by decide) rfl ?_
  intro p e s m args below meth c s₁ B9 hml hv
  obtain ⟨rfl, hP, hK, hD⟩ := hv
  have hx := B9.exec
  have hb := B9.bytes
  have hr := B9.returns
  have hts := atoms_spec (ws := wsX4_entriesIfBuilt) B9.pre
  have hown : s.vm.findClass RX4 = some m.cls := findClass_of_methodNamed B9.named
  have hlocks := B9.notSynchronized
  have hS : va_S A s.heap s.heap [] := va_S.rf
  have hl := lv_entry ([.ref mo]) (n := 1) (Nat.le_of_ble_eq_true rfl)
  rw [lg_entry_eq]
  generalize (lg_sl ([.ref mo]) ++ List.replicate (1 - (lg_sl ([.ref mo])).length) Slot.unset).toArray = ls at hl ⊢
  have hl : lv_has ls 1 [(0, .ref mo)] := hl
  have hiX4 : ∀ w ∈ wsX40, w ∈ wsX4_entriesIfBuilt := by decide +kernel
  have hf35 := hts (.fieldLink RX4 35 "LandmarkLeaModel" "thrown" "I") (by decide +kernel)
  refine lv_aload_n hx hb dX4_entriesIfBuilt_0 rfl (lv_at hl 0 rfl) ?_
  refine lv_iconst (v := (nI 0)) hx hb dX4_entriesIfBuilt_1 (by decide) ?_
  refine va_put (D := dG) (ci := 4) (v := .int (nI 0)) (ty := .int) (C := RX4) (T := TX4) (N := 17) hx hb hts hiX4 tyX4 tyX4_ok nmX4 hown hK.1 hP hD hS 0 rfl rfl 16 (by decide) hf35 (fun _ h9 => h9) rfl (by decide +kernel) rfl rfl (Nat.le_of_ble_eq_true rfl) dX4_entriesIfBuilt_2 (fun H locs hP hD hS => ?_)
  have hP : va_P dG vwCl (MW cI cJ mo mN mD mP mH mR mQ mF mO near (nI n) (nI ec) (bI bt) dis par hubs rnks que far frm (nI vi) (nI cu) (nI pu) (nI pn) (nI wn) (nI 0) ++ X) H := hP
  have hD : va_D A (MW cI cJ mo mN mD mP mH mR mQ mF mO near (nI n) (nI ec) (bI bt) dis par hubs rnks que far frm (nI vi) (nI cu) (nI pu) (nI pn) (nI wn) (nI 0) ++ X) := hD
  refine lv_aload_n hx hb dX4_entriesIfBuilt_5 rfl (lv_at hl 0 rfl) ?_
  refine lv_iconst (v := (nI 1)) hx hb dX4_entriesIfBuilt_6 (by decide) ?_
  have hPc : va_P dG vwCl (MW cI cJ mo mN mD mP mH mR mQ mF mO near (nI n) (nI ec) (bI bt) dis par hubs rnks que far frm (nI vi) (nI cu) (nI pu) (nI pn) (nI wn) (nI 0) ++ X) H := hP
  have hDc : va_D A (MW cI cJ mo mN mD mP mH mR mQ mF mO near (nI n) (nI ec) (bI bt) dis par hubs rnks que far frm (nI vi) (nI cu) (nI pu) (nI pn) (nI wn) (nI 0) ++ X) := hD
  refine va_callv (va_runV (As := [.int (nI 1)]) (rest := []) ⟨hx, hb, hml, hown, hts⟩ (m_builds l dG cI cJ A mo mN mD mP mH mR mQ mF mO near n ec bt dis par hubs rnks que far frm vi cu pu pn wn (nI 0) 1 (by omega) hn dg hdg F hF _) (cwV 1 hts gX4_entriesIfBuilt_X4_builds rfl rfl rfl (by decide +kernel) ⟨Nat.le_of_ble_eq_true rfl, Nat.le_of_ble_eq_true rfl⟩) (WPc.pre hPc hDc hK (va_recv hK.1 hPc (ci := 4) (q0 := 0) rfl rfl)) rfl rfl hl.1 rfl (lv_room (Nat.le_of_ble_eq_true rfl)) dX4_entriesIfBuilt_7 ⟨Nat.zero_le _, Nat.zero_le _⟩) hS (fun q _ h => h) (fun q h => h) (fun u t H locs ht hvm hw hB hz1 hk1 hS => ?_)
  obtain ⟨dis1, par1, que, far, frm, hubs1, rnks1⟩ := u
  obtain ⟨hP, hD⟩ := hB
  rw [ht] at hP
  have hP : va_P dG vwCl (MW cI cJ mo mN mD mP mH mR mQ mF mO near (nI n) (nI ec) (bI bt) dis1 par1 hubs1 rnks1 que far frm (nI F.2.2.1) (nI F.2.2.2.1) (nI F.2.2.2.2) (nI pn) (nI wn) (nI 0) ++ X) H := hP
  have hD : va_D A (MW cI cJ mo mN mD mP mH mR mQ mF mO near (nI n) (nI ec) (bI bt) dis1 par1 hubs1 rnks1 que far frm (nI F.2.2.1) (nI F.2.2.2.1) (nI F.2.2.2.2) (nI pn) (nI wn) (nI 0) ++ X) := hD
  refine lv_aload_n hx hb dX4_entriesIfBuilt_10 rfl (lv_at hl 0 rfl) ?_
  refine lv_iconst (v := (nI 1)) hx hb dX4_entriesIfBuilt_11 (by decide) ?_
  have hPc := hP.sub (ws' := (MW cI cJ mo mN mD mP mH mR mQ mF mO near (nI n) (nI ec) (bI bt) dis1 par1 hubs1 rnks1 que far frm (nI F.2.2.1) (nI F.2.2.2.1) (nI F.2.2.2.2) (nI pn) (nI wn) (nI 0))) [0, 1, 2, 3, 4, 5, 6, 7, 8] rfl
  refine x_ri (W.runV (As := [.int (nI 1)]) (rest := []) ⟨hx, hb, hml, hown, hts⟩ (m_all l dG cI cJ mo mN mD mP mH mR mQ mF mO near n ec bt dis1 par1 hubs1 rnks1 que far frm F.2.2.1 F.2.2.2.1 F.2.2.2.2 pn wn (nI 0) 1 (by omega) F.1 F.2.1 hw.1 hFB hn) (cwV 1 hts gX4_entriesIfBuilt_X4_all rfl rfl rfl (by decide +kernel) ⟨Nat.le_of_ble_eq_true rfl, Nat.le_of_ble_eq_true rfl⟩) (RPc.pre hPc hK (va_recv hK.1 hPc (ci := 4) (q0 := 0) rfl rfl)) rfl rfl hl.1 rfl (lv_room (Nat.le_of_ble_eq_true rfl)) dX4_entriesIfBuilt_12 ⟨Nat.zero_le _, Nat.zero_le _⟩) ?_
  exact W.iret (v := (nI (fb_sm (fun v => fb_ct (fun k => (F.1 v k).isSome) n) n))) hx hb hr (fun t ht hW => ⟨⟨_, (dis1, par1, que, far, frm, hubs1, rnks1), rfl, ⟨rfl, hw.2.2⟩, by rw [ht]; exact hP, hD⟩, hS.F ht⟩) hS.2.2 dX4_entriesIfBuilt_15

set_option maxHeartbeats 4000000 in
set_option maxRecDepth 100000 in
/-- reference: within -/
theorem m_withinX (l : Launch) (dG : va_G) (cI cJ : ClassId) (A : Nat → Prop) (mo mN mD mP mH mR mQ mF mO : Nat) (near : Nat → Int64) (n ec : Nat) (bt : Bool) (dis par hubs rnks que far frm : Nat → Int32) (vi cu pu pn wn : Nat) (th : Int32) (x z : Int32) (hn : n ≤ 48) (w : Nat) (hw9 : w < 4) (hne : ¬ w = 0) (hw0 : wr x x n bt = w) (X : va_W) : Met l yX4_within wsX4_within ({ frames := 3, cells := 0, slots := 0, locals := 73 } : Room) (WPc dG cI cJ [.ref mo, .int x, .int z] (MW cI cJ mo mN mD mP mH mR mQ mF mO near (nI n) (nI ec) (bI bt) dis par hubs rnks que far frm (nI vi) (nI cu) (nI pu) (nI pn) (nI wn) th ++ X) A) (va_Ql (S := Unit) (fun r _ => r = 0) (fun _ => WB dG A (MW cI cJ mo mN mD mP mH mR mQ mF mO near (nI n) (nI ec) (bI bt) dis par hubs rnks que far frm (nI vi) (nI cu) (nI pu) (nI pn) (nI wn) (nI w) ++ X)) A) 0 0 A := by
  refine Met.ofW (cc := cX4_within) (maxL := 9) (ret := (some .long)) (by decide) rfl ?_
  intro p e s m args below meth c s₁ B9 hml hv
  obtain ⟨rfl, hP, hK, hD⟩ := hv
  have hx := B9.exec
  have hb := B9.bytes
  have hr := B9.returns
  have hts := atoms_spec (ws := wsX4_within) B9.pre
  have hown : s.vm.findClass RX4 = some m.cls := findClass_of_methodNamed B9.named
  have hlocks := B9.notSynchronized
  have hS : va_S A s.heap s.heap [] := va_S.rf
  have hl := lv_entry ([.ref mo, .int x, .int z]) (n := 9) (Nat.le_of_ble_eq_true rfl)
  rw [lg_entry_eq]
  generalize (lg_sl ([.ref mo, .int x, .int z]) ++ List.replicate (9 - (lg_sl ([.ref mo, .int x, .int z])).length) Slot.unset).toArray = ls at hl ⊢
  have hl : lv_has ls 9 [(0, .ref mo), (1, .int x), (2, .int z)] := hl
  have hiX4 : ∀ w ∈ wsX40, w ∈ wsX4_within := by decide +kernel
  have hf39 := hts (.fieldLink RX4 39 "LandmarkLeaModel" "many" "I") (by decide +kernel)
  refine lv_aload_n hx hb dX4_within_0 rfl (lv_at hl 0 rfl) ?_
  refine lv_iload_n hx hb dX4_within_1 rfl (lv_at hl 1 rfl) ?_
  refine lv_iload_n hx hb dX4_within_2 rfl (lv_at hl 1 rfl) ?_
  have hPc := hP.sub (ws' := (MW cI cJ mo mN mD mP mH mR mQ mF mO near (nI n) (nI ec) (bI bt) dis par hubs rnks que far frm (nI vi) (nI cu) (nI pu) (nI pn) (nI wn) th)) [0, 1, 2, 3, 4, 5, 6, 7, 8] rfl
  refine x_ri (W.runV (As := [.int x, .int x]) (rest := []) ⟨hx, hb, hml, hown, hts⟩ (m_wrong l dG cI cJ mo mN mD mP mH mR mQ mF mO near n ec bt dis par hubs rnks que far frm vi cu pu pn wn th (by omega) x x) (cwV 2 hts gX4_within_X4_wrong rfl rfl rfl (by decide +kernel) ⟨Nat.le_of_ble_eq_true rfl, Nat.le_of_ble_eq_true rfl⟩) (RPc.pre hPc hK (va_recv hK.1 hPc (ci := 4) (q0 := 0) rfl rfl)) rfl rfl hl.1 rfl (lv_room (Nat.le_of_ble_eq_true rfl)) dX4_within_3 ⟨Nat.zero_le _, Nat.zero_le _⟩) ?_
  rw [hw0]
  refine lv_istore_n (lv' := [(3, .int (nI w)), (0, .ref mo), (1, .int x), (2, .int z)]) hx hb dX4_within_6 rfl hl (by decide) rfl (fun ls hl => ?_)
  refine lv_lconst (v := 0) hx hb dX4_within_7 rfl ?_
  refine lv_lstore (lv' := [(4, .long 0), (3, .int (nI w)), (0, .ref mo), (1, .int x), (2, .int z)]) hx hb dX4_within_8 hl (by decide) rfl (fun ls hl => ?_)
  refine lv_aload_n hx hb dX4_within_10 rfl (lv_at hl 2 rfl) ?_
  refine lv_iload_n hx hb dX4_within_11 rfl (lv_at hl 1 rfl) ?_
  refine lv_if_le (tgt := 19) hx hb dX4_within_12 (by decide) (fun h9 => absurd h9 (nI_nle (by omega) (by omega))) (fun _ => ?_)
  refine lv_iload_n hx hb dX4_within_15 rfl (lv_at hl 1 rfl) ?_
  refine lv_goto (tgt := 34) hx hb dX4_within_16 (by decide) ?_
  have hPc : va_P dG vwCl (MW cI cJ mo mN mD mP mH mR mQ mF mO near (nI n) (nI ec) (bI bt) dis par hubs rnks que far frm (nI vi) (nI cu) (nI pu) (nI pn) (nI wn) th ++ X) s.heap := hP
  have hDc : va_D A (MW cI cJ mo mN mD mP mH mR mQ mF mO near (nI n) (nI ec) (bI bt) dis par hubs rnks que far frm (nI vi) (nI cu) (nI pu) (nI pn) (nI wn) th ++ X) := hD
  refine va_calli (va_runV (As := [.int (nI w)]) (rest := []) ⟨hx, hb, hml, hown, hts⟩ (m_goes l dG cI cJ A mo mN mD mP mH mR mQ mF mO near n ec bt dis par hubs rnks que far frm vi cu pu pn wn th w (by omega) _) (cwV 1 hts gX4_within_X4_goes rfl rfl rfl (by decide +kernel) ⟨Nat.le_of_ble_eq_true rfl, Nat.le_of_ble_eq_true rfl⟩) (WPc.pre hPc hDc hK (va_recv hK.1 hPc (ci := 4) (q0 := 0) rfl rfl)) rfl rfl hl.1 rfl (lv_room (Nat.le_of_ble_eq_true rfl)) dX4_within_34 ⟨Nat.zero_le _, Nat.zero_le _⟩) hS (fun q _ h => h) (fun q h => h) (fun r9 u9 t H locs ht hvm hw hB hz1 hk1 hS => ?_)
  obtain ⟨hP, hD⟩ := hB
  rw [ht] at hP
  have hP : va_P dG vwCl (MW cI cJ mo mN mD mP mH mR mQ mF mO near (nI n) (nI ec) (bI bt) dis par hubs rnks que far frm (nI vi) (nI cu) (nI pu) (nI pn) (nI wn) (nI w) ++ X) H := hP
  have hD : va_D A (MW cI cJ mo mN mD mP mH mR mQ mF mO near (nI n) (nI ec) (bI bt) dis par hubs rnks que far frm (nI vi) (nI cu) (nI pu) (nI pn) (nI wn) (nI w) ++ X) := hD
  rw [show r9 = bI false from hw.trans (by rw [decide_eq_false hne])]
  refine lv_istore (lv' := [(6, .int (bI false)), (4, .long 0), (3, .int (nI w)), (0, .ref mo), (1, .int x), (2, .int z)]) hx hb dX4_within_37 hl (by decide) rfl (fun ls hl => ?_)
  refine lv_iconst (v := (nI 0)) hx hb dX4_within_39 (by decide) ?_
  refine lv_istore (lv' := [(7, .int (nI 0)), (6, .int (bI false)), (4, .long 0), (3, .int (nI w)), (0, .ref mo), (1, .int x), (2, .int z)]) hx hb dX4_within_40 hl (by decide) rfl (fun ls hl => ?_)
  refine lv_iload hx hb dX4_within_42 (lv_at hl 0 rfl) ?_
  refine lv_aload_n hx hb dX4_within_44 rfl (lv_at hl 4 rfl) ?_
  refine va_get (D := dG) (ci := 4) (v := .int (nI n)) (C := RX4) (T := TX4) (N := 17) hx hb hts hiX4 hown hK.1 hP 0 rfl rfl 1 (by decide) hf39 (fun _ h9 => h9) rfl dX4_within_45 ?_
  refine x_icmp_geN (i := 0) (j := n) (tgt := 96) hx hb (by omega) (by omega) dX4_within_48 (by decide) (fun c48 => ?_) (fun c48 => ?_)
  · skip
    refine lv_lload hx hb dX4_within_96 (lv_at hl 2 rfl) ?_
    exact W.lret (v := 0) hx hb hr (fun t ht hW => ⟨⟨_, (), rfl, rfl, by rw [ht]; exact hP, hD⟩, hS.F ht⟩) hS.2.2 dX4_within_98
  · skip
    refine lv_iload hx hb dX4_within_51 (lv_at hl 1 rfl) ?_
    refine x_ifeqB (tgt := 96) hx hb dX4_within_53 (by decide) (fun h9 => ?_) (fun h9 => absurd h9 (by decide))
    refine lv_lload hx hb dX4_within_96 (lv_at hl 2 rfl) ?_
    exact W.lret (v := 0) hx hb hr (fun t ht hW => ⟨⟨_, (), rfl, rfl, by rw [ht]; exact hP, hD⟩, hS.F ht⟩) hS.2.2 dX4_within_98

set_option maxHeartbeats 4000000 in
set_option maxRecDepth 100000 in
/-- reference: within -/
theorem m_within3 (l : Launch) (dG : va_G) (cI cJ : ClassId) (A : Nat → Prop) (mo mN mD mP mH mR mQ mF mO : Nat) (near : Nat → Int64) (n ec : Nat) (bt : Bool) (dis par hubs rnks que far frm : Nat → Int32) (vi cu pu pn wn : Nat) (th : Int32) (x z : Int32) (hn : n ≤ 48) (hw0 : wr x x n bt = 0) (hz9 : z < 0 ∨ nI 48 ≤ z) (X : va_W) : Met l yX4_within wsX4_within ({ frames := 3, cells := 0, slots := 0, locals := 73 } : Room) (WPc dG cI cJ [.ref mo, .int x, .int z] (MW cI cJ mo mN mD mP mH mR mQ mF mO near (nI n) (nI ec) (bI bt) dis par hubs rnks que far frm (nI vi) (nI cu) (nI pu) (nI pn) (nI wn) th ++ X) A) (va_Ql (S := Unit) (fun r _ => r = 0) (fun _ => WB dG A (MW cI cJ mo mN mD mP mH mR mQ mF mO near (nI n) (nI ec) (bI bt) dis par hubs rnks que far frm (nI vi) (nI cu) (nI pu) (nI pn) (nI wn) (nI 3) ++ X)) A) 0 0 A := by
  refine Met.ofW (cc := cX4_within) (maxL := 9) (ret := (some .long)) (by decide) rfl ?_
  intro p e s m args below meth c s₁ B9 hml hv
  obtain ⟨rfl, hP, hK, hD⟩ := hv
  have hx := B9.exec
  have hb := B9.bytes
  have hr := B9.returns
  have hts := atoms_spec (ws := wsX4_within) B9.pre
  have hown : s.vm.findClass RX4 = some m.cls := findClass_of_methodNamed B9.named
  have hlocks := B9.notSynchronized
  have hS : va_S A s.heap s.heap [] := va_S.rf
  have hl := lv_entry ([.ref mo, .int x, .int z]) (n := 9) (Nat.le_of_ble_eq_true rfl)
  rw [lg_entry_eq]
  generalize (lg_sl ([.ref mo, .int x, .int z]) ++ List.replicate (9 - (lg_sl ([.ref mo, .int x, .int z])).length) Slot.unset).toArray = ls at hl ⊢
  have hl : lv_has ls 9 [(0, .ref mo), (1, .int x), (2, .int z)] := hl
  have hiX4 : ∀ w ∈ wsX40, w ∈ wsX4_within := by decide +kernel
  have hf39 := hts (.fieldLink RX4 39 "LandmarkLeaModel" "many" "I") (by decide +kernel)
  refine lv_aload_n hx hb dX4_within_0 rfl (lv_at hl 0 rfl) ?_
  refine lv_iload_n hx hb dX4_within_1 rfl (lv_at hl 1 rfl) ?_
  refine lv_iload_n hx hb dX4_within_2 rfl (lv_at hl 1 rfl) ?_
  have hPc := hP.sub (ws' := (MW cI cJ mo mN mD mP mH mR mQ mF mO near (nI n) (nI ec) (bI bt) dis par hubs rnks que far frm (nI vi) (nI cu) (nI pu) (nI pn) (nI wn) th)) [0, 1, 2, 3, 4, 5, 6, 7, 8] rfl
  refine x_ri (W.runV (As := [.int x, .int x]) (rest := []) ⟨hx, hb, hml, hown, hts⟩ (m_wrong l dG cI cJ mo mN mD mP mH mR mQ mF mO near n ec bt dis par hubs rnks que far frm vi cu pu pn wn th (by omega) x x) (cwV 2 hts gX4_within_X4_wrong rfl rfl rfl (by decide +kernel) ⟨Nat.le_of_ble_eq_true rfl, Nat.le_of_ble_eq_true rfl⟩) (RPc.pre hPc hK (va_recv hK.1 hPc (ci := 4) (q0 := 0) rfl rfl)) rfl rfl hl.1 rfl (lv_room (Nat.le_of_ble_eq_true rfl)) dX4_within_3 ⟨Nat.zero_le _, Nat.zero_le _⟩) ?_
  rw [hw0]
  refine lv_istore_n (lv' := [(3, .int (nI 0)), (0, .ref mo), (1, .int x), (2, .int z)]) hx hb dX4_within_6 rfl hl (by decide) rfl (fun ls hl => ?_)
  refine lv_lconst (v := 0) hx hb dX4_within_7 rfl ?_
  refine lv_lstore (lv' := [(4, .long 0), (3, .int (nI 0)), (0, .ref mo), (1, .int x), (2, .int z)]) hx hb dX4_within_8 hl (by decide) rfl (fun ls hl => ?_)
  refine lv_aload_n hx hb dX4_within_10 rfl (lv_at hl 2 rfl) ?_
  refine lv_iload_n hx hb dX4_within_11 rfl (lv_at hl 1 rfl) ?_
  refine lv_if_le (tgt := 19) hx hb dX4_within_12 (by decide) (fun _ => ?_) (fun h9 => absurd (by decide) h9)
  refine lv_iload_n hx hb dX4_within_19 rfl (lv_at hl 4 rfl) ?_
  refine lv_if_lt (tgt := 29) hx hb dX4_within_20 (by decide) (fun c20 => ?_) (fun c20 => ?_)
  · skip
    refine lv_iconst (v := (nI 3)) hx hb dX4_within_29 (by decide) ?_
    refine lv_goto (tgt := 34) hx hb dX4_within_30 (by decide) ?_
    have hPc : va_P dG vwCl (MW cI cJ mo mN mD mP mH mR mQ mF mO near (nI n) (nI ec) (bI bt) dis par hubs rnks que far frm (nI vi) (nI cu) (nI pu) (nI pn) (nI wn) th ++ X) s.heap := hP
    have hDc : va_D A (MW cI cJ mo mN mD mP mH mR mQ mF mO near (nI n) (nI ec) (bI bt) dis par hubs rnks que far frm (nI vi) (nI cu) (nI pu) (nI pn) (nI wn) th ++ X) := hD
    refine va_calli (va_runV (As := [.int (nI 3)]) (rest := []) ⟨hx, hb, hml, hown, hts⟩ (m_goes l dG cI cJ A mo mN mD mP mH mR mQ mF mO near n ec bt dis par hubs rnks que far frm vi cu pu pn wn th 3 (by omega) _) (cwV 1 hts gX4_within_X4_goes rfl rfl rfl (by decide +kernel) ⟨Nat.le_of_ble_eq_true rfl, Nat.le_of_ble_eq_true rfl⟩) (WPc.pre hPc hDc hK (va_recv hK.1 hPc (ci := 4) (q0 := 0) rfl rfl)) rfl rfl hl.1 rfl (lv_room (Nat.le_of_ble_eq_true rfl)) dX4_within_34 ⟨Nat.zero_le _, Nat.zero_le _⟩) hS (fun q _ h => h) (fun q h => h) (fun r9 u9 t H locs ht hvm hw hB hz1 hk1 hS => ?_)
    obtain ⟨hP, hD⟩ := hB
    rw [ht] at hP
    have hP : va_P dG vwCl (MW cI cJ mo mN mD mP mH mR mQ mF mO near (nI n) (nI ec) (bI bt) dis par hubs rnks que far frm (nI vi) (nI cu) (nI pu) (nI pn) (nI wn) (nI 3) ++ X) H := hP
    have hD : va_D A (MW cI cJ mo mN mD mP mH mR mQ mF mO near (nI n) (nI ec) (bI bt) dis par hubs rnks que far frm (nI vi) (nI cu) (nI pu) (nI pn) (nI wn) (nI 3) ++ X) := hD
    rw [show r9 = bI false from hw]
    refine lv_istore (lv' := [(6, .int (bI false)), (4, .long 0), (3, .int (nI 0)), (0, .ref mo), (1, .int x), (2, .int z)]) hx hb dX4_within_37 hl (by decide) rfl (fun ls hl => ?_)
    refine lv_iconst (v := (nI 0)) hx hb dX4_within_39 (by decide) ?_
    refine lv_istore (lv' := [(7, .int (nI 0)), (6, .int (bI false)), (4, .long 0), (3, .int (nI 0)), (0, .ref mo), (1, .int x), (2, .int z)]) hx hb dX4_within_40 hl (by decide) rfl (fun ls hl => ?_)
    refine lv_iload hx hb dX4_within_42 (lv_at hl 0 rfl) ?_
    refine lv_aload_n hx hb dX4_within_44 rfl (lv_at hl 4 rfl) ?_
    refine va_get (D := dG) (ci := 4) (v := .int (nI n)) (C := RX4) (T := TX4) (N := 17) hx hb hts hiX4 hown hK.1 hP 0 rfl rfl 1 (by decide) hf39 (fun _ h9 => h9) rfl dX4_within_45 ?_
    refine x_icmp_geN (i := 0) (j := n) (tgt := 96) hx hb (by omega) (by omega) dX4_within_48 (by decide) (fun c48 => ?_) (fun c48 => ?_)
    · skip
      refine lv_lload hx hb dX4_within_96 (lv_at hl 2 rfl) ?_
      exact W.lret (v := 0) hx hb hr (fun t ht hW => ⟨⟨_, (), rfl, rfl, by rw [ht]; exact hP, hD⟩, hS.F ht⟩) hS.2.2 dX4_within_98
    · skip
      refine lv_iload hx hb dX4_within_51 (lv_at hl 1 rfl) ?_
      refine x_ifeqB (tgt := 96) hx hb dX4_within_53 (by decide) (fun h9 => ?_) (fun h9 => absurd h9 (by decide))
      refine lv_lload hx hb dX4_within_96 (lv_at hl 2 rfl) ?_
      exact W.lret (v := 0) hx hb hr (fun t ht hW => ⟨⟨_, (), rfl, rfl, by rw [ht]; exact hP, hD⟩, hS.F ht⟩) hS.2.2 dX4_within_98
  · skip
    refine lv_iload_n hx hb dX4_within_23 rfl (lv_at hl 4 rfl) ?_
    refine lv_bipush (v := (nI 48)) hx hb dX4_within_24 (by decide) ?_
    refine lv_icmp_lt (tgt := 33) hx hb dX4_within_26 (by decide) (fun c26 => ?_) (fun c26 => ?_)
    · skip
      exact absurd hz9 (fun q => q.elim c20 (fun z9 => absurd c26 (Int32.not_lt.mpr z9)))
    · skip
      refine lv_iconst (v := (nI 3)) hx hb dX4_within_29 (by decide) ?_
      refine lv_goto (tgt := 34) hx hb dX4_within_30 (by decide) ?_
      have hPc : va_P dG vwCl (MW cI cJ mo mN mD mP mH mR mQ mF mO near (nI n) (nI ec) (bI bt) dis par hubs rnks que far frm (nI vi) (nI cu) (nI pu) (nI pn) (nI wn) th ++ X) s.heap := hP
      have hDc : va_D A (MW cI cJ mo mN mD mP mH mR mQ mF mO near (nI n) (nI ec) (bI bt) dis par hubs rnks que far frm (nI vi) (nI cu) (nI pu) (nI pn) (nI wn) th ++ X) := hD
      refine va_calli (va_runV (As := [.int (nI 3)]) (rest := []) ⟨hx, hb, hml, hown, hts⟩ (m_goes l dG cI cJ A mo mN mD mP mH mR mQ mF mO near n ec bt dis par hubs rnks que far frm vi cu pu pn wn th 3 (by omega) _) (cwV 1 hts gX4_within_X4_goes rfl rfl rfl (by decide +kernel) ⟨Nat.le_of_ble_eq_true rfl, Nat.le_of_ble_eq_true rfl⟩) (WPc.pre hPc hDc hK (va_recv hK.1 hPc (ci := 4) (q0 := 0) rfl rfl)) rfl rfl hl.1 rfl (lv_room (Nat.le_of_ble_eq_true rfl)) dX4_within_34 ⟨Nat.zero_le _, Nat.zero_le _⟩) hS (fun q _ h => h) (fun q h => h) (fun r9 u9 t H locs ht hvm hw hB hz1 hk1 hS => ?_)
      obtain ⟨hP, hD⟩ := hB
      rw [ht] at hP
      have hP : va_P dG vwCl (MW cI cJ mo mN mD mP mH mR mQ mF mO near (nI n) (nI ec) (bI bt) dis par hubs rnks que far frm (nI vi) (nI cu) (nI pu) (nI pn) (nI wn) (nI 3) ++ X) H := hP
      have hD : va_D A (MW cI cJ mo mN mD mP mH mR mQ mF mO near (nI n) (nI ec) (bI bt) dis par hubs rnks que far frm (nI vi) (nI cu) (nI pu) (nI pn) (nI wn) (nI 3) ++ X) := hD
      rw [show r9 = bI false from hw]
      refine lv_istore (lv' := [(6, .int (bI false)), (4, .long 0), (3, .int (nI 0)), (0, .ref mo), (1, .int x), (2, .int z)]) hx hb dX4_within_37 hl (by decide) rfl (fun ls hl => ?_)
      refine lv_iconst (v := (nI 0)) hx hb dX4_within_39 (by decide) ?_
      refine lv_istore (lv' := [(7, .int (nI 0)), (6, .int (bI false)), (4, .long 0), (3, .int (nI 0)), (0, .ref mo), (1, .int x), (2, .int z)]) hx hb dX4_within_40 hl (by decide) rfl (fun ls hl => ?_)
      refine lv_iload hx hb dX4_within_42 (lv_at hl 0 rfl) ?_
      refine lv_aload_n hx hb dX4_within_44 rfl (lv_at hl 4 rfl) ?_
      refine va_get (D := dG) (ci := 4) (v := .int (nI n)) (C := RX4) (T := TX4) (N := 17) hx hb hts hiX4 hown hK.1 hP 0 rfl rfl 1 (by decide) hf39 (fun _ h9 => h9) rfl dX4_within_45 ?_
      refine x_icmp_geN (i := 0) (j := n) (tgt := 96) hx hb (by omega) (by omega) dX4_within_48 (by decide) (fun c48 => ?_) (fun c48 => ?_)
      · skip
        refine lv_lload hx hb dX4_within_96 (lv_at hl 2 rfl) ?_
        exact W.lret (v := 0) hx hb hr (fun t ht hW => ⟨⟨_, (), rfl, rfl, by rw [ht]; exact hP, hD⟩, hS.F ht⟩) hS.2.2 dX4_within_98
      · skip
        refine lv_iload hx hb dX4_within_51 (lv_at hl 1 rfl) ?_
        refine x_ifeqB (tgt := 96) hx hb dX4_within_53 (by decide) (fun h9 => ?_) (fun h9 => absurd h9 (by decide))
        refine lv_lload hx hb dX4_within_96 (lv_at hl 2 rfl) ?_
        exact W.lret (v := 0) hx hb hr (fun t ht hW => ⟨⟨_, (), rfl, rfl, by rw [ht]; exact hP, hD⟩, hS.F ht⟩) hS.2.2 dX4_within_98

set_option maxHeartbeats 4000000 in
set_option maxRecDepth 100000 in
/-- reference: within -/
theorem m_within (l : Launch) (dG : va_G) (cI cJ : ClassId) (A : Nat → Prop) (mo mN mD mP mH mR mQ mF mO : Nat) (near : Nat → Int64) (n ec : Nat) (bt : Bool) (dis par hubs rnks que far frm : Nat → Int32) (vi cu pu pn wn : Nat) (th : Int32) (L P : Nat → Nat → Option Nat) (hR : RepM 0 L P dis par) (hB : LBd L (2 ^ 30)) (hn : n ≤ 48) (u d : Nat) (hu : u < n) (hd : d < 48) (hw0 : wr (nI u) (nI u) n bt = 0) (X : va_W) : Met l yX4_within wsX4_within ({ frames := 3, cells := 0, slots := 0, locals := 73 } : Room) (WPc dG cI cJ [.ref mo, .int (nI u), .int (nI d)] (MW cI cJ mo mN mD mP mH mR mQ mF mO near (nI n) (nI ec) (bI bt) dis par hubs rnks que far frm (nI vi) (nI cu) (nI pu) (nI pn) (nI wn) th ++ X) A) (va_Ql (S := Unit) (fun r _ => r = wi L u n d n) (fun _ => WB dG A (MW cI cJ mo mN mD mP mH mR mQ mF mO near (nI n) (nI ec) (bI bt) dis par hubs rnks que far frm (nI vi) (nI cu) (nI pu) (nI pn) (nI wn) (nI 0) ++ X)) A) 0 0 A := by
  refine Met.ofW (cc := cX4_within) (maxL := 9) (ret := (some .long)) (by decide) rfl ?_
  intro p e s m args below meth c s₁ B9 hml hv
  obtain ⟨rfl, hP, hK, hD⟩ := hv
  have hx := B9.exec
  have hb := B9.bytes
  have hr := B9.returns
  have hts := atoms_spec (ws := wsX4_within) B9.pre
  have hown : s.vm.findClass RX4 = some m.cls := findClass_of_methodNamed B9.named
  have hlocks := B9.notSynchronized
  have hS : va_S A s.heap s.heap [] := va_S.rf
  have hl := lv_entry ([.ref mo, .int (nI u), .int (nI d)]) (n := 9) (Nat.le_of_ble_eq_true rfl)
  rw [lg_entry_eq]
  generalize (lg_sl ([.ref mo, .int (nI u), .int (nI d)]) ++ List.replicate (9 - (lg_sl ([.ref mo, .int (nI u), .int (nI d)])).length) Slot.unset).toArray = ls at hl ⊢
  have hl : lv_has ls 9 [(0, .ref mo), (1, .int (nI u)), (2, .int (nI d))] := hl
  have hiX4 : ∀ w ∈ wsX40, w ∈ wsX4_within := by decide +kernel
  have hf39 := hts (.fieldLink RX4 39 "LandmarkLeaModel" "many" "I") (by decide +kernel)
  refine lv_aload_n hx hb dX4_within_0 rfl (lv_at hl 0 rfl) ?_
  refine lv_iload_n hx hb dX4_within_1 rfl (lv_at hl 1 rfl) ?_
  refine lv_iload_n hx hb dX4_within_2 rfl (lv_at hl 1 rfl) ?_
  have hPc := hP.sub (ws' := (MW cI cJ mo mN mD mP mH mR mQ mF mO near (nI n) (nI ec) (bI bt) dis par hubs rnks que far frm (nI vi) (nI cu) (nI pu) (nI pn) (nI wn) th)) [0, 1, 2, 3, 4, 5, 6, 7, 8] rfl
  refine x_ri (W.runV (As := [.int (nI u), .int (nI u)]) (rest := []) ⟨hx, hb, hml, hown, hts⟩ (m_wrong l dG cI cJ mo mN mD mP mH mR mQ mF mO near n ec bt dis par hubs rnks que far frm vi cu pu pn wn th (by omega) (nI u) (nI u)) (cwV 2 hts gX4_within_X4_wrong rfl rfl rfl (by decide +kernel) ⟨Nat.le_of_ble_eq_true rfl, Nat.le_of_ble_eq_true rfl⟩) (RPc.pre hPc hK (va_recv hK.1 hPc (ci := 4) (q0 := 0) rfl rfl)) rfl rfl hl.1 rfl (lv_room (Nat.le_of_ble_eq_true rfl)) dX4_within_3 ⟨Nat.zero_le _, Nat.zero_le _⟩) ?_
  rw [hw0]
  refine lv_istore_n (lv' := [(3, .int (nI 0)), (0, .ref mo), (1, .int (nI u)), (2, .int (nI d))]) hx hb dX4_within_6 rfl hl (by decide) rfl (fun ls hl => ?_)
  refine lv_lconst (v := 0) hx hb dX4_within_7 rfl ?_
  refine lv_lstore (lv' := [(4, .long 0), (3, .int (nI 0)), (0, .ref mo), (1, .int (nI u)), (2, .int (nI d))]) hx hb dX4_within_8 hl (by decide) rfl (fun ls hl => ?_)
  refine lv_aload_n hx hb dX4_within_10 rfl (lv_at hl 2 rfl) ?_
  refine lv_iload_n hx hb dX4_within_11 rfl (lv_at hl 1 rfl) ?_
  refine lv_if_le (tgt := 19) hx hb dX4_within_12 (by decide) (fun _ => ?_) (fun h9 => absurd (by decide) h9)
  refine lv_iload_n hx hb dX4_within_19 rfl (lv_at hl 4 rfl) ?_
  refine x_ifltN (tgt := 29) hx hb (by omega) dX4_within_20 (by decide) ?_
  refine lv_iload_n hx hb dX4_within_23 rfl (lv_at hl 4 rfl) ?_
  refine lv_bipush (v := (nI 48)) hx hb dX4_within_24 (by decide) ?_
  refine x_icmp_ltN (i := d) (j := 48) (tgt := 33) hx hb (by omega) (by omega) dX4_within_26 (by decide) (fun c26 => ?_) (fun c26 => ?_)
  · skip
    refine lv_iconst (v := (nI 0)) hx hb dX4_within_33 (by decide) ?_
    have hPc : va_P dG vwCl (MW cI cJ mo mN mD mP mH mR mQ mF mO near (nI n) (nI ec) (bI bt) dis par hubs rnks que far frm (nI vi) (nI cu) (nI pu) (nI pn) (nI wn) th ++ X) s.heap := hP
    have hDc : va_D A (MW cI cJ mo mN mD mP mH mR mQ mF mO near (nI n) (nI ec) (bI bt) dis par hubs rnks que far frm (nI vi) (nI cu) (nI pu) (nI pn) (nI wn) th ++ X) := hD
    refine va_calli (va_runV (As := [.int (nI 0)]) (rest := []) ⟨hx, hb, hml, hown, hts⟩ (m_goes l dG cI cJ A mo mN mD mP mH mR mQ mF mO near n ec bt dis par hubs rnks que far frm vi cu pu pn wn th 0 (by omega) _) (cwV 1 hts gX4_within_X4_goes rfl rfl rfl (by decide +kernel) ⟨Nat.le_of_ble_eq_true rfl, Nat.le_of_ble_eq_true rfl⟩) (WPc.pre hPc hDc hK (va_recv hK.1 hPc (ci := 4) (q0 := 0) rfl rfl)) rfl rfl hl.1 rfl (lv_room (Nat.le_of_ble_eq_true rfl)) dX4_within_34 ⟨Nat.zero_le _, Nat.zero_le _⟩) hS (fun q _ h => h) (fun q h => h) (fun r9 u9 t H locs ht hvm hw hB hz1 hk1 hS => ?_)
    obtain ⟨hP, hD⟩ := hB
    rw [ht] at hP
    have hP : va_P dG vwCl (MW cI cJ mo mN mD mP mH mR mQ mF mO near (nI n) (nI ec) (bI bt) dis par hubs rnks que far frm (nI vi) (nI cu) (nI pu) (nI pn) (nI wn) (nI 0) ++ X) H := hP
    have hD : va_D A (MW cI cJ mo mN mD mP mH mR mQ mF mO near (nI n) (nI ec) (bI bt) dis par hubs rnks que far frm (nI vi) (nI cu) (nI pu) (nI pn) (nI wn) (nI 0) ++ X) := hD
    rw [show r9 = bI true from hw]
    refine lv_istore (lv' := [(6, .int (bI true)), (4, .long 0), (3, .int (nI 0)), (0, .ref mo), (1, .int (nI u)), (2, .int (nI d))]) hx hb dX4_within_37 hl (by decide) rfl (fun ls hl => ?_)
    refine lv_iconst (v := (nI 0)) hx hb dX4_within_39 (by decide) ?_
    refine lv_istore (lv' := [(7, .int (nI 0)), (6, .int (bI true)), (4, .long 0), (3, .int (nI 0)), (0, .ref mo), (1, .int (nI u)), (2, .int (nI d))]) hx hb dX4_within_40 hl (by decide) rfl (fun ls hl => ?_)
    have loop : ∀ (QQ : State → Prop) (n1 : Nat) (k : Nat), n < k + n1 → k ≤ n → (∀ (H : Heap) (locs : List Loc), va_P dG vwCl (MW cI cJ mo mN mD mP mH mR mQ mF mO near (nI n) (nI ec) (bI bt) dis par hubs rnks que far frm (nI vi) (nI cu) (nI pu) (nI pn) (nI wn) (nI 0) ++ X) H → va_D A (MW cI cJ mo mN mD mP mH mR mQ mF mO near (nI n) (nI ec) (bI bt) dis par hubs rnks que far frm (nI vi) (nI cu) (nI pu) (nI pn) (nI wn) (nI 0) ++ X) → va_S A s.heap H locs → ∀ ls : Array Slot, lv_has ls 9 [(0, .ref mo), (1, .int (nI u)), (2, .int (nI d)), (3, .int (nI 0)), (4, .long (wi L u n d n)), (6, .int (bI true)), (7, .int (nI n))] → W p l e ({ frames := 3, cells := 0, slots := 0, locals := 73 } : Room) s m ([.ref mo, .int (nI u), .int (nI d)] : List Value).toArray below meth c H locs 0 0 QQ (F0 m 96 ls [])) → ∀ (H : Heap) (locs : List Loc), va_P dG vwCl (MW cI cJ mo mN mD mP mH mR mQ mF mO near (nI n) (nI ec) (bI bt) dis par hubs rnks que far frm (nI vi) (nI cu) (nI pu) (nI pn) (nI wn) (nI 0) ++ X) H → va_D A (MW cI cJ mo mN mD mP mH mR mQ mF mO near (nI n) (nI ec) (bI bt) dis par hubs rnks que far frm (nI vi) (nI cu) (nI pu) (nI pn) (nI wn) (nI 0) ++ X) → va_S A s.heap H locs → ∀ ls : Array Slot, lv_has ls 9 [(0, .ref mo), (1, .int (nI u)), (2, .int (nI d)), (3, .int (nI 0)), (4, .long (wi L u n d k)), (6, .int (bI true)), (7, .int (nI k))] → W p l e ({ frames := 3, cells := 0, slots := 0, locals := 73 } : Room) s m ([.ref mo, .int (nI u), .int (nI d)] : List Value).toArray below meth c H locs 0 0 QQ (F0 m 42 ls []) := by
      intro QQ n1
      induction n1 with
      | zero => intro k h1 h2; exact absurd h1 (by omega)
      | succ n1 ih =>
        intro k h1 h2 kx H locs hP hD hS ls hl
        refine lv_iload hx hb dX4_within_42 (lv_at hl 6 rfl) ?_
        refine lv_aload_n hx hb dX4_within_44 rfl (lv_at hl 0 rfl) ?_
        refine va_get (D := dG) (ci := 4) (v := .int (nI n)) (C := RX4) (T := TX4) (N := 17) hx hb hts hiX4 hown hK.1 hP 0 rfl rfl 1 (by decide) hf39 (fun _ h9 => h9) rfl dX4_within_45 ?_
        refine x_icmp_geN (i := k) (j := n) (tgt := 96) hx hb (by omega) (by omega) dX4_within_48 (by decide) (fun c48 => ?_) (fun c48 => ?_)
        · skip
          have ek : k = n := by omega
          subst ek
          exact kx  H locs hP hD hS ls (lv_sub hl [0, 1, 2, 3, 4, 5, 6] rfl)
        · skip
          refine lv_iload hx hb dX4_within_51 (lv_at hl 5 rfl) ?_
          refine x_ifeqB (tgt := 96) hx hb dX4_within_53 (by decide) (fun h9 => absurd h9 (by decide)) (fun h9 => ?_)
          refine lv_aload_n hx hb dX4_within_56 rfl (lv_at hl 0 rfl) ?_
          refine lv_iload_n hx hb dX4_within_57 rfl (lv_at hl 1 rfl) ?_
          refine lv_iload hx hb dX4_within_58 (lv_at hl 6 rfl) ?_
          have hPc := hP.sub (ws' := (MW cI cJ mo mN mD mP mH mR mQ mF mO near (nI n) (nI ec) (bI bt) dis par hubs rnks que far frm (nI vi) (nI cu) (nI pu) (nI pn) (nI wn) (nI 0))) [0, 1, 2, 3, 4, 5, 6, 7, 8] rfl
          refine x_ri (W.runV (As := [.int (nI u), .int (nI k)]) (rest := []) ⟨hx, hb, hml, hown, hts⟩ (m_between l dG cI cJ mo mN mD mP mH mR mQ mF mO near n ec bt dis par hubs rnks que far frm vi cu pu pn wn (nI 0) L P hR hB hn (by omega) u k (by omega) (by omega)) (cwV 2 hts gX4_within_X4_between rfl rfl rfl (by decide +kernel) ⟨Nat.le_of_ble_eq_true rfl, Nat.le_of_ble_eq_true rfl⟩) (RPc.pre hPc hK (va_recv hK.1 hPc (ci := 4) (q0 := 0) rfl rfl)) rfl rfl hl.1 rfl (lv_room (Nat.le_of_ble_eq_true rfl)) dX4_within_60 ⟨Nat.zero_le _, Nat.zero_le _⟩) ?_
          refine lv_istore (lv' := [(8, .int (eN (es L u k n))), (0, .ref mo), (1, .int (nI u)), (2, .int (nI d)), (3, .int (nI 0)), (4, .long (wi L u n d k)), (6, .int (bI true)), (7, .int (nI k))]) hx hb dX4_within_63 hl (by decide) rfl (fun ls hl => ?_)
          rcases ee : es L u k n with _ | q
          · skip
            have hl : lv_has ls 9 [(8, .int (-1)), (0, .ref mo), (1, .int (nI u)), (2, .int (nI d)), (3, .int (nI 0)), (4, .long (wi L u n d k)), (6, .int (bI true)), (7, .int (nI k))] := by rw [ee] at hl; exact hl
            refine lv_lload hx hb dX4_within_65 (lv_at hl 5 rfl) ?_
            refine lv_iload hx hb dX4_within_67 (lv_at hl 0 rfl) ?_
            refine lv_iconst (v := (-1)) hx hb dX4_within_69 (by decide) ?_
            refine x_eqM_M (tgt := 86) hx hb dX4_within_70 (by decide) ?_
            refine lv_lconst (v := 0) hx hb dX4_within_86 rfl ?_
            refine lv_lor hx hb dX4_within_87 ?_
            refine lv_lstore (lv' := [(4, .long ((wi L u n d k) ||| 0)), (8, .int (-1)), (0, .ref mo), (1, .int (nI u)), (2, .int (nI d)), (3, .int (nI 0)), (6, .int (bI true)), (7, .int (nI k))]) hx hb dX4_within_88 hl (by decide) rfl (fun ls hl => ?_)
            refine x_iincN (lv' := [(7, .int (nI (k + 1))), (4, .long ((wi L u n d k) ||| 0)), (8, .int (-1)), (0, .ref mo), (1, .int (nI u)), (2, .int (nI d)), (3, .int (nI 0)), (6, .int (bI true))]) hx hb dX4_within_90 hl (k := 7) rfl (by decide) rfl (fun ls hl => ?_)
            refine lv_goto (tgt := 42) hx hb dX4_within_93 (by decide) ?_
            have hl : lv_has ls 9 [(7, .int (nI (k + 1))), (4, .long (wi L u n d (k + 1))), (8, .int (-1)), (0, .ref mo), (1, .int (nI u)), (2, .int (nI d)), (3, .int (nI 0)), (6, .int (bI true))] := by rw [wi_no (by rw [ee]; rfl)]; exact hl
            exact ih (k + 1) (by omega) (by omega) kx H locs hP hD hS ls (lv_sub hl [3, 4, 5, 6, 1, 7, 0] rfl)
          · skip
            have hl : lv_has ls 9 [(8, .int (nI q)), (0, .ref mo), (1, .int (nI u)), (2, .int (nI d)), (3, .int (nI 0)), (4, .long (wi L u n d k)), (6, .int (bI true)), (7, .int (nI k))] := by rw [ee] at hl; exact hl
            have hq9 := es_lt hB ee
            refine lv_lload hx hb dX4_within_65 (lv_at hl 5 rfl) ?_
            refine lv_iload hx hb dX4_within_67 (lv_at hl 0 rfl) ?_
            refine lv_iconst (v := (-1)) hx hb dX4_within_69 (by decide) ?_
            refine x_eqM_N (tgt := 86) hx hb (by omega) dX4_within_70 (by decide) ?_
            refine lv_iload hx hb dX4_within_73 (lv_at hl 0 rfl) ?_
            refine lv_iload_n hx hb dX4_within_75 rfl (lv_at hl 3 rfl) ?_
            refine x_icmp_gtN (i := q) (j := d) (tgt := 86) hx hb (by omega) (by omega) dX4_within_76 (by decide) (fun c76 => ?_) (fun c76 => ?_)
            · skip
              refine lv_lconst (v := 0) hx hb dX4_within_86 rfl ?_
              refine lv_lor hx hb dX4_within_87 ?_
              refine lv_lstore (lv' := [(4, .long ((wi L u n d k) ||| 0)), (8, .int (nI q)), (0, .ref mo), (1, .int (nI u)), (2, .int (nI d)), (3, .int (nI 0)), (6, .int (bI true)), (7, .int (nI k))]) hx hb dX4_within_88 hl (by decide) rfl (fun ls hl => ?_)
              refine x_iincN (lv' := [(7, .int (nI (k + 1))), (4, .long ((wi L u n d k) ||| 0)), (8, .int (nI q)), (0, .ref mo), (1, .int (nI u)), (2, .int (nI d)), (3, .int (nI 0)), (6, .int (bI true))]) hx hb dX4_within_90 hl (k := 7) rfl (by decide) rfl (fun ls hl => ?_)
              refine lv_goto (tgt := 42) hx hb dX4_within_93 (by decide) ?_
              have hl : lv_has ls 9 [(7, .int (nI (k + 1))), (4, .long (wi L u n d (k + 1))), (8, .int (nI q)), (0, .ref mo), (1, .int (nI u)), (2, .int (nI d)), (3, .int (nI 0)), (6, .int (bI true))] := by rw [wi_far ee c76]; exact hl
              exact ih (k + 1) (by omega) (by omega) kx H locs hP hD hS ls (lv_sub hl [3, 4, 5, 6, 1, 7, 0] rfl)
            · skip
              refine lv_lconst (v := 1) hx hb dX4_within_79 rfl ?_
              refine lv_iload hx hb dX4_within_80 (lv_at hl 7 rfl) ?_
              refine lv_lshl (v := (1 <<< ((nI k).toInt64 &&& 63))) hx hb dX4_within_82 rfl ?_
              refine lv_goto (tgt := 87) hx hb dX4_within_83 (by decide) ?_
              refine lv_lor hx hb dX4_within_87 ?_
              refine lv_lstore (lv' := [(4, .long ((wi L u n d k) ||| (1 <<< ((nI k).toInt64 &&& 63)))), (8, .int (nI q)), (0, .ref mo), (1, .int (nI u)), (2, .int (nI d)), (3, .int (nI 0)), (6, .int (bI true)), (7, .int (nI k))]) hx hb dX4_within_88 hl (by decide) rfl (fun ls hl => ?_)
              refine x_iincN (lv' := [(7, .int (nI (k + 1))), (4, .long ((wi L u n d k) ||| (1 <<< ((nI k).toInt64 &&& 63)))), (8, .int (nI q)), (0, .ref mo), (1, .int (nI u)), (2, .int (nI d)), (3, .int (nI 0)), (6, .int (bI true))]) hx hb dX4_within_90 hl (k := 7) rfl (by decide) rfl (fun ls hl => ?_)
              refine lv_goto (tgt := 42) hx hb dX4_within_93 (by decide) ?_
              have hl : lv_has ls 9 [(7, .int (nI (k + 1))), (4, .long (wi L u n d (k + 1))), (8, .int (nI q)), (0, .ref mo), (1, .int (nI u)), (2, .int (nI d)), (3, .int (nI 0)), (6, .int (bI true))] := by rw [wi_yes ee c76]; exact hl
              exact ih (k + 1) (by omega) (by omega) kx H locs hP hD hS ls (lv_sub hl [3, 4, 5, 6, 1, 7, 0] rfl)
    refine loop _ 49 0 (by omega) (by omega) (fun  H locs hP hD hS ls hl => ?_) H locs hP hD hS ls (lv_sub hl [4, 5, 6, 3, 2, 1, 0] rfl)
    refine lv_lload hx hb dX4_within_96 (lv_at hl 4 rfl) ?_
    exact W.lret (v := (wi L u n d n)) hx hb hr (fun t ht hW => ⟨⟨_, (), rfl, rfl, by rw [ht]; exact hP, hD⟩, hS.F ht⟩) hS.2.2 dX4_within_98
  · skip
    exact absurd c26 (by omega)

set_option maxHeartbeats 4000000 in
set_option maxRecDepth 100000 in
/-- reference: eccentricity -/
theorem m_eccentricityX (l : Launch) (dG : va_G) (cI cJ : ClassId) (A : Nat → Prop) (mo mN mD mP mH mR mQ mF mO : Nat) (near : Nat → Int64) (n ec : Nat) (bt : Bool) (dis par hubs rnks que far frm : Nat → Int32) (vi cu pu pn wn : Nat) (th : Int32) (x : Int32) (hn : n ≤ 48) (w : Nat) (hw9 : w < 4) (hne : ¬ w = 0) (hw0 : wr x x n bt = w) (X : va_W) : Met l yX4_eccentricity wsX4_eccentricity ({ frames := 3, cells := 0, slots := 0, locals := 73 } : Room) (WPc dG cI cJ [.ref mo, .int x] (MW cI cJ mo mN mD mP mH mR mQ mF mO near (nI n) (nI ec) (bI bt) dis par hubs rnks que far frm (nI vi) (nI cu) (nI pu) (nI pn) (nI wn) th ++ X) A) (va_Qi (S := Unit) (fun r _ => r = nI 0) (fun _ => WB dG A (MW cI cJ mo mN mD mP mH mR mQ mF mO near (nI n) (nI ec) (bI bt) dis par hubs rnks que far frm (nI vi) (nI cu) (nI pu) (nI pn) (nI wn) (nI w) ++ X)) A) 0 0 A := by
  refine Met.ofW (cc := cX4_eccentricity) (maxL := 6) (ret := (some .int)) (by decide) rfl ?_
  intro p e s m args below meth c s₁ B9 hml hv
  obtain ⟨rfl, hP, hK, hD⟩ := hv
  have hx := B9.exec
  have hb := B9.bytes
  have hr := B9.returns
  have hts := atoms_spec (ws := wsX4_eccentricity) B9.pre
  have hown : s.vm.findClass RX4 = some m.cls := findClass_of_methodNamed B9.named
  have hlocks := B9.notSynchronized
  have hS : va_S A s.heap s.heap [] := va_S.rf
  have hl := lv_entry ([.ref mo, .int x]) (n := 6) (Nat.le_of_ble_eq_true rfl)
  rw [lg_entry_eq]
  generalize (lg_sl ([.ref mo, .int x]) ++ List.replicate (6 - (lg_sl ([.ref mo, .int x])).length) Slot.unset).toArray = ls at hl ⊢
  have hl : lv_has ls 6 [(0, .ref mo), (1, .int x)] := hl
  have hiX4 : ∀ w ∈ wsX40, w ∈ wsX4_eccentricity := by decide +kernel
  have hf39 := hts (.fieldLink RX4 39 "LandmarkLeaModel" "many" "I") (by decide +kernel)
  refine lv_iconst (v := (nI 0)) hx hb dX4_eccentricity_0 (by decide) ?_
  refine lv_istore_n (lv' := [(2, .int (nI 0)), (0, .ref mo), (1, .int x)]) hx hb dX4_eccentricity_1 rfl hl (by decide) rfl (fun ls hl => ?_)
  refine lv_aload_n hx hb dX4_eccentricity_2 rfl (lv_at hl 1 rfl) ?_
  refine lv_aload_n hx hb dX4_eccentricity_3 rfl (lv_at hl 1 rfl) ?_
  refine lv_iload_n hx hb dX4_eccentricity_4 rfl (lv_at hl 2 rfl) ?_
  refine lv_iload_n hx hb dX4_eccentricity_5 rfl (lv_at hl 2 rfl) ?_
  have hPc := hP.sub (ws' := (MW cI cJ mo mN mD mP mH mR mQ mF mO near (nI n) (nI ec) (bI bt) dis par hubs rnks que far frm (nI vi) (nI cu) (nI pu) (nI pn) (nI wn) th)) [0, 1, 2, 3, 4, 5, 6, 7, 8] rfl
  refine x_ri (W.runV (As := [.int x, .int x]) (rest := [.ref mo]) ⟨hx, hb, hml, hown, hts⟩ (m_wrong l dG cI cJ mo mN mD mP mH mR mQ mF mO near n ec bt dis par hubs rnks que far frm vi cu pu pn wn th (by omega) x x) (cwV 2 hts gX4_eccentricity_X4_wrong rfl rfl rfl (by decide +kernel) ⟨Nat.le_of_ble_eq_true rfl, Nat.le_of_ble_eq_true rfl⟩) (RPc.pre hPc hK (va_recv hK.1 hPc (ci := 4) (q0 := 0) rfl rfl)) rfl rfl hl.1 rfl (lv_room (Nat.le_of_ble_eq_true rfl)) dX4_eccentricity_6 ⟨Nat.zero_le _, Nat.zero_le _⟩) ?_
  rw [hw0]
  have hPc : va_P dG vwCl (MW cI cJ mo mN mD mP mH mR mQ mF mO near (nI n) (nI ec) (bI bt) dis par hubs rnks que far frm (nI vi) (nI cu) (nI pu) (nI pn) (nI wn) th ++ X) s.heap := hP
  have hDc : va_D A (MW cI cJ mo mN mD mP mH mR mQ mF mO near (nI n) (nI ec) (bI bt) dis par hubs rnks que far frm (nI vi) (nI cu) (nI pu) (nI pn) (nI wn) th ++ X) := hD
  refine va_calli (va_runV (As := [.int (nI w)]) (rest := []) ⟨hx, hb, hml, hown, hts⟩ (m_goes l dG cI cJ A mo mN mD mP mH mR mQ mF mO near n ec bt dis par hubs rnks que far frm vi cu pu pn wn th w (by omega) _) (cwV 1 hts gX4_eccentricity_X4_goes rfl rfl rfl (by decide +kernel) ⟨Nat.le_of_ble_eq_true rfl, Nat.le_of_ble_eq_true rfl⟩) (WPc.pre hPc hDc hK (va_recv hK.1 hPc (ci := 4) (q0 := 0) rfl rfl)) rfl rfl hl.1 rfl (lv_room (Nat.le_of_ble_eq_true rfl)) dX4_eccentricity_9 ⟨Nat.zero_le _, Nat.zero_le _⟩) hS (fun q _ h => h) (fun q h => h) (fun r9 u9 t H locs ht hvm hw hB hz1 hk1 hS => ?_)
  obtain ⟨hP, hD⟩ := hB
  rw [ht] at hP
  have hP : va_P dG vwCl (MW cI cJ mo mN mD mP mH mR mQ mF mO near (nI n) (nI ec) (bI bt) dis par hubs rnks que far frm (nI vi) (nI cu) (nI pu) (nI pn) (nI wn) (nI w) ++ X) H := hP
  have hD : va_D A (MW cI cJ mo mN mD mP mH mR mQ mF mO near (nI n) (nI ec) (bI bt) dis par hubs rnks que far frm (nI vi) (nI cu) (nI pu) (nI pn) (nI wn) (nI w) ++ X) := hD
  rw [show r9 = bI false from hw.trans (by rw [decide_eq_false hne])]
  refine lv_istore_n (lv' := [(3, .int (bI false)), (2, .int (nI 0)), (0, .ref mo), (1, .int x)]) hx hb dX4_eccentricity_12 rfl hl (by decide) rfl (fun ls hl => ?_)
  refine lv_iconst (v := (nI 0)) hx hb dX4_eccentricity_13 (by decide) ?_
  refine lv_istore (lv' := [(4, .int (nI 0)), (3, .int (bI false)), (2, .int (nI 0)), (0, .ref mo), (1, .int x)]) hx hb dX4_eccentricity_14 hl (by decide) rfl (fun ls hl => ?_)
  refine lv_iload hx hb dX4_eccentricity_16 (lv_at hl 0 rfl) ?_
  refine lv_aload_n hx hb dX4_eccentricity_18 rfl (lv_at hl 3 rfl) ?_
  refine va_get (D := dG) (ci := 4) (v := .int (nI n)) (C := RX4) (T := TX4) (N := 17) hx hb hts hiX4 hown hK.1 hP 0 rfl rfl 1 (by decide) hf39 (fun _ h9 => h9) rfl dX4_eccentricity_19 ?_
  refine x_icmp_geN (i := 0) (j := n) (tgt := 57) hx hb (by omega) (by omega) dX4_eccentricity_22 (by decide) (fun c22 => ?_) (fun c22 => ?_)
  · skip
    refine lv_iload_n hx hb dX4_eccentricity_57 rfl (lv_at hl 2 rfl) ?_
    exact W.iret (v := (nI 0)) hx hb hr (fun t ht hW => ⟨⟨_, (), rfl, rfl, by rw [ht]; exact hP, hD⟩, hS.F ht⟩) hS.2.2 dX4_eccentricity_58
  · skip
    refine lv_iload_n hx hb dX4_eccentricity_25 rfl (lv_at hl 1 rfl) ?_
    refine x_ifeqB (tgt := 57) hx hb dX4_eccentricity_26 (by decide) (fun h9 => ?_) (fun h9 => absurd h9 (by decide))
    refine lv_iload_n hx hb dX4_eccentricity_57 rfl (lv_at hl 2 rfl) ?_
    exact W.iret (v := (nI 0)) hx hb hr (fun t ht hW => ⟨⟨_, (), rfl, rfl, by rw [ht]; exact hP, hD⟩, hS.F ht⟩) hS.2.2 dX4_eccentricity_58

set_option maxHeartbeats 4000000 in
set_option maxRecDepth 100000 in
/-- reference: eccentricity -/
theorem m_eccentricity (l : Launch) (dG : va_G) (cI cJ : ClassId) (A : Nat → Prop) (mo mN mD mP mH mR mQ mF mO : Nat) (near : Nat → Int64) (n ec : Nat) (bt : Bool) (dis par hubs rnks que far frm : Nat → Int32) (vi cu pu pn wn : Nat) (th : Int32) (L P : Nat → Nat → Option Nat) (hR : RepM 0 L P dis par) (hB : LBd L (2 ^ 30)) (hn : n ≤ 48) (u : Nat) (hu : u < n) (hw0 : wr (nI u) (nI u) n bt = 0) (X : va_W) : Met l yX4_eccentricity wsX4_eccentricity ({ frames := 3, cells := 0, slots := 0, locals := 73 } : Room) (WPc dG cI cJ [.ref mo, .int (nI u)] (MW cI cJ mo mN mD mP mH mR mQ mF mO near (nI n) (nI ec) (bI bt) dis par hubs rnks que far frm (nI vi) (nI cu) (nI pu) (nI pn) (nI wn) th ++ X) A) (va_Qi (S := Unit) (fun r _ => r = nI (ecc L u n n)) (fun _ => WB dG A (MW cI cJ mo mN mD mP mH mR mQ mF mO near (nI n) (nI ec) (bI bt) dis par hubs rnks que far frm (nI vi) (nI cu) (nI pu) (nI pn) (nI wn) (nI 0) ++ X)) A) 0 0 A := by
  refine Met.ofW (cc := cX4_eccentricity) (maxL := 6) (ret := (some .int)) (by decide) rfl ?_
  intro p e s m args below meth c s₁ B9 hml hv
  obtain ⟨rfl, hP, hK, hD⟩ := hv
  have hx := B9.exec
  have hb := B9.bytes
  have hr := B9.returns
  have hts := atoms_spec (ws := wsX4_eccentricity) B9.pre
  have hown : s.vm.findClass RX4 = some m.cls := findClass_of_methodNamed B9.named
  have hlocks := B9.notSynchronized
  have hS : va_S A s.heap s.heap [] := va_S.rf
  have hl := lv_entry ([.ref mo, .int (nI u)]) (n := 6) (Nat.le_of_ble_eq_true rfl)
  rw [lg_entry_eq]
  generalize (lg_sl ([.ref mo, .int (nI u)]) ++ List.replicate (6 - (lg_sl ([.ref mo, .int (nI u)])).length) Slot.unset).toArray = ls at hl ⊢
  have hl : lv_has ls 6 [(0, .ref mo), (1, .int (nI u))] := hl
  have hiX4 : ∀ w ∈ wsX40, w ∈ wsX4_eccentricity := by decide +kernel
  have hf39 := hts (.fieldLink RX4 39 "LandmarkLeaModel" "many" "I") (by decide +kernel)
  refine lv_iconst (v := (nI 0)) hx hb dX4_eccentricity_0 (by decide) ?_
  refine lv_istore_n (lv' := [(2, .int (nI 0)), (0, .ref mo), (1, .int (nI u))]) hx hb dX4_eccentricity_1 rfl hl (by decide) rfl (fun ls hl => ?_)
  refine lv_aload_n hx hb dX4_eccentricity_2 rfl (lv_at hl 1 rfl) ?_
  refine lv_aload_n hx hb dX4_eccentricity_3 rfl (lv_at hl 1 rfl) ?_
  refine lv_iload_n hx hb dX4_eccentricity_4 rfl (lv_at hl 2 rfl) ?_
  refine lv_iload_n hx hb dX4_eccentricity_5 rfl (lv_at hl 2 rfl) ?_
  have hPc := hP.sub (ws' := (MW cI cJ mo mN mD mP mH mR mQ mF mO near (nI n) (nI ec) (bI bt) dis par hubs rnks que far frm (nI vi) (nI cu) (nI pu) (nI pn) (nI wn) th)) [0, 1, 2, 3, 4, 5, 6, 7, 8] rfl
  refine x_ri (W.runV (As := [.int (nI u), .int (nI u)]) (rest := [.ref mo]) ⟨hx, hb, hml, hown, hts⟩ (m_wrong l dG cI cJ mo mN mD mP mH mR mQ mF mO near n ec bt dis par hubs rnks que far frm vi cu pu pn wn th (by omega) (nI u) (nI u)) (cwV 2 hts gX4_eccentricity_X4_wrong rfl rfl rfl (by decide +kernel) ⟨Nat.le_of_ble_eq_true rfl, Nat.le_of_ble_eq_true rfl⟩) (RPc.pre hPc hK (va_recv hK.1 hPc (ci := 4) (q0 := 0) rfl rfl)) rfl rfl hl.1 rfl (lv_room (Nat.le_of_ble_eq_true rfl)) dX4_eccentricity_6 ⟨Nat.zero_le _, Nat.zero_le _⟩) ?_
  rw [hw0]
  have hPc : va_P dG vwCl (MW cI cJ mo mN mD mP mH mR mQ mF mO near (nI n) (nI ec) (bI bt) dis par hubs rnks que far frm (nI vi) (nI cu) (nI pu) (nI pn) (nI wn) th ++ X) s.heap := hP
  have hDc : va_D A (MW cI cJ mo mN mD mP mH mR mQ mF mO near (nI n) (nI ec) (bI bt) dis par hubs rnks que far frm (nI vi) (nI cu) (nI pu) (nI pn) (nI wn) th ++ X) := hD
  refine va_calli (va_runV (As := [.int (nI 0)]) (rest := []) ⟨hx, hb, hml, hown, hts⟩ (m_goes l dG cI cJ A mo mN mD mP mH mR mQ mF mO near n ec bt dis par hubs rnks que far frm vi cu pu pn wn th 0 (by omega) _) (cwV 1 hts gX4_eccentricity_X4_goes rfl rfl rfl (by decide +kernel) ⟨Nat.le_of_ble_eq_true rfl, Nat.le_of_ble_eq_true rfl⟩) (WPc.pre hPc hDc hK (va_recv hK.1 hPc (ci := 4) (q0 := 0) rfl rfl)) rfl rfl hl.1 rfl (lv_room (Nat.le_of_ble_eq_true rfl)) dX4_eccentricity_9 ⟨Nat.zero_le _, Nat.zero_le _⟩) hS (fun q _ h => h) (fun q h => h) (fun r9 u9 t H locs ht hvm hw hB hz1 hk1 hS => ?_)
  obtain ⟨hP, hD⟩ := hB
  rw [ht] at hP
  have hP : va_P dG vwCl (MW cI cJ mo mN mD mP mH mR mQ mF mO near (nI n) (nI ec) (bI bt) dis par hubs rnks que far frm (nI vi) (nI cu) (nI pu) (nI pn) (nI wn) (nI 0) ++ X) H := hP
  have hD : va_D A (MW cI cJ mo mN mD mP mH mR mQ mF mO near (nI n) (nI ec) (bI bt) dis par hubs rnks que far frm (nI vi) (nI cu) (nI pu) (nI pn) (nI wn) (nI 0) ++ X) := hD
  rw [show r9 = bI true from hw]
  refine lv_istore_n (lv' := [(3, .int (bI true)), (2, .int (nI 0)), (0, .ref mo), (1, .int (nI u))]) hx hb dX4_eccentricity_12 rfl hl (by decide) rfl (fun ls hl => ?_)
  refine lv_iconst (v := (nI 0)) hx hb dX4_eccentricity_13 (by decide) ?_
  refine lv_istore (lv' := [(4, .int (nI 0)), (3, .int (bI true)), (2, .int (nI 0)), (0, .ref mo), (1, .int (nI u))]) hx hb dX4_eccentricity_14 hl (by decide) rfl (fun ls hl => ?_)
  have loop : ∀ (QQ : State → Prop) (n1 : Nat) (k : Nat), n < k + n1 → k ≤ n → ecc L u n k < 2 ^ 31 → (∀ (H : Heap) (locs : List Loc), va_P dG vwCl (MW cI cJ mo mN mD mP mH mR mQ mF mO near (nI n) (nI ec) (bI bt) dis par hubs rnks que far frm (nI vi) (nI cu) (nI pu) (nI pn) (nI wn) (nI 0) ++ X) H → va_D A (MW cI cJ mo mN mD mP mH mR mQ mF mO near (nI n) (nI ec) (bI bt) dis par hubs rnks que far frm (nI vi) (nI cu) (nI pu) (nI pn) (nI wn) (nI 0) ++ X) → va_S A s.heap H locs → ∀ ls : Array Slot, lv_has ls 6 [(0, .ref mo), (1, .int (nI u)), (2, .int (nI (ecc L u n n))), (3, .int (bI true)), (4, .int (nI n))] → W p l e ({ frames := 3, cells := 0, slots := 0, locals := 73 } : Room) s m ([.ref mo, .int (nI u)] : List Value).toArray below meth c H locs 0 0 QQ (F0 m 57 ls [])) → ∀ (H : Heap) (locs : List Loc), va_P dG vwCl (MW cI cJ mo mN mD mP mH mR mQ mF mO near (nI n) (nI ec) (bI bt) dis par hubs rnks que far frm (nI vi) (nI cu) (nI pu) (nI pn) (nI wn) (nI 0) ++ X) H → va_D A (MW cI cJ mo mN mD mP mH mR mQ mF mO near (nI n) (nI ec) (bI bt) dis par hubs rnks que far frm (nI vi) (nI cu) (nI pu) (nI pn) (nI wn) (nI 0) ++ X) → va_S A s.heap H locs → ∀ ls : Array Slot, lv_has ls 6 [(0, .ref mo), (1, .int (nI u)), (2, .int (nI (ecc L u n k))), (3, .int (bI true)), (4, .int (nI k))] → W p l e ({ frames := 3, cells := 0, slots := 0, locals := 73 } : Room) s m ([.ref mo, .int (nI u)] : List Value).toArray below meth c H locs 0 0 QQ (F0 m 16 ls []) := by
    intro QQ n1
    induction n1 with
    | zero => intro k h1 h2 h3; exact absurd h1 (by omega)
    | succ n1 ih =>
      intro k h1 h2 h3 kx H locs hP hD hS ls hl
      refine lv_iload hx hb dX4_eccentricity_16 (lv_at hl 4 rfl) ?_
      refine lv_aload_n hx hb dX4_eccentricity_18 rfl (lv_at hl 0 rfl) ?_
      refine va_get (D := dG) (ci := 4) (v := .int (nI n)) (C := RX4) (T := TX4) (N := 17) hx hb hts hiX4 hown hK.1 hP 0 rfl rfl 1 (by decide) hf39 (fun _ h9 => h9) rfl dX4_eccentricity_19 ?_
      refine x_icmp_geN (i := k) (j := n) (tgt := 57) hx hb (by omega) (by omega) dX4_eccentricity_22 (by decide) (fun c22 => ?_) (fun c22 => ?_)
      · skip
        have ek : k = n := by omega
        subst ek
        exact kx  H locs hP hD hS ls (lv_sub hl [0, 1, 2, 3, 4] rfl)
      · skip
        refine lv_iload_n hx hb dX4_eccentricity_25 rfl (lv_at hl 3 rfl) ?_
        refine x_ifeqB (tgt := 57) hx hb dX4_eccentricity_26 (by decide) (fun h9 => absurd h9 (by decide)) (fun h9 => ?_)
        refine lv_aload_n hx hb dX4_eccentricity_29 rfl (lv_at hl 0 rfl) ?_
        refine lv_iload_n hx hb dX4_eccentricity_30 rfl (lv_at hl 1 rfl) ?_
        refine lv_iload hx hb dX4_eccentricity_31 (lv_at hl 4 rfl) ?_
        have hPc := hP.sub (ws' := (MW cI cJ mo mN mD mP mH mR mQ mF mO near (nI n) (nI ec) (bI bt) dis par hubs rnks que far frm (nI vi) (nI cu) (nI pu) (nI pn) (nI wn) (nI 0))) [0, 1, 2, 3, 4, 5, 6, 7, 8] rfl
        refine x_ri (W.runV (As := [.int (nI u), .int (nI k)]) (rest := []) ⟨hx, hb, hml, hown, hts⟩ (m_between l dG cI cJ mo mN mD mP mH mR mQ mF mO near n ec bt dis par hubs rnks que far frm vi cu pu pn wn (nI 0) L P hR hB hn (by omega) u k (by omega) (by omega)) (cwV 2 hts gX4_eccentricity_X4_between rfl rfl rfl (by decide +kernel) ⟨Nat.le_of_ble_eq_true rfl, Nat.le_of_ble_eq_true rfl⟩) (RPc.pre hPc hK (va_recv hK.1 hPc (ci := 4) (q0 := 0) rfl rfl)) rfl rfl hl.1 rfl (lv_room (Nat.le_of_ble_eq_true rfl)) dX4_eccentricity_33 ⟨Nat.zero_le _, Nat.zero_le _⟩) ?_
        refine lv_istore (lv' := [(5, .int (eN (es L u k n))), (0, .ref mo), (1, .int (nI u)), (2, .int (nI (ecc L u n k))), (3, .int (bI true)), (4, .int (nI k))]) hx hb dX4_eccentricity_36 hl (by decide) rfl (fun ls hl => ?_)
        rcases ee : es L u k n with _ | q
        · skip
          have hl : lv_has ls 6 [(5, .int (-1)), (0, .ref mo), (1, .int (nI u)), (2, .int (nI (ecc L u n k))), (3, .int (bI true)), (4, .int (nI k))] := by rw [ee] at hl; exact hl
          refine lv_iload hx hb dX4_eccentricity_38 (lv_at hl 0 rfl) ?_
          refine lv_iload_n hx hb dX4_eccentricity_40 rfl (lv_at hl 3 rfl) ?_
          refine lv_icmp_le (tgt := 49) hx hb dX4_eccentricity_41 (by decide) (fun _ => ?_) (fun q => absurd (m1_le _ (by omega)) q)
          refine lv_iload_n hx hb dX4_eccentricity_49 rfl (lv_at hl 3 rfl) ?_
          refine lv_istore_n (lv' := [(2, .int (nI (ecc L u n k))), (5, .int (-1)), (0, .ref mo), (1, .int (nI u)), (3, .int (bI true)), (4, .int (nI k))]) hx hb dX4_eccentricity_50 rfl hl (by decide) rfl (fun ls hl => ?_)
          refine x_iincN (lv' := [(4, .int (nI (k + 1))), (2, .int (nI (ecc L u n k))), (5, .int (-1)), (0, .ref mo), (1, .int (nI u)), (3, .int (bI true))]) hx hb dX4_eccentricity_51 hl (k := 5) rfl (by decide) rfl (fun ls hl => ?_)
          refine lv_goto (tgt := 16) hx hb dX4_eccentricity_54 (by decide) ?_
          have hl : lv_has ls 6 [(4, .int (nI (k + 1))), (2, .int (nI (ecc L u n (k + 1)))), (5, .int (-1)), (0, .ref mo), (1, .int (nI u)), (3, .int (bI true))] := by rw [ecc_no ee]; exact hl
          exact ih (k + 1) (by omega) (by omega) (ecc_lt hB _) kx H locs hP hD hS ls (lv_sub hl [3, 4, 1, 5, 0] rfl)
        · skip
          have hl : lv_has ls 6 [(5, .int (nI q)), (0, .ref mo), (1, .int (nI u)), (2, .int (nI (ecc L u n k))), (3, .int (bI true)), (4, .int (nI k))] := by rw [ee] at hl; exact hl
          have hq9 := es_lt hB ee
          refine lv_iload hx hb dX4_eccentricity_38 (lv_at hl 0 rfl) ?_
          refine lv_iload_n hx hb dX4_eccentricity_40 rfl (lv_at hl 3 rfl) ?_
          refine x_icmp_leN (i := q) (j := (ecc L u n k)) (tgt := 49) hx hb (by omega) (by omega) dX4_eccentricity_41 (by decide) (fun c41 => ?_) (fun c41 => ?_)
          · skip
            refine lv_iload_n hx hb dX4_eccentricity_49 rfl (lv_at hl 3 rfl) ?_
            refine lv_istore_n (lv' := [(2, .int (nI (ecc L u n k))), (5, .int (nI q)), (0, .ref mo), (1, .int (nI u)), (3, .int (bI true)), (4, .int (nI k))]) hx hb dX4_eccentricity_50 rfl hl (by decide) rfl (fun ls hl => ?_)
            refine x_iincN (lv' := [(4, .int (nI (k + 1))), (2, .int (nI (ecc L u n k))), (5, .int (nI q)), (0, .ref mo), (1, .int (nI u)), (3, .int (bI true))]) hx hb dX4_eccentricity_51 hl (k := 5) rfl (by decide) rfl (fun ls hl => ?_)
            refine lv_goto (tgt := 16) hx hb dX4_eccentricity_54 (by decide) ?_
            have hl : lv_has ls 6 [(4, .int (nI (k + 1))), (2, .int (nI (ecc L u n (k + 1)))), (5, .int (nI q)), (0, .ref mo), (1, .int (nI u)), (3, .int (bI true))] := by rw [ecc_low ee c41]; exact hl
            exact ih (k + 1) (by omega) (by omega) (ecc_lt hB _) kx H locs hP hD hS ls (lv_sub hl [3, 4, 1, 5, 0] rfl)
          · skip
            refine lv_iload hx hb dX4_eccentricity_44 (lv_at hl 0 rfl) ?_
            refine lv_goto (tgt := 50) hx hb dX4_eccentricity_46 (by decide) ?_
            refine lv_istore_n (lv' := [(2, .int (nI q)), (5, .int (nI q)), (0, .ref mo), (1, .int (nI u)), (3, .int (bI true)), (4, .int (nI k))]) hx hb dX4_eccentricity_50 rfl hl (by decide) rfl (fun ls hl => ?_)
            refine x_iincN (lv' := [(4, .int (nI (k + 1))), (2, .int (nI q)), (5, .int (nI q)), (0, .ref mo), (1, .int (nI u)), (3, .int (bI true))]) hx hb dX4_eccentricity_51 hl (k := 5) rfl (by decide) rfl (fun ls hl => ?_)
            refine lv_goto (tgt := 16) hx hb dX4_eccentricity_54 (by decide) ?_
            have hl : lv_has ls 6 [(4, .int (nI (k + 1))), (2, .int (nI (ecc L u n (k + 1)))), (5, .int (nI q)), (0, .ref mo), (1, .int (nI u)), (3, .int (bI true))] := by rw [ecc_yes ee c41]; exact hl
            exact ih (k + 1) (by omega) (by omega) (ecc_lt hB _) kx H locs hP hD hS ls (lv_sub hl [3, 4, 1, 5, 0] rfl)
  refine loop _ 49 0 (by omega) (by omega) (ecc_lt hB _) (fun  H locs hP hD hS ls hl => ?_) H locs hP hD hS ls (lv_sub hl [3, 4, 2, 1, 0] rfl)
  refine lv_iload_n hx hb dX4_eccentricity_57 rfl (lv_at hl 2 rfl) ?_
  exact W.iret (v := (nI (ecc L u n n))) hx hb hr (fun t ht hW => ⟨⟨_, (), rfl, rfl, by rw [ht]; exact hP, hD⟩, hS.F ht⟩) hS.2.2 dX4_eccentricity_58
