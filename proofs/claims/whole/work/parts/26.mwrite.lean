/-! the reference: what writes its tables -/
theorem q00_been {s d : Nat} {p : Option Nat} : qb9 (qpush q00 s d p) = (1 : Int64) <<< ((nI s).toInt64 &&& 63) :=
  gb_ext fun k _ => by
    show gb ((0 : Int64) ||| _) k = _
    rw [gb_or, gb_0]; rfl
set_option maxHeartbeats 4000000 in
set_option maxRecDepth 100000 in
/-- reference: empties -/
theorem m_empties (l : Launch) (dG : va_G) (cI cJ : ClassId) (A : Nat → Prop) (mo mN mD mP mH mR mQ mF mO : Nat) (near : Nat → Int64) (n ec : Nat) (bt : Bool) (dis par hubs rnks que far frm : Nat → Int32) (vi cu pu pn wn : Nat) (th : Int32) (tb : Nat) (htb : tb < 2) (X : va_W) : Met l yX4_empties wsX4_empties ({ frames := 0, cells := 0, slots := 0, locals := 0 } : Room) (WPc dG cI cJ [.ref mo, .int (nI tb)] (MW cI cJ mo mN mD mP mH mR mQ mF mO near (nI n) (nI ec) (bI bt) dis par hubs rnks que far frm (nI vi) (nI cu) (nI pu) (nI pn) (nI wn) th ++ X) A) (va_Qv (S := Unit) (fun _ => True) (fun _ => WB dG A (MW cI cJ mo mN mD mP mH mR mQ mF mO near (nI n) (nI ec) (bI bt) (fl dis (2304 * tb) 2304) (fl par (2304 * tb) 2304) hubs rnks que far frm (nI vi) (nI cu) (nI pu) (nI pn) (nI wn) th ++ X)) A) 0 0 A := by
  refine Met.ofW (cc := cX4_empties) (maxL := 3) (ret := none) (by decide) rfl ?_
  intro p e s m args below meth c s₁ B9 hml hv
  obtain ⟨rfl, hP, hK, hD⟩ := hv
  have hx := B9.exec
  have hb := B9.bytes
  have hr := B9.returns
  have hts := atoms_spec (ws := wsX4_empties) B9.pre
  have hown : s.vm.findClass RX4 = some m.cls := findClass_of_methodNamed B9.named
  have hlocks := B9.notSynchronized
  have hS : va_S A s.heap s.heap [] := va_S.rf
  have hl := lv_entry ([.ref mo, .int (nI tb)]) (n := 3) (Nat.le_of_ble_eq_true rfl)
  rw [lg_entry_eq]
  generalize (lg_sl ([.ref mo, .int (nI tb)]) ++ List.replicate (3 - (lg_sl ([.ref mo, .int (nI tb)])).length) Slot.unset).toArray = ls at hl ⊢
  have hl : lv_has ls 3 [(0, .ref mo), (1, .int (nI tb))] := hl
  have hiX4 : ∀ w ∈ wsX40, w ∈ wsX4_empties := by decide +kernel
  have hf13 := hts (.fieldLink RX4 13 "LandmarkLeaModel" "distances" "[I") (by decide +kernel)
  have hf17 := hts (.fieldLink RX4 17 "LandmarkLeaModel" "parents" "[I") (by decide +kernel)
  refine lv_sipush (v := (nI 2304)) hx hb dX4_empties_0 (by decide) ?_
  refine lv_iload_n hx hb dX4_empties_3 rfl (lv_at hl 1 rfl) ?_
  refine x_mulN (i := 2304) (j := tb) hx hb dX4_empties_4 ?_
  refine lv_istore_n (lv' := [(2, .int (nI (2304 * tb))), (0, .ref mo), (1, .int (nI tb))]) hx hb dX4_empties_5 rfl hl (by decide) rfl (fun ls hl => ?_)
  rw [← fl_0 dis (2304 * tb), ← fl_0 par (2304 * tb)] at hP hD
  have loop : ∀ (QQ : State → Prop) (n1 : Nat) (k : Nat), 2304 < k + n1 → k ≤ 2304 → (∀ (H : Heap) (locs : List Loc), va_P dG vwCl (MW cI cJ mo mN mD mP mH mR mQ mF mO near (nI n) (nI ec) (bI bt) (fl dis (2304 * tb) 2304) (fl par (2304 * tb) 2304) hubs rnks que far frm (nI vi) (nI cu) (nI pu) (nI pn) (nI wn) th ++ X) H → va_D A (MW cI cJ mo mN mD mP mH mR mQ mF mO near (nI n) (nI ec) (bI bt) (fl dis (2304 * tb) 2304) (fl par (2304 * tb) 2304) hubs rnks que far frm (nI vi) (nI cu) (nI pu) (nI pn) (nI wn) th ++ X) → va_S A s.heap H locs → ∀ ls : Array Slot, lv_has ls 3 [(0, .ref mo), (1, .int (nI tb)), (2, .int (nI (2304 * tb + 2304)))] → W p l e ({ frames := 0, cells := 0, slots := 0, locals := 0 } : Room) s m ([.ref mo, .int (nI tb)] : List Value).toArray below meth c H locs 0 0 QQ (F0 m 39 ls [])) → ∀ (H : Heap) (locs : List Loc), va_P dG vwCl (MW cI cJ mo mN mD mP mH mR mQ mF mO near (nI n) (nI ec) (bI bt) (fl dis (2304 * tb) k) (fl par (2304 * tb) k) hubs rnks que far frm (nI vi) (nI cu) (nI pu) (nI pn) (nI wn) th ++ X) H → va_D A (MW cI cJ mo mN mD mP mH mR mQ mF mO near (nI n) (nI ec) (bI bt) (fl dis (2304 * tb) k) (fl par (2304 * tb) k) hubs rnks que far frm (nI vi) (nI cu) (nI pu) (nI pn) (nI wn) th ++ X) → va_S A s.heap H locs → ∀ ls : Array Slot, lv_has ls 3 [(0, .ref mo), (1, .int (nI tb)), (2, .int (nI (2304 * tb + k)))] → W p l e ({ frames := 0, cells := 0, slots := 0, locals := 0 } : Room) s m ([.ref mo, .int (nI tb)] : List Value).toArray below meth c H locs 0 0 QQ (F0 m 6 ls []) := by
    intro QQ n1
    induction n1 with
    | zero => intro k h1 h2; exact absurd h1 (by omega)
    | succ n1 ih =>
      intro k h1 h2 kx H locs hP hD hS ls hl
      refine lv_iload_n hx hb dX4_empties_6 rfl (lv_at hl 2 rfl) ?_
      refine lv_sipush (v := (nI 2304)) hx hb dX4_empties_7 (by decide) ?_
      refine lv_iload_n hx hb dX4_empties_10 rfl (lv_at hl 1 rfl) ?_
      refine x_mulN (i := 2304) (j := tb) hx hb dX4_empties_11 ?_
      refine lv_sipush (v := (nI 2304)) hx hb dX4_empties_12 (by decide) ?_
      refine x_addN (i := (2304 * tb)) (j := 2304) hx hb dX4_empties_15 ?_
      refine x_icmp_geN (i := (2304 * tb + k)) (j := ((2304 * tb) + 2304)) (tgt := 39) hx hb (by omega) (by omega) dX4_empties_16 (by decide) (fun c16 => ?_) (fun c16 => ?_)
      · skip
        have ek : k = 2304 := by omega
        subst ek
        exact kx  H locs hP hD hS ls (lv_sub hl [0, 1, 2] rfl)
      · skip
        refine lv_aload_n hx hb dX4_empties_19 rfl (lv_at hl 0 rfl) ?_
        refine va_get (D := dG) (ci := 4) (v := .ref mD) (C := RX4) (T := TX4) (N := 17) hx hb hts hiX4 hown hK.1 hP 0 rfl rfl 4 (by decide) hf13 (fun _ h9 => h9) rfl dX4_empties_20 ?_
        refine lv_iload_n hx hb dX4_empties_23 rfl (lv_at hl 2 rfl) ?_
        refine lv_iconst (v := (-1)) hx hb dX4_empties_24 (by decide) ?_
        refine x_iast (f := (fl dis (2304 * tb) k)) hx hb hK hP hD hS 2 rfl (by omega) (by decide) dX4_empties_25 (fun H locs hP hD hS => ?_)
        have hP : va_P dG vwCl (MW cI cJ mo mN mD mP mH mR mQ mF mO near (nI n) (nI ec) (bI bt) (upd (fl dis (2304 * tb) k) (2304 * tb + k) (-1)) (fl par (2304 * tb) k) hubs rnks que far frm (nI vi) (nI cu) (nI pu) (nI pn) (nI wn) th ++ X) H := hP
        have hD : va_D A (MW cI cJ mo mN mD mP mH mR mQ mF mO near (nI n) (nI ec) (bI bt) (upd (fl dis (2304 * tb) k) (2304 * tb + k) (-1)) (fl par (2304 * tb) k) hubs rnks que far frm (nI vi) (nI cu) (nI pu) (nI pn) (nI wn) th ++ X) := hD
        refine lv_aload_n hx hb dX4_empties_26 rfl (lv_at hl 0 rfl) ?_
        refine va_get (D := dG) (ci := 4) (v := .ref mP) (C := RX4) (T := TX4) (N := 17) hx hb hts hiX4 hown hK.1 hP 0 rfl rfl 5 (by decide) hf17 (fun _ h9 => h9) rfl dX4_empties_27 ?_
        refine lv_iload_n hx hb dX4_empties_30 rfl (lv_at hl 2 rfl) ?_
        refine lv_iconst (v := (-1)) hx hb dX4_empties_31 (by decide) ?_
        refine x_iast (f := (fl par (2304 * tb) k)) hx hb hK hP hD hS 3 rfl (by omega) (by decide) dX4_empties_32 (fun H locs hP hD hS => ?_)
        have hP : va_P dG vwCl (MW cI cJ mo mN mD mP mH mR mQ mF mO near (nI n) (nI ec) (bI bt) (upd (fl dis (2304 * tb) k) (2304 * tb + k) (-1)) (upd (fl par (2304 * tb) k) (2304 * tb + k) (-1)) hubs rnks que far frm (nI vi) (nI cu) (nI pu) (nI pn) (nI wn) th ++ X) H := hP
        have hD : va_D A (MW cI cJ mo mN mD mP mH mR mQ mF mO near (nI n) (nI ec) (bI bt) (upd (fl dis (2304 * tb) k) (2304 * tb + k) (-1)) (upd (fl par (2304 * tb) k) (2304 * tb + k) (-1)) hubs rnks que far frm (nI vi) (nI cu) (nI pu) (nI pn) (nI wn) th ++ X) := hD
        refine x_iincN (lv' := [(2, .int (nI ((2304 * tb + k) + 1))), (0, .ref mo), (1, .int (nI tb))]) hx hb dX4_empties_33 hl (k := 2) rfl (by decide) rfl (fun ls hl => ?_)
        refine lv_goto (tgt := 6) hx hb dX4_empties_36 (by decide) ?_
        rw [fl_s, fl_s] at hP hD
        exact ih (k + 1) (by omega) (by omega) kx H locs hP hD hS ls (lv_sub hl [1, 2, 0] rfl)
  refine loop _ 2305 0 (by omega) (by omega) (fun  H locs hP hD hS ls hl => ?_) s.heap [] hP hD hS ls (lv_sub hl [1, 2, 0] rfl)
  exact W.vret hx hb hr (fun t ht hW => ⟨⟨(), rfl, trivial, by rw [ht]; exact hP, hD⟩, hS.F ht⟩) hS.2.2 dX4_empties_39

set_option maxHeartbeats 4000000 in
set_option maxRecDepth 100000 in
/-- reference: givesRanks -/
theorem m_givesRanks (l : Launch) (dG : va_G) (cI cJ : ClassId) (A : Nat → Prop) (mo mN mD mP mH mR mQ mF mO : Nat) (near : Nat → Int64) (n ec : Nat) (bt : Bool) (dis par hubs rnks que far frm : Nat → Int32) (vi cu pu pn wn : Nat) (th : Int32) (tb : Nat) (htb : tb < 2) (hn : n ≤ 48) (dg : Nat → Nat) (hdg : ∀ v, v < n → dg v = fb_ct (gb (near v)) n) (X : va_W) : Met l yX4_givesRanks wsX4_givesRanks ({ frames := 2, cells := 0, slots := 0, locals := 45 } : Room) (WPc dG cI cJ [.ref mo, .int (nI tb)] (MW cI cJ mo mN mD mP mH mR mQ mF mO near (nI n) (nI ec) (bI bt) dis par hubs rnks que far frm (nI vi) (nI cu) (nI pu) (nI pn) (nI wn) th ++ X) A) (va_Qv (S := (Nat → Int32) × (Nat → Int32)) (fun u => RKM tb dg n n u.1 u.2 ∧ Fr (48 * tb) 48 hubs u.1 ∧ Fr (48 * tb) 48 rnks u.2) (fun u => WB dG A (MW cI cJ mo mN mD mP mH mR mQ mF mO near (nI n) (nI ec) (bI bt) dis par u.1 u.2 que far frm (nI vi) (nI cu) (nI pu) (nI pn) (nI wn) th ++ X)) A) 0 0 A := by
  refine Met.ofW (cc := cX4_givesRanks) (maxL := 6) (ret := none) (by decide) rfl ?_
  intro p e s m args below meth c s₁ B9 hml hv
  obtain ⟨rfl, hP, hK, hD⟩ := hv
  have hx := B9.exec
  have hb := B9.bytes
  have hr := B9.returns
  have hts := atoms_spec (ws := wsX4_givesRanks) B9.pre
  have hown : s.vm.findClass RX4 = some m.cls := findClass_of_methodNamed B9.named
  have hlocks := B9.notSynchronized
  have hS : va_S A s.heap s.heap [] := va_S.rf
  have hl := lv_entry ([.ref mo, .int (nI tb)]) (n := 6) (Nat.le_of_ble_eq_true rfl)
  rw [lg_entry_eq]
  generalize (lg_sl ([.ref mo, .int (nI tb)]) ++ List.replicate (6 - (lg_sl ([.ref mo, .int (nI tb)])).length) Slot.unset).toArray = ls at hl ⊢
  have hl : lv_has ls 6 [(0, .ref mo), (1, .int (nI tb))] := hl
  have hiX4 : ∀ w ∈ wsX40, w ∈ wsX4_givesRanks := by decide +kernel
  have hf20 := hts (.fieldLink RX4 20 "LandmarkLeaModel" "hubs" "[I") (by decide +kernel)
  have hf23 := hts (.fieldLink RX4 23 "LandmarkLeaModel" "ranks" "[I") (by decide +kernel)
  have hf39 := hts (.fieldLink RX4 39 "LandmarkLeaModel" "many" "I") (by decide +kernel)
  refine lv_iconst (v := (nI 0)) hx hb dX4_givesRanks_0 (by decide) ?_
  refine lv_istore_n (lv' := [(2, .int (nI 0)), (0, .ref mo), (1, .int (nI tb))]) hx hb dX4_givesRanks_1 rfl hl (by decide) rfl (fun ls hl => ?_)
  obtain ⟨hub0, eh0⟩ : ∃ z, z = hubs := ⟨_, rfl⟩
  obtain ⟨rnk0, er0⟩ : ∃ z, z = rnks := ⟨_, rfl⟩
  have outer : ∀ (QQ : State → Prop) (n1 : Nat) (v : Nat) (hubs rnks : Nat → Int32), n < v + n1 → v ≤ n → RKM tb dg n v hubs rnks → Fr (48 * tb) 48 hub0 hubs → Fr (48 * tb) 48 rnk0 rnks → (∀ (hubs rnks : Nat → Int32) (_ : RKM tb dg n n hubs rnks) (_ : Fr (48 * tb) 48 hub0 hubs) (_ : Fr (48 * tb) 48 rnk0 rnks), ∀ (H : Heap) (locs : List Loc), va_P dG vwCl (MW cI cJ mo mN mD mP mH mR mQ mF mO near (nI n) (nI ec) (bI bt) dis par hubs rnks que far frm (nI vi) (nI cu) (nI pu) (nI pn) (nI wn) th ++ X) H → va_D A (MW cI cJ mo mN mD mP mH mR mQ mF mO near (nI n) (nI ec) (bI bt) dis par hubs rnks que far frm (nI vi) (nI cu) (nI pu) (nI pn) (nI wn) th ++ X) → va_S A s.heap H locs → ∀ ls : Array Slot, lv_has ls 6 [(0, .ref mo), (1, .int (nI tb)), (2, .int (nI n))] → W p l e ({ frames := 2, cells := 0, slots := 0, locals := 45 } : Room) s m ([.ref mo, .int (nI tb)] : List Value).toArray below meth c H locs 0 0 QQ (F0 m 114 ls [])) → ∀ (H : Heap) (locs : List Loc), va_P dG vwCl (MW cI cJ mo mN mD mP mH mR mQ mF mO near (nI n) (nI ec) (bI bt) dis par hubs rnks que far frm (nI vi) (nI cu) (nI pu) (nI pn) (nI wn) th ++ X) H → va_D A (MW cI cJ mo mN mD mP mH mR mQ mF mO near (nI n) (nI ec) (bI bt) dis par hubs rnks que far frm (nI vi) (nI cu) (nI pu) (nI pn) (nI wn) th ++ X) → va_S A s.heap H locs → ∀ ls : Array Slot, lv_has ls 6 [(0, .ref mo), (1, .int (nI tb)), (2, .int (nI v))] → W p l e ({ frames := 2, cells := 0, slots := 0, locals := 45 } : Room) s m ([.ref mo, .int (nI tb)] : List Value).toArray below meth c H locs 0 0 QQ (F0 m 2 ls []) := by
    intro QQ n1
    induction n1 with
    | zero => intro v hubs rnks h1 h2 h3 h4 h5; exact absurd h1 (by omega)
    | succ n1 ih =>
      intro v hubs rnks h1 h2 h3 h4 h5 kx H locs hP hD hS ls hl
      refine lv_iload_n hx hb dX4_givesRanks_2 rfl (lv_at hl 2 rfl) ?_
      refine lv_aload_n hx hb dX4_givesRanks_3 rfl (lv_at hl 0 rfl) ?_
      refine va_get (D := dG) (ci := 4) (v := .int (nI n)) (C := RX4) (T := TX4) (N := 17) hx hb hts hiX4 hown hK.1 hP 0 rfl rfl 1 (by decide) hf39 (fun _ h9 => h9) rfl dX4_givesRanks_4 ?_
      refine x_icmp_geN (i := v) (j := n) (tgt := 114) hx hb (by omega) (by omega) dX4_givesRanks_7 (by decide) (fun c7 => ?_) (fun c7 => ?_)
      · skip
        have ek : v = n := by omega
        subst ek
        exact kx (hubs) (rnks) (h3) (h4) (h5) H locs hP hD hS ls (lv_sub hl [0, 1, 2] rfl)
      · skip
        have hv : v < n := c7
        refine lv_iconst (v := (nI 0)) hx hb dX4_givesRanks_10 (by decide) ?_
        refine lv_istore_n (lv' := [(3, .int (nI 0)), (0, .ref mo), (1, .int (nI tb)), (2, .int (nI v))]) hx hb dX4_givesRanks_11 rfl hl (by decide) rfl (fun ls hl => ?_)
        refine lv_iconst (v := (nI 0)) hx hb dX4_givesRanks_12 (by decide) ?_
        refine lv_istore (lv' := [(4, .int (nI 0)), (3, .int (nI 0)), (0, .ref mo), (1, .int (nI tb)), (2, .int (nI v))]) hx hb dX4_givesRanks_13 hl (by decide) rfl (fun ls hl => ?_)
        have inner : ∀ (QQ : State → Prop) (n1 : Nat) (k : Nat), n < k + n1 → k ≤ n → (∀ (H : Heap) (locs : List Loc), va_P dG vwCl (MW cI cJ mo mN mD mP mH mR mQ mF mO near (nI n) (nI ec) (bI bt) dis par hubs rnks que far frm (nI vi) (nI cu) (nI pu) (nI pn) (nI wn) th ++ X) H → va_D A (MW cI cJ mo mN mD mP mH mR mQ mF mO near (nI n) (nI ec) (bI bt) dis par hubs rnks que far frm (nI vi) (nI cu) (nI pu) (nI pn) (nI wn) th ++ X) → va_S A s.heap H locs → ∀ ls : Array Slot, lv_has ls 6 [(0, .ref mo), (1, .int (nI tb)), (2, .int (nI v)), (3, .int (nI (fb_ct (bef dg (dg v + 1) v) n))), (4, .int (nI n))] → W p l e ({ frames := 2, cells := 0, slots := 0, locals := 45 } : Room) s m ([.ref mo, .int (nI tb)] : List Value).toArray below meth c H locs 0 0 QQ (F0 m 84 ls [])) → ∀ (H : Heap) (locs : List Loc), va_P dG vwCl (MW cI cJ mo mN mD mP mH mR mQ mF mO near (nI n) (nI ec) (bI bt) dis par hubs rnks que far frm (nI vi) (nI cu) (nI pu) (nI pn) (nI wn) th ++ X) H → va_D A (MW cI cJ mo mN mD mP mH mR mQ mF mO near (nI n) (nI ec) (bI bt) dis par hubs rnks que far frm (nI vi) (nI cu) (nI pu) (nI pn) (nI wn) th ++ X) → va_S A s.heap H locs → ∀ ls : Array Slot, lv_has ls 6 [(0, .ref mo), (1, .int (nI tb)), (2, .int (nI v)), (3, .int (nI (fb_ct (bef dg (dg v + 1) v) k))), (4, .int (nI k))] → W p l e ({ frames := 2, cells := 0, slots := 0, locals := 45 } : Room) s m ([.ref mo, .int (nI tb)] : List Value).toArray below meth c H locs 0 0 QQ (F0 m 15 ls []) := by
          intro QQ n1
          induction n1 with
          | zero => intro k h1i h2i; exact absurd h1i (by omega)
          | succ n1 ih =>
            intro k h1i h2i kx H locs hP hD hS ls hl
            refine lv_iload hx hb dX4_givesRanks_15 (lv_at hl 4 rfl) ?_
            refine lv_aload_n hx hb dX4_givesRanks_17 rfl (lv_at hl 0 rfl) ?_
            refine va_get (D := dG) (ci := 4) (v := .int (nI n)) (C := RX4) (T := TX4) (N := 17) hx hb hts hiX4 hown hK.1 hP 0 rfl rfl 1 (by decide) hf39 (fun _ h9 => h9) rfl dX4_givesRanks_18 ?_
            refine x_icmp_geN (i := k) (j := n) (tgt := 84) hx hb (by omega) (by omega) dX4_givesRanks_21 (by decide) (fun c21 => ?_) (fun c21 => ?_)
            · skip
              have ek : k = n := by omega
              subst ek
              exact kx  H locs hP hD hS ls (lv_sub hl [0, 1, 2, 3, 4] rfl)
            · skip
              have hk : k < n := c21
              have hdk : dg k ≤ n := by rw [hdg k hk]; exact fb_ct_le _ _
              have hdv : dg v ≤ n := by rw [hdg v hv]; exact fb_ct_le _ _
              refine lv_aload_n hx hb dX4_givesRanks_24 rfl (lv_at hl 0 rfl) ?_
              refine lv_iload hx hb dX4_givesRanks_25 (lv_at hl 4 rfl) ?_
              have hPc := hP.sub (ws' := (MW cI cJ mo mN mD mP mH mR mQ mF mO near (nI n) (nI ec) (bI bt) dis par hubs rnks que far frm (nI vi) (nI cu) (nI pu) (nI pn) (nI wn) th)) [0, 1, 2, 3, 4, 5, 6, 7, 8] rfl
              refine x_ri (W.runV (As := [.int (nI k)]) (rest := []) ⟨hx, hb, hml, hown, hts⟩ (m_degree l dG cI cJ mo mN mD mP mH mR mQ mF mO near n ec bt dis par hubs rnks que far frm vi cu pu pn wn th hn k (by omega)) (cwV 1 hts gX4_givesRanks_X4_degree rfl rfl rfl (by decide +kernel) ⟨Nat.le_of_ble_eq_true rfl, Nat.le_of_ble_eq_true rfl⟩) (RPc.pre hPc hK (va_recv hK.1 hPc (ci := 4) (q0 := 0) rfl rfl)) rfl rfl hl.1 rfl (lv_room (Nat.le_of_ble_eq_true rfl)) dX4_givesRanks_27 ⟨Nat.zero_le _, Nat.zero_le _⟩) ?_
              rw [← hdg k hk]
              refine lv_aload_n hx hb dX4_givesRanks_30 rfl (lv_at hl 0 rfl) ?_
              refine lv_iload_n hx hb dX4_givesRanks_31 rfl (lv_at hl 2 rfl) ?_
              have hPc := hP.sub (ws' := (MW cI cJ mo mN mD mP mH mR mQ mF mO near (nI n) (nI ec) (bI bt) dis par hubs rnks que far frm (nI vi) (nI cu) (nI pu) (nI pn) (nI wn) th)) [0, 1, 2, 3, 4, 5, 6, 7, 8] rfl
              refine x_ri (W.runV (As := [.int (nI v)]) (rest := [.int (nI (dg k))]) ⟨hx, hb, hml, hown, hts⟩ (m_degree l dG cI cJ mo mN mD mP mH mR mQ mF mO near n ec bt dis par hubs rnks que far frm vi cu pu pn wn th hn v (by omega)) (cwV 1 hts gX4_givesRanks_X4_degree rfl rfl rfl (by decide +kernel) ⟨Nat.le_of_ble_eq_true rfl, Nat.le_of_ble_eq_true rfl⟩) (RPc.pre hPc hK (va_recv hK.1 hPc (ci := 4) (q0 := 0) rfl rfl)) rfl rfl hl.1 rfl (lv_room (Nat.le_of_ble_eq_true rfl)) dX4_givesRanks_32 ⟨Nat.zero_le _, Nat.zero_le _⟩) ?_
              rw [← hdg v hv]
              refine x_icmp_gtN (i := (dg k)) (j := (dg v)) (tgt := 58) hx hb (by omega) (by omega) dX4_givesRanks_35 (by decide) (fun c35 => ?_) (fun c35 => ?_)
              · skip
                refine lv_iconst (v := (nI 1)) hx hb dX4_givesRanks_58 (by decide) ?_
                refine lv_goto (tgt := 63) hx hb dX4_givesRanks_59 (by decide) ?_
                refine lv_istore (lv' := [(5, .int (nI 1)), (0, .ref mo), (1, .int (nI tb)), (2, .int (nI v)), (3, .int (nI (fb_ct (bef dg (dg v + 1) v) k))), (4, .int (nI k))]) hx hb dX4_givesRanks_63 hl (by decide) rfl (fun ls hl => ?_)
                refine lv_iload_n hx hb dX4_givesRanks_65 rfl (lv_at hl 4 rfl) ?_
                refine lv_iload hx hb dX4_givesRanks_66 (lv_at hl 0 rfl) ?_
                refine lv_if_eq (tgt := 75) hx hb dX4_givesRanks_68 (by decide) (fun h9 => absurd h9 (by decide)) (fun _ => ?_)
                refine lv_iconst (v := (nI 1)) hx hb dX4_givesRanks_71 (by decide) ?_
                refine lv_goto (tgt := 76) hx hb dX4_givesRanks_72 (by decide) ?_
                refine x_addN (i := (fb_ct (bef dg (dg v + 1) v) k)) (j := 1) hx hb dX4_givesRanks_76 ?_
                refine lv_istore_n (lv' := [(3, .int (nI ((fb_ct (bef dg (dg v + 1) v) k) + 1))), (5, .int (nI 1)), (0, .ref mo), (1, .int (nI tb)), (2, .int (nI v)), (4, .int (nI k))]) hx hb dX4_givesRanks_77 rfl hl (by decide) rfl (fun ls hl => ?_)
                refine x_iincN (lv' := [(4, .int (nI (k + 1))), (3, .int (nI ((fb_ct (bef dg (dg v + 1) v) k) + 1))), (5, .int (nI 1)), (0, .ref mo), (1, .int (nI tb)), (2, .int (nI v))]) hx hb dX4_givesRanks_78 hl (k := 5) rfl (by decide) rfl (fun ls hl => ?_)
                refine lv_goto (tgt := 15) hx hb dX4_givesRanks_81 (by decide) ?_
                have hbb : bef dg (dg v + 1) v k = true := bef_bit.mpr (by omega)
                have hl : lv_has ls 6 [(4, .int (nI (k + 1))), (3, .int (nI (fb_ct (bef dg (dg v + 1) v) (k + 1)))), (5, .int (nI 1)), (0, .ref mo), (1, .int (nI tb)), (2, .int (nI v))] := by rw [fb_ct_succ, hbb]; exact hl
                exact ih (k + 1) (by omega) (by omega) kx H locs hP hD hS ls (lv_sub hl [3, 4, 5, 1, 0] rfl)
              · skip
                refine lv_aload_n hx hb dX4_givesRanks_38 rfl (lv_at hl 0 rfl) ?_
                refine lv_iload hx hb dX4_givesRanks_39 (lv_at hl 4 rfl) ?_
                have hPc := hP.sub (ws' := (MW cI cJ mo mN mD mP mH mR mQ mF mO near (nI n) (nI ec) (bI bt) dis par hubs rnks que far frm (nI vi) (nI cu) (nI pu) (nI pn) (nI wn) th)) [0, 1, 2, 3, 4, 5, 6, 7, 8] rfl
                refine x_ri (W.runV (As := [.int (nI k)]) (rest := []) ⟨hx, hb, hml, hown, hts⟩ (m_degree l dG cI cJ mo mN mD mP mH mR mQ mF mO near n ec bt dis par hubs rnks que far frm vi cu pu pn wn th hn k (by omega)) (cwV 1 hts gX4_givesRanks_X4_degree rfl rfl rfl (by decide +kernel) ⟨Nat.le_of_ble_eq_true rfl, Nat.le_of_ble_eq_true rfl⟩) (RPc.pre hPc hK (va_recv hK.1 hPc (ci := 4) (q0 := 0) rfl rfl)) rfl rfl hl.1 rfl (lv_room (Nat.le_of_ble_eq_true rfl)) dX4_givesRanks_41 ⟨Nat.zero_le _, Nat.zero_le _⟩) ?_
                rw [← hdg k hk]
                refine lv_aload_n hx hb dX4_givesRanks_44 rfl (lv_at hl 0 rfl) ?_
                refine lv_iload_n hx hb dX4_givesRanks_45 rfl (lv_at hl 2 rfl) ?_
                have hPc := hP.sub (ws' := (MW cI cJ mo mN mD mP mH mR mQ mF mO near (nI n) (nI ec) (bI bt) dis par hubs rnks que far frm (nI vi) (nI cu) (nI pu) (nI pn) (nI wn) th)) [0, 1, 2, 3, 4, 5, 6, 7, 8] rfl
                refine x_ri (W.runV (As := [.int (nI v)]) (rest := [.int (nI (dg k))]) ⟨hx, hb, hml, hown, hts⟩ (m_degree l dG cI cJ mo mN mD mP mH mR mQ mF mO near n ec bt dis par hubs rnks que far frm vi cu pu pn wn th hn v (by omega)) (cwV 1 hts gX4_givesRanks_X4_degree rfl rfl rfl (by decide +kernel) ⟨Nat.le_of_ble_eq_true rfl, Nat.le_of_ble_eq_true rfl⟩) (RPc.pre hPc hK (va_recv hK.1 hPc (ci := 4) (q0 := 0) rfl rfl)) rfl rfl hl.1 rfl (lv_room (Nat.le_of_ble_eq_true rfl)) dX4_givesRanks_46 ⟨Nat.zero_le _, Nat.zero_le _⟩) ?_
                rw [← hdg v hv]
                refine x_icmp_neN (i := (dg k)) (j := (dg v)) (tgt := 62) hx hb (by omega) (by omega) dX4_givesRanks_49 (by decide) (fun c49 => ?_) (fun c49 => ?_)
                · skip
                  refine lv_iconst (v := (nI 0)) hx hb dX4_givesRanks_62 (by decide) ?_
                  refine lv_istore (lv' := [(5, .int (nI 0)), (0, .ref mo), (1, .int (nI tb)), (2, .int (nI v)), (3, .int (nI (fb_ct (bef dg (dg v + 1) v) k))), (4, .int (nI k))]) hx hb dX4_givesRanks_63 hl (by decide) rfl (fun ls hl => ?_)
                  refine lv_iload_n hx hb dX4_givesRanks_65 rfl (lv_at hl 4 rfl) ?_
                  refine lv_iload hx hb dX4_givesRanks_66 (lv_at hl 0 rfl) ?_
                  refine lv_if_eq (tgt := 75) hx hb dX4_givesRanks_68 (by decide) (fun _ => ?_) (fun h9 => absurd rfl h9)
                  refine lv_iconst (v := (nI 0)) hx hb dX4_givesRanks_75 (by decide) ?_
                  refine x_addN (i := (fb_ct (bef dg (dg v + 1) v) k)) (j := 0) hx hb dX4_givesRanks_76 ?_
                  refine lv_istore_n (lv' := [(3, .int (nI ((fb_ct (bef dg (dg v + 1) v) k) + 0))), (5, .int (nI 0)), (0, .ref mo), (1, .int (nI tb)), (2, .int (nI v)), (4, .int (nI k))]) hx hb dX4_givesRanks_77 rfl hl (by decide) rfl (fun ls hl => ?_)
                  refine x_iincN (lv' := [(4, .int (nI (k + 1))), (3, .int (nI ((fb_ct (bef dg (dg v + 1) v) k) + 0))), (5, .int (nI 0)), (0, .ref mo), (1, .int (nI tb)), (2, .int (nI v))]) hx hb dX4_givesRanks_78 hl (k := 5) rfl (by decide) rfl (fun ls hl => ?_)
                  refine lv_goto (tgt := 15) hx hb dX4_givesRanks_81 (by decide) ?_
                  have hbb : bef dg (dg v + 1) v k = false := bef_no.mpr (by omega)
                  have hl : lv_has ls 6 [(4, .int (nI (k + 1))), (3, .int (nI (fb_ct (bef dg (dg v + 1) v) (k + 1)))), (5, .int (nI 0)), (0, .ref mo), (1, .int (nI tb)), (2, .int (nI v))] := by rw [fb_ct_succ, hbb]; exact hl
                  exact ih (k + 1) (by omega) (by omega) kx H locs hP hD hS ls (lv_sub hl [3, 4, 5, 1, 0] rfl)
                · skip
                  refine lv_iload hx hb dX4_givesRanks_52 (lv_at hl 4 rfl) ?_
                  refine lv_iload_n hx hb dX4_givesRanks_54 rfl (lv_at hl 2 rfl) ?_
                  refine x_icmp_geN (i := k) (j := v) (tgt := 62) hx hb (by omega) (by omega) dX4_givesRanks_55 (by decide) (fun c55 => ?_) (fun c55 => ?_)
                  · skip
                    refine lv_iconst (v := (nI 0)) hx hb dX4_givesRanks_62 (by decide) ?_
                    refine lv_istore (lv' := [(5, .int (nI 0)), (0, .ref mo), (1, .int (nI tb)), (2, .int (nI v)), (3, .int (nI (fb_ct (bef dg (dg v + 1) v) k))), (4, .int (nI k))]) hx hb dX4_givesRanks_63 hl (by decide) rfl (fun ls hl => ?_)
                    refine lv_iload_n hx hb dX4_givesRanks_65 rfl (lv_at hl 4 rfl) ?_
                    refine lv_iload hx hb dX4_givesRanks_66 (lv_at hl 0 rfl) ?_
                    refine lv_if_eq (tgt := 75) hx hb dX4_givesRanks_68 (by decide) (fun _ => ?_) (fun h9 => absurd rfl h9)
                    refine lv_iconst (v := (nI 0)) hx hb dX4_givesRanks_75 (by decide) ?_
                    refine x_addN (i := (fb_ct (bef dg (dg v + 1) v) k)) (j := 0) hx hb dX4_givesRanks_76 ?_
                    refine lv_istore_n (lv' := [(3, .int (nI ((fb_ct (bef dg (dg v + 1) v) k) + 0))), (5, .int (nI 0)), (0, .ref mo), (1, .int (nI tb)), (2, .int (nI v)), (4, .int (nI k))]) hx hb dX4_givesRanks_77 rfl hl (by decide) rfl (fun ls hl => ?_)
                    refine x_iincN (lv' := [(4, .int (nI (k + 1))), (3, .int (nI ((fb_ct (bef dg (dg v + 1) v) k) + 0))), (5, .int (nI 0)), (0, .ref mo), (1, .int (nI tb)), (2, .int (nI v))]) hx hb dX4_givesRanks_78 hl (k := 5) rfl (by decide) rfl (fun ls hl => ?_)
                    refine lv_goto (tgt := 15) hx hb dX4_givesRanks_81 (by decide) ?_
                    have hbb : bef dg (dg v + 1) v k = false := bef_no.mpr (by omega)
                    have hl : lv_has ls 6 [(4, .int (nI (k + 1))), (3, .int (nI (fb_ct (bef dg (dg v + 1) v) (k + 1)))), (5, .int (nI 0)), (0, .ref mo), (1, .int (nI tb)), (2, .int (nI v))] := by rw [fb_ct_succ, hbb]; exact hl
                    exact ih (k + 1) (by omega) (by omega) kx H locs hP hD hS ls (lv_sub hl [3, 4, 5, 1, 0] rfl)
                  · skip
                    refine lv_iconst (v := (nI 1)) hx hb dX4_givesRanks_58 (by decide) ?_
                    refine lv_goto (tgt := 63) hx hb dX4_givesRanks_59 (by decide) ?_
                    refine lv_istore (lv' := [(5, .int (nI 1)), (0, .ref mo), (1, .int (nI tb)), (2, .int (nI v)), (3, .int (nI (fb_ct (bef dg (dg v + 1) v) k))), (4, .int (nI k))]) hx hb dX4_givesRanks_63 hl (by decide) rfl (fun ls hl => ?_)
                    refine lv_iload_n hx hb dX4_givesRanks_65 rfl (lv_at hl 4 rfl) ?_
                    refine lv_iload hx hb dX4_givesRanks_66 (lv_at hl 0 rfl) ?_
                    refine lv_if_eq (tgt := 75) hx hb dX4_givesRanks_68 (by decide) (fun h9 => absurd h9 (by decide)) (fun _ => ?_)
                    refine lv_iconst (v := (nI 1)) hx hb dX4_givesRanks_71 (by decide) ?_
                    refine lv_goto (tgt := 76) hx hb dX4_givesRanks_72 (by decide) ?_
                    refine x_addN (i := (fb_ct (bef dg (dg v + 1) v) k)) (j := 1) hx hb dX4_givesRanks_76 ?_
                    refine lv_istore_n (lv' := [(3, .int (nI ((fb_ct (bef dg (dg v + 1) v) k) + 1))), (5, .int (nI 1)), (0, .ref mo), (1, .int (nI tb)), (2, .int (nI v)), (4, .int (nI k))]) hx hb dX4_givesRanks_77 rfl hl (by decide) rfl (fun ls hl => ?_)
                    refine x_iincN (lv' := [(4, .int (nI (k + 1))), (3, .int (nI ((fb_ct (bef dg (dg v + 1) v) k) + 1))), (5, .int (nI 1)), (0, .ref mo), (1, .int (nI tb)), (2, .int (nI v))]) hx hb dX4_givesRanks_78 hl (k := 5) rfl (by decide) rfl (fun ls hl => ?_)
                    refine lv_goto (tgt := 15) hx hb dX4_givesRanks_81 (by decide) ?_
                    have hbb : bef dg (dg v + 1) v k = true := bef_bit.mpr (by omega)
                    have hl : lv_has ls 6 [(4, .int (nI (k + 1))), (3, .int (nI (fb_ct (bef dg (dg v + 1) v) (k + 1)))), (5, .int (nI 1)), (0, .ref mo), (1, .int (nI tb)), (2, .int (nI v))] := by rw [fb_ct_succ, hbb]; exact hl
                    exact ih (k + 1) (by omega) (by omega) kx H locs hP hD hS ls (lv_sub hl [3, 4, 5, 1, 0] rfl)
        refine inner _ 49 0 (by omega) (by omega) (fun  H locs hP hD hS ls hl => ?_) H locs hP hD hS ls (lv_sub hl [2, 3, 4, 1, 0] rfl)
        rw [show fb_ct (bef dg (dg v + 1) v) n = ahd dg n v from rfl] at hl
        have ha9 := ahd_n (dg := dg) hv
        refine lv_aload_n hx hb dX4_givesRanks_84 rfl (lv_at hl 0 rfl) ?_
        refine va_get (D := dG) (ci := 4) (v := .ref mR) (C := RX4) (T := TX4) (N := 17) hx hb hts hiX4 hown hK.1 hP 0 rfl rfl 7 (by decide) hf23 (fun _ h9 => h9) rfl dX4_givesRanks_85 ?_
        refine lv_bipush (v := (nI 48)) hx hb dX4_givesRanks_88 (by decide) ?_
        refine lv_iload_n hx hb dX4_givesRanks_90 rfl (lv_at hl 1 rfl) ?_
        refine x_mulN (i := 48) (j := tb) hx hb dX4_givesRanks_91 ?_
        refine lv_iload_n hx hb dX4_givesRanks_92 rfl (lv_at hl 2 rfl) ?_
        refine x_addN (i := (48 * tb)) (j := v) hx hb dX4_givesRanks_93 ?_
        refine lv_iload_n hx hb dX4_givesRanks_94 rfl (lv_at hl 3 rfl) ?_
        refine x_iast (f := rnks) hx hb hK hP hD hS 5 rfl (by omega) (by decide) dX4_givesRanks_95 (fun H locs hP hD hS => ?_)
        have hP : va_P dG vwCl (MW cI cJ mo mN mD mP mH mR mQ mF mO near (nI n) (nI ec) (bI bt) dis par hubs (upd rnks ((48 * tb) + v) (nI (ahd dg n v))) que far frm (nI vi) (nI cu) (nI pu) (nI pn) (nI wn) th ++ X) H := hP
        have hD : va_D A (MW cI cJ mo mN mD mP mH mR mQ mF mO near (nI n) (nI ec) (bI bt) dis par hubs (upd rnks ((48 * tb) + v) (nI (ahd dg n v))) que far frm (nI vi) (nI cu) (nI pu) (nI pn) (nI wn) th ++ X) := hD
        refine lv_aload_n hx hb dX4_givesRanks_96 rfl (lv_at hl 0 rfl) ?_
        refine va_get (D := dG) (ci := 4) (v := .ref mH) (C := RX4) (T := TX4) (N := 17) hx hb hts hiX4 hown hK.1 hP 0 rfl rfl 6 (by decide) hf20 (fun _ h9 => h9) rfl dX4_givesRanks_97 ?_
        refine lv_bipush (v := (nI 48)) hx hb dX4_givesRanks_100 (by decide) ?_
        refine lv_iload_n hx hb dX4_givesRanks_102 rfl (lv_at hl 1 rfl) ?_
        refine x_mulN (i := 48) (j := tb) hx hb dX4_givesRanks_103 ?_
        refine lv_iload_n hx hb dX4_givesRanks_104 rfl (lv_at hl 3 rfl) ?_
        refine x_addN (i := (48 * tb)) (j := (ahd dg n v)) hx hb dX4_givesRanks_105 ?_
        refine lv_iload_n hx hb dX4_givesRanks_106 rfl (lv_at hl 2 rfl) ?_
        refine x_iast (f := hubs) hx hb hK hP hD hS 4 rfl (by omega) (by decide) dX4_givesRanks_107 (fun H locs hP hD hS => ?_)
        have hP : va_P dG vwCl (MW cI cJ mo mN mD mP mH mR mQ mF mO near (nI n) (nI ec) (bI bt) dis par (upd hubs ((48 * tb) + (ahd dg n v)) (nI v)) (upd rnks ((48 * tb) + v) (nI (ahd dg n v))) que far frm (nI vi) (nI cu) (nI pu) (nI pn) (nI wn) th ++ X) H := hP
        have hD : va_D A (MW cI cJ mo mN mD mP mH mR mQ mF mO near (nI n) (nI ec) (bI bt) dis par (upd hubs ((48 * tb) + (ahd dg n v)) (nI v)) (upd rnks ((48 * tb) + v) (nI (ahd dg n v))) que far frm (nI vi) (nI cu) (nI pu) (nI pn) (nI wn) th ++ X) := hD
        refine x_iincN (lv' := [(2, .int (nI (v + 1))), (0, .ref mo), (1, .int (nI tb)), (3, .int (nI (ahd dg n v))), (4, .int (nI n))]) hx hb dX4_givesRanks_108 hl (k := 2) rfl (by decide) rfl (fun ls hl => ?_)
        refine lv_goto (tgt := 2) hx hb dX4_givesRanks_111 (by decide) ?_
        exact ih (v + 1) (upd hubs ((48 * tb) + (ahd dg n v)) (nI v)) (upd rnks ((48 * tb) + v) (nI (ahd dg n v))) (by omega) (by omega) (by have hz := h3.put hv; exact fun w hw => by have := hz w hw; first | exact this | (rw [Nat.mul_comm]; exact this)) (h4.put (by omega) (by omega)) (h5.put (by omega) (by omega)) kx H locs hP hD hS ls (lv_sub hl [1, 2, 0] rfl)
  refine outer _ 49 0 hubs rnks (by omega) (by omega) (fun w hw => absurd hw (Nat.not_lt_zero w)) (by rw [eh0]; exact Fr.rf) (by rw [er0]; exact Fr.rf) (fun hubs rnks h3 h4 h5 H locs hP hD hS ls hl => ?_) s.heap [] hP hD hS ls (lv_sub hl [1, 2, 0] rfl)
  exact W.vret hx hb hr (fun t ht hW => ⟨⟨(hubs, rnks), rfl, ⟨h3, by rw [← eh0]; exact h4, by rw [← er0]; exact h5⟩, by rw [ht]; exact hP, hD⟩, hS.F ht⟩) hS.2.2 dX4_givesRanks_114

set_option maxHeartbeats 4000000 in
set_option maxRecDepth 100000 in
/-- reference: searches -/
theorem m_searches (l : Launch) (dG : va_G) (cI cJ : ClassId) (A : Nat → Prop) (mo mN mD mP mH mR mQ mF mO : Nat) (near : Nat → Int64) (n ec : Nat) (bt : Bool) (dis par hubs rnks que far frm : Nat → Int32) (vi cu pu pn wn : Nat) (th : Int32) (tb : Nat) (htb : tb < 2) (L P : Nat → Nat → Option Nat) (B : Nat) (hR : RepM tb L P dis par) (hL : LBd L B) (hB3 : B ≤ 2 ^ 30) (hn : n ≤ 48) (r s0 d h : Nat) (p0 : Option Nat) (hr0 : r < 48) (hv : s0 < n) (hd : d + 48 ≤ B) (hh : h < 48) (eh : hubs (48 * tb + r) = nI h) (F : ST) (hF : srch near n h r s0 d p0 L P vi cu pu = F) (X : va_W) : Met l yX4_searches wsX4_searches ({ frames := 3, cells := 0, slots := 0, locals := 76 } : Room) (WPc dG cI cJ [.ref mo, .int (nI tb), .int (nI r), .int (nI s0), .int (nI d), .int (eN p0)] (MW cI cJ mo mN mD mP mH mR mQ mF mO near (nI n) (nI ec) (bI bt) dis par hubs rnks que far frm (nI vi) (nI cu) (nI pu) (nI pn) (nI wn) th ++ X) A) (va_Qv (S := (Nat → Int32) × (Nat → Int32) × (Nat → Int32) × (Nat → Int32) × (Nat → Int32)) (fun u => RepM tb F.1 F.2.1 u.1 u.2.1 ∧ Fr (2304 * tb) 2304 dis u.1 ∧ Fr (2304 * tb) 2304 par u.2.1) (fun u => WB dG A (MW cI cJ mo mN mD mP mH mR mQ mF mO near (nI n) (nI ec) (bI bt) u.1 u.2.1 hubs rnks u.2.2.1 u.2.2.2.1 u.2.2.2.2 (nI F.2.2.2.1) (nI F.2.2.2.2.1) (nI F.2.2.2.2.2) (nI pn) (nI wn) th ++ X)) A) 0 0 A := by
  refine Met.ofW (cc := cX4_searches) (maxL := 13) (ret := none) (by decide) rfl ?_
  intro p e s m args below meth c s₁ B9 hml hv
  obtain ⟨rfl, hP, hK, hD⟩ := hv
  have hx := B9.exec
  have hb := B9.bytes
  have hr := B9.returns
  have hts := atoms_spec (ws := wsX4_searches) B9.pre
  have hown : s.vm.findClass RX4 = some m.cls := findClass_of_methodNamed B9.named
  have hlocks := B9.notSynchronized
  have hS : va_S A s.heap s.heap [] := va_S.rf
  have hl := lv_entry ([.ref mo, .int (nI tb), .int (nI r), .int (nI s0), .int (nI d), .int (eN p0)]) (n := 13) (Nat.le_of_ble_eq_true rfl)
  rw [lg_entry_eq]
  generalize (lg_sl ([.ref mo, .int (nI tb), .int (nI r), .int (nI s0), .int (nI d), .int (eN p0)]) ++ List.replicate (13 - (lg_sl ([.ref mo, .int (nI tb), .int (nI r), .int (nI s0), .int (nI d), .int (eN p0)])).length) Slot.unset).toArray = ls at hl ⊢
  have hl : lv_has ls 13 [(0, .ref mo), (1, .int (nI tb)), (2, .int (nI r)), (3, .int (nI s0)), (4, .int (nI d)), (5, .int (eN p0))] := hl
  have hiX4 : ∀ w ∈ wsX40, w ∈ wsX4_searches := by decide +kernel
  have hf13 := hts (.fieldLink RX4 13 "LandmarkLeaModel" "distances" "[I") (by decide +kernel)
  have hf17 := hts (.fieldLink RX4 17 "LandmarkLeaModel" "parents" "[I") (by decide +kernel)
  have hf26 := hts (.fieldLink RX4 26 "LandmarkLeaModel" "queue" "[I") (by decide +kernel)
  have hf29 := hts (.fieldLink RX4 29 "LandmarkLeaModel" "far" "[I") (by decide +kernel)
  have hf32 := hts (.fieldLink RX4 32 "LandmarkLeaModel" "from" "[I") (by decide +kernel)
  have hf39 := hts (.fieldLink RX4 39 "LandmarkLeaModel" "many" "I") (by decide +kernel)
  have hf54 := hts (.fieldLink RX4 54 "LandmarkLeaModel" "visits" "I") (by decide +kernel)
  have hf57 := hts (.fieldLink RX4 57 "LandmarkLeaModel" "cut" "I") (by decide +kernel)
  have hf60 := hts (.fieldLink RX4 60 "LandmarkLeaModel" "put" "I") (by decide +kernel)
  refine lv_lconst (v := 1) hx hb dX4_searches_0 rfl ?_
  refine lv_iload_n hx hb dX4_searches_1 rfl (lv_at hl 3 rfl) ?_
  refine lv_lshl (v := (1 <<< ((nI s0).toInt64 &&& 63))) hx hb dX4_searches_2 rfl ?_
  refine lv_lstore (lv' := [(6, .long (1 <<< ((nI s0).toInt64 &&& 63))), (0, .ref mo), (1, .int (nI tb)), (2, .int (nI r)), (3, .int (nI s0)), (4, .int (nI d)), (5, .int (eN p0))]) hx hb dX4_searches_3 hl (by decide) rfl (fun ls hl => ?_)
  refine lv_iconst (v := (nI 1)) hx hb dX4_searches_5 (by decide) ?_
  refine lv_istore (lv' := [(8, .int (nI 1)), (6, .long (1 <<< ((nI s0).toInt64 &&& 63))), (0, .ref mo), (1, .int (nI tb)), (2, .int (nI r)), (3, .int (nI s0)), (4, .int (nI d)), (5, .int (eN p0))]) hx hb dX4_searches_6 hl (by decide) rfl (fun ls hl => ?_)
  refine lv_aload_n hx hb dX4_searches_8 rfl (lv_at hl 2 rfl) ?_
  refine va_get (D := dG) (ci := 4) (v := .ref mQ) (C := RX4) (T := TX4) (N := 17) hx hb hts hiX4 hown hK.1 hP 0 rfl rfl 8 (by decide) hf26 (fun _ h9 => h9) rfl dX4_searches_9 ?_
  refine lv_iconst (v := (nI 0)) hx hb dX4_searches_12 (by decide) ?_
  refine lv_iload_n hx hb dX4_searches_13 rfl (lv_at hl 5 rfl) ?_
  refine x_iast (f := que) hx hb hK hP hD hS 6 rfl (by omega) (by decide) dX4_searches_14 (fun H locs hP hD hS => ?_)
  have hP : va_P dG vwCl (MW cI cJ mo mN mD mP mH mR mQ mF mO near (nI n) (nI ec) (bI bt) dis par hubs rnks (upd que 0 (nI s0)) far frm (nI vi) (nI cu) (nI pu) (nI pn) (nI wn) th ++ X) H := hP
  have hD : va_D A (MW cI cJ mo mN mD mP mH mR mQ mF mO near (nI n) (nI ec) (bI bt) dis par hubs rnks (upd que 0 (nI s0)) far frm (nI vi) (nI cu) (nI pu) (nI pn) (nI wn) th ++ X) := hD
  refine lv_aload_n hx hb dX4_searches_15 rfl (lv_at hl 2 rfl) ?_
  refine va_get (D := dG) (ci := 4) (v := .ref mF) (C := RX4) (T := TX4) (N := 17) hx hb hts hiX4 hown hK.1 hP 0 rfl rfl 9 (by decide) hf29 (fun _ h9 => h9) rfl dX4_searches_16 ?_
  refine lv_iconst (v := (nI 0)) hx hb dX4_searches_19 (by decide) ?_
  refine lv_iload hx hb dX4_searches_20 (lv_at hl 6 rfl) ?_
  refine x_iast (f := far) hx hb hK hP hD hS 7 rfl (by omega) (by decide) dX4_searches_22 (fun H locs hP hD hS => ?_)
  have hP : va_P dG vwCl (MW cI cJ mo mN mD mP mH mR mQ mF mO near (nI n) (nI ec) (bI bt) dis par hubs rnks (upd que 0 (nI s0)) (upd far 0 (nI d)) frm (nI vi) (nI cu) (nI pu) (nI pn) (nI wn) th ++ X) H := hP
  have hD : va_D A (MW cI cJ mo mN mD mP mH mR mQ mF mO near (nI n) (nI ec) (bI bt) dis par hubs rnks (upd que 0 (nI s0)) (upd far 0 (nI d)) frm (nI vi) (nI cu) (nI pu) (nI pn) (nI wn) th ++ X) := hD
  refine lv_aload_n hx hb dX4_searches_23 rfl (lv_at hl 2 rfl) ?_
  refine va_get (D := dG) (ci := 4) (v := .ref mO) (C := RX4) (T := TX4) (N := 17) hx hb hts hiX4 hown hK.1 hP 0 rfl rfl 10 (by decide) hf32 (fun _ h9 => h9) rfl dX4_searches_24 ?_
  refine lv_iconst (v := (nI 0)) hx hb dX4_searches_27 (by decide) ?_
  refine lv_iload hx hb dX4_searches_28 (lv_at hl 7 rfl) ?_
  refine x_iast (f := frm) hx hb hK hP hD hS 8 rfl (by omega) (by decide) dX4_searches_30 (fun H locs hP hD hS => ?_)
  have hP : va_P dG vwCl (MW cI cJ mo mN mD mP mH mR mQ mF mO near (nI n) (nI ec) (bI bt) dis par hubs rnks (upd que 0 (nI s0)) (upd far 0 (nI d)) (upd frm 0 (eN p0)) (nI vi) (nI cu) (nI pu) (nI pn) (nI wn) th ++ X) H := hP
  have hD : va_D A (MW cI cJ mo mN mD mP mH mR mQ mF mO near (nI n) (nI ec) (bI bt) dis par hubs rnks (upd que 0 (nI s0)) (upd far 0 (nI d)) (upd frm 0 (eN p0)) (nI vi) (nI cu) (nI pu) (nI pn) (nI wn) th ++ X) := hD
  refine lv_iconst (v := (nI 0)) hx hb dX4_searches_31 (by decide) ?_
  refine lv_istore (lv' := [(9, .int (nI 0)), (8, .int (nI 1)), (6, .long (1 <<< ((nI s0).toInt64 &&& 63))), (0, .ref mo), (1, .int (nI tb)), (2, .int (nI r)), (3, .int (nI s0)), (4, .int (nI d)), (5, .int (eN p0))]) hx hb dX4_searches_32 hl (by decide) rfl (fun ls hl => ?_)
  obtain ⟨dis0, ed0⟩ : ∃ z, z = dis := ⟨_, rfl⟩
  obtain ⟨par0, ep0⟩ : ∃ z, z = par := ⟨_, rfl⟩
  have hQ0 : QR que far frm q00 := fun i hi => absurd hi (Nat.not_lt_zero i)
  have hl : lv_has ls 13 [(9, .int (nI 0)), (8, .int (nI 1)), (6, .long (qb9 (qpush q00 s0 d p0))), (0, .ref mo), (1, .int (nI tb)), (2, .int (nI r)), (3, .int (nI s0)), (4, .int (nI d)), (5, .int (eN p0))] := by rw [q00_been]; exact hl
  have loop : ∀ (QQ : State → Prop) (n1 : Nat) (k : Nat) (que far frm dis par : Nat → Int32) (S : ST), 48 < k + n1 → k ≤ 48 → srun near n h r (48 - k) k S = F → SI n d B S → RepM tb S.1 S.2.1 dis par → QR que far frm S.2.2.1 → Fr (2304 * tb) 2304 dis0 dis → Fr (2304 * tb) 2304 par0 par → (∀ (que far frm dis par : Nat → Int32) (_ : RepM tb F.1 F.2.1 dis par) (_ : Fr (2304 * tb) 2304 dis0 dis) (_ : Fr (2304 * tb) 2304 par0 par), ∀ (H : Heap) (locs : List Loc), va_P dG vwCl (MW cI cJ mo mN mD mP mH mR mQ mF mO near (nI n) (nI ec) (bI bt) dis par hubs rnks que far frm (nI F.2.2.2.1) (nI F.2.2.2.2.1) (nI F.2.2.2.2.2) (nI pn) (nI wn) th ++ X) H → va_D A (MW cI cJ mo mN mD mP mH mR mQ mF mO near (nI n) (nI ec) (bI bt) dis par hubs rnks que far frm (nI F.2.2.2.1) (nI F.2.2.2.2.1) (nI F.2.2.2.2.2) (nI pn) (nI wn) th ++ X) → va_S A s.heap H locs → ∀ ls : Array Slot, lv_has ls 13 [(0, .ref mo), (1, .int (nI tb)), (2, .int (nI r)), (3, .int (nI s0)), (4, .int (nI d)), (5, .int (eN p0))] → W p l e ({ frames := 3, cells := 0, slots := 0, locals := 76 } : Room) s m ([.ref mo, .int (nI tb), .int (nI r), .int (nI s0), .int (nI d), .int (eN p0)] : List Value).toArray below meth c H locs 0 0 QQ (F0 m 241 ls [])) → ∀ (H : Heap) (locs : List Loc), va_P dG vwCl (MW cI cJ mo mN mD mP mH mR mQ mF mO near (nI n) (nI ec) (bI bt) dis par hubs rnks que far frm (nI S.2.2.2.1) (nI S.2.2.2.2.1) (nI S.2.2.2.2.2) (nI pn) (nI wn) th ++ X) H → va_D A (MW cI cJ mo mN mD mP mH mR mQ mF mO near (nI n) (nI ec) (bI bt) dis par hubs rnks que far frm (nI S.2.2.2.1) (nI S.2.2.2.2.1) (nI S.2.2.2.2.2) (nI pn) (nI wn) th ++ X) → va_S A s.heap H locs → ∀ ls : Array Slot, lv_has ls 13 [(0, .ref mo), (1, .int (nI tb)), (2, .int (nI r)), (3, .int (nI s0)), (4, .int (nI d)), (5, .int (eN p0)), (6, .long (qb9 S.2.2.1)), (8, .int (nI (qn S.2.2.1))), (9, .int (nI k))] → W p l e ({ frames := 3, cells := 0, slots := 0, locals := 76 } : Room) s m ([.ref mo, .int (nI tb), .int (nI r), .int (nI s0), .int (nI d), .int (eN p0)] : List Value).toArray below meth c H locs 0 0 QQ (F0 m 34 ls []) := by
    intro QQ n1
    induction n1 with
    | zero => intro k que far frm dis par S h1 h2 h3 hSI hR hQ f1 f2; exact absurd h1 (by omega)
    | succ n1 ih =>
      intro k que far frm dis par S h1 h2 h3 hSI hR hQ f1 f2 kx H locs hP hD hS ls hl
      refine lv_iload hx hb dX4_searches_34 (lv_at hl 8 rfl) ?_
      refine lv_iload hx hb dX4_searches_36 (lv_at hl 7 rfl) ?_
      refine x_icmp_geN (i := k) (j := (qn S.2.2.1)) (tgt := 241) hx hb (by omega) (by have := hSI.1.le; omega) dX4_searches_38 (by decide) (fun c38 => ?_) (fun c38 => ?_)
      · skip
        have eF := srun_end c38 h3
        subst eF
        exact kx (que) (far) (frm) (dis) (par) (hR) (f1) (f2) H locs hP hD hS ls (lv_sub hl [0, 1, 2, 3, 4, 5] rfl)
      · skip
        obtain ⟨v0, ev0⟩ : ∃ z, z = S.2.2.1.1 k := ⟨_, rfl⟩
        obtain ⟨d1, ed1⟩ : ∃ z, z = S.2.2.1.2.1 k := ⟨_, rfl⟩
        obtain ⟨p1, ep1⟩ : ∃ z, z = S.2.2.1.2.2.1 k := ⟨_, rfl⟩
        have hle := hSI.1.le
        have hv0 : v0 < n := by rw [ev0]; exact hSI.1.2 k c38
        have hd1 : d1 ≤ d + k := by rw [ed1]; exact hSI.2.1 k c38
        have hS2 := SI_vst (ns := near) (h := h) (r := r) hSI hn c38 hd
        rw [← ev0, ← ed1, ← ep1] at hS2
        have hG := srun_go (by omega) c38 h3
        rw [← ev0, ← ed1, ← ep1] at hG
        refine lv_aload_n hx hb dX4_searches_41 rfl (lv_at hl 0 rfl) ?_
        refine va_get (D := dG) (ci := 4) (v := .ref mQ) (C := RX4) (T := TX4) (N := 17) hx hb hts hiX4 hown hK.1 hP 0 rfl rfl 8 (by decide) hf26 (fun _ h9 => h9) rfl dX4_searches_42 ?_
        refine lv_iload hx hb dX4_searches_45 (lv_at hl 8 rfl) ?_
        refine x_iald (f := que) hx hb hK hP 6 rfl (by omega) (by decide) dX4_searches_47 ?_
        rw [show que k = (nI v0) from (hQ k c38).1.trans (by rw [ev0])]
        refine lv_istore (lv' := [(10, .int (nI v0)), (0, .ref mo), (1, .int (nI tb)), (2, .int (nI r)), (3, .int (nI s0)), (4, .int (nI d)), (5, .int (eN p0)), (6, .long (qb9 S.2.2.1)), (8, .int (nI (qn S.2.2.1))), (9, .int (nI k))]) hx hb dX4_searches_48 hl (by decide) rfl (fun ls hl => ?_)
        refine lv_aload_n hx hb dX4_searches_50 rfl (lv_at hl 1 rfl) ?_
        refine lv_iload_n hx hb dX4_searches_51 rfl (lv_at hl 2 rfl) ?_
        refine lv_iload_n hx hb dX4_searches_52 rfl (lv_at hl 3 rfl) ?_
        refine lv_iload hx hb dX4_searches_53 (lv_at hl 0 rfl) ?_
        refine lv_aload_n hx hb dX4_searches_55 rfl (lv_at hl 1 rfl) ?_
        refine va_get (D := dG) (ci := 4) (v := .ref mF) (C := RX4) (T := TX4) (N := 17) hx hb hts hiX4 hown hK.1 hP 0 rfl rfl 9 (by decide) hf29 (fun _ h9 => h9) rfl dX4_searches_56 ?_
        refine lv_iload hx hb dX4_searches_59 (lv_at hl 9 rfl) ?_
        refine x_iald (f := far) hx hb hK hP 7 rfl (by omega) (by decide) dX4_searches_61 ?_
        rw [show far k = (nI d1) from (hQ k c38).2.1.trans (by rw [ed1])]
        have hPc := hP.sub (ws' := (MW cI cJ mo mN mD mP mH mR mQ mF mO near (nI n) (nI ec) (bI bt) dis par hubs rnks que far frm (nI S.2.2.2.1) (nI S.2.2.2.2.1) (nI S.2.2.2.2.2) (nI pn) (nI wn) th)) [0, 1, 2, 3, 4, 5, 6, 7, 8] rfl
        refine x_ri (W.runV (As := [.int (nI tb), .int (nI r), .int (nI v0), .int (nI d1)]) (rest := []) ⟨hx, hb, hml, hown, hts⟩ (m_isPruned l dG cI cJ mo mN mD mP mH mR mQ mF mO near n ec bt dis par hubs rnks que far frm S.2.2.2.1 S.2.2.2.2.1 S.2.2.2.2.2 pn wn th tb htb S.1 S.2.1 hR (hSI.2.2.mono hB3) r v0 d1 h (by omega) hr0 (by omega) hh eh) (cwV 4 hts gX4_searches_X4_isPruned rfl rfl rfl (by decide +kernel) ⟨Nat.le_of_ble_eq_true rfl, Nat.le_of_ble_eq_true rfl⟩) (RPc.pre hPc hK (va_recv hK.1 hPc (ci := 4) (q0 := 0) rfl rfl)) rfl rfl hl.1 rfl (lv_room (Nat.le_of_ble_eq_true rfl)) dX4_searches_62 ⟨Nat.zero_le _, Nat.zero_le _⟩) ?_
        refine lv_istore (lv' := [(11, .int (bI (rch S.1 h v0 d1 (r + 1)))), (10, .int (nI v0)), (0, .ref mo), (1, .int (nI tb)), (2, .int (nI r)), (3, .int (nI s0)), (4, .int (nI d)), (5, .int (eN p0)), (6, .long (qb9 S.2.2.1)), (8, .int (nI (qn S.2.2.1))), (9, .int (nI k))]) hx hb dX4_searches_65 hl (by decide) rfl (fun ls hl => ?_)
        refine lv_aload_n hx hb dX4_searches_67 rfl (lv_at hl 2 rfl) ?_
        refine lv_dup hx hb dX4_searches_68 rfl ?_
        refine va_get (D := dG) (ci := 4) (v := .int (nI S.2.2.2.1)) (C := RX4) (T := TX4) (N := 17) hx hb hts hiX4 hown hK.1 hP 0 rfl rfl 11 (by decide) hf54 (fun _ h9 => h9) rfl dX4_searches_69 ?_
        refine lv_iconst (v := (nI 1)) hx hb dX4_searches_72 (by decide) ?_
        refine x_addN (i := S.2.2.2.1) (j := 1) hx hb dX4_searches_73 ?_
        refine va_put (D := dG) (ci := 4) (v := .int (nI (S.2.2.2.1 + 1))) (ty := .int) (C := RX4) (T := TX4) (N := 17) hx hb hts hiX4 tyX4 tyX4_ok nmX4 hown hK.1 hP hD hS 0 rfl rfl 11 (by decide) hf54 (fun _ h9 => h9) rfl (by decide +kernel) rfl rfl (Nat.le_of_ble_eq_true rfl) dX4_searches_74 (fun H locs hP hD hS => ?_)
        have hP : va_P dG vwCl (MW cI cJ mo mN mD mP mH mR mQ mF mO near (nI n) (nI ec) (bI bt) dis par hubs rnks que far frm (nI (S.2.2.2.1 + 1)) (nI S.2.2.2.2.1) (nI S.2.2.2.2.2) (nI pn) (nI wn) th ++ X) H := hP
        have hD : va_D A (MW cI cJ mo mN mD mP mH mR mQ mF mO near (nI n) (nI ec) (bI bt) dis par hubs rnks que far frm (nI (S.2.2.2.1 + 1)) (nI S.2.2.2.2.1) (nI S.2.2.2.2.2) (nI pn) (nI wn) th ++ X) := hD
        refine lv_iload hx hb dX4_searches_77 (lv_at hl 0 rfl) ?_
        refine x_ifeqB (tgt := 95) hx hb dX4_searches_79 (by decide) (fun c79 => ?_) (fun c79 => ?_)
        · skip
          have eV : vst near n h r v0 d1 p1 S = (up2 S.1 v0 r (some d1), up2 S.2.1 v0 r p1, enq near v0 d1 S.2.2.1 n, S.2.2.2.1 + 1, S.2.2.2.2.1, S.2.2.2.2.2 + 1) := if_neg (by rw [c79]; decide)
          have hl : lv_has ls 13 [(11, .int (bI false)), (10, .int (nI v0)), (0, .ref mo), (1, .int (nI tb)), (2, .int (nI r)), (3, .int (nI s0)), (4, .int (nI d)), (5, .int (eN p0)), (6, .long (qb9 S.2.2.1)), (8, .int (nI (qn S.2.2.1))), (9, .int (nI k))] := by rw [c79] at hl; exact hl
          have hR2 := hR.put (d := d1) (p := p1) (show v0 < 48 by omega) hr0
          refine lv_aload_n hx hb dX4_searches_95 rfl (lv_at hl 2 rfl) ?_
          refine va_get (D := dG) (ci := 4) (v := .ref mD) (C := RX4) (T := TX4) (N := 17) hx hb hts hiX4 hown hK.1 hP 0 rfl rfl 4 (by decide) hf13 (fun _ h9 => h9) rfl dX4_searches_96 ?_
          refine lv_iload_n hx hb dX4_searches_99 rfl (lv_at hl 3 rfl) ?_
          refine lv_iload hx hb dX4_searches_100 (lv_at hl 1 rfl) ?_
          refine lv_iload_n hx hb dX4_searches_102 rfl (lv_at hl 4 rfl) ?_
          have hPc : va_P dG vwCl [] H := fun k q h => by simp at h
          refine x_ri (W.runS (As := [.int (nI tb), .int (nI v0), .int (nI r)]) (rest := [.ref mD]) ⟨hx, hb, hml, hown, hts⟩ (m_at l dG cI cJ tb v0 r) (va_cwS 3 hts gX4_searches_X4_at rfl rfl rfl (by decide +kernel) ⟨Nat.le_of_ble_eq_true rfl, Nat.le_of_ble_eq_true rfl⟩) (RPc.preS hPc hK) rfl rfl hl.1 rfl (lv_room (Nat.le_of_ble_eq_true rfl)) dX4_searches_103 ⟨Nat.zero_le _, Nat.zero_le _⟩) ?_
          refine lv_aload_n hx hb dX4_searches_106 rfl (lv_at hl 2 rfl) ?_
          refine va_get (D := dG) (ci := 4) (v := .ref mF) (C := RX4) (T := TX4) (N := 17) hx hb hts hiX4 hown hK.1 hP 0 rfl rfl 9 (by decide) hf29 (fun _ h9 => h9) rfl dX4_searches_107 ?_
          refine lv_iload hx hb dX4_searches_110 (lv_at hl 10 rfl) ?_
          refine x_iald (f := far) hx hb hK hP 7 rfl (by omega) (by decide) dX4_searches_112 ?_
          rw [show far k = (nI d1) from (hQ k c38).2.1.trans (by rw [ed1])]
          refine x_iast (f := dis) hx hb hK hP hD hS 2 rfl (by omega) (by decide) dX4_searches_113 (fun H locs hP hD hS => ?_)
          have hP : va_P dG vwCl (MW cI cJ mo mN mD mP mH mR mQ mF mO near (nI n) (nI ec) (bI bt) (upd dis (2304 * tb + 48 * v0 + r) (nI d1)) par hubs rnks que far frm (nI (S.2.2.2.1 + 1)) (nI S.2.2.2.2.1) (nI S.2.2.2.2.2) (nI pn) (nI wn) th ++ X) H := hP
          have hD : va_D A (MW cI cJ mo mN mD mP mH mR mQ mF mO near (nI n) (nI ec) (bI bt) (upd dis (2304 * tb + 48 * v0 + r) (nI d1)) par hubs rnks que far frm (nI (S.2.2.2.1 + 1)) (nI S.2.2.2.2.1) (nI S.2.2.2.2.2) (nI pn) (nI wn) th ++ X) := hD
          refine lv_aload_n hx hb dX4_searches_114 rfl (lv_at hl 2 rfl) ?_
          refine va_get (D := dG) (ci := 4) (v := .ref mP) (C := RX4) (T := TX4) (N := 17) hx hb hts hiX4 hown hK.1 hP 0 rfl rfl 5 (by decide) hf17 (fun _ h9 => h9) rfl dX4_searches_115 ?_
          refine lv_iload_n hx hb dX4_searches_118 rfl (lv_at hl 3 rfl) ?_
          refine lv_iload hx hb dX4_searches_119 (lv_at hl 1 rfl) ?_
          refine lv_iload_n hx hb dX4_searches_121 rfl (lv_at hl 4 rfl) ?_
          have hPc : va_P dG vwCl [] H := fun k q h => by simp at h
          refine x_ri (W.runS (As := [.int (nI tb), .int (nI v0), .int (nI r)]) (rest := [.ref mP]) ⟨hx, hb, hml, hown, hts⟩ (m_at l dG cI cJ tb v0 r) (va_cwS 3 hts gX4_searches_X4_at rfl rfl rfl (by decide +kernel) ⟨Nat.le_of_ble_eq_true rfl, Nat.le_of_ble_eq_true rfl⟩) (RPc.preS hPc hK) rfl rfl hl.1 rfl (lv_room (Nat.le_of_ble_eq_true rfl)) dX4_searches_122 ⟨Nat.zero_le _, Nat.zero_le _⟩) ?_
          refine lv_aload_n hx hb dX4_searches_125 rfl (lv_at hl 2 rfl) ?_
          refine va_get (D := dG) (ci := 4) (v := .ref mO) (C := RX4) (T := TX4) (N := 17) hx hb hts hiX4 hown hK.1 hP 0 rfl rfl 10 (by decide) hf32 (fun _ h9 => h9) rfl dX4_searches_126 ?_
          refine lv_iload hx hb dX4_searches_129 (lv_at hl 10 rfl) ?_
          refine x_iald (f := frm) hx hb hK hP 8 rfl (by omega) (by decide) dX4_searches_131 ?_
          rw [show frm k = (eN p1) from (hQ k c38).2.2.trans (by rw [ep1])]
          refine x_iast (f := par) hx hb hK hP hD hS 3 rfl (by omega) (by decide) dX4_searches_132 (fun H locs hP hD hS => ?_)
          have hP : va_P dG vwCl (MW cI cJ mo mN mD mP mH mR mQ mF mO near (nI n) (nI ec) (bI bt) (upd dis (2304 * tb + 48 * v0 + r) (nI d1)) (upd par (2304 * tb + 48 * v0 + r) (eN p1)) hubs rnks que far frm (nI (S.2.2.2.1 + 1)) (nI S.2.2.2.2.1) (nI S.2.2.2.2.2) (nI pn) (nI wn) th ++ X) H := hP
          have hD : va_D A (MW cI cJ mo mN mD mP mH mR mQ mF mO near (nI n) (nI ec) (bI bt) (upd dis (2304 * tb + 48 * v0 + r) (nI d1)) (upd par (2304 * tb + 48 * v0 + r) (eN p1)) hubs rnks que far frm (nI (S.2.2.2.1 + 1)) (nI S.2.2.2.2.1) (nI S.2.2.2.2.2) (nI pn) (nI wn) th ++ X) := hD
          refine lv_aload_n hx hb dX4_searches_133 rfl (lv_at hl 2 rfl) ?_
          refine lv_dup hx hb dX4_searches_134 rfl ?_
          refine va_get (D := dG) (ci := 4) (v := .int (nI S.2.2.2.2.2)) (C := RX4) (T := TX4) (N := 17) hx hb hts hiX4 hown hK.1 hP 0 rfl rfl 13 (by decide) hf60 (fun _ h9 => h9) rfl dX4_searches_135 ?_
          refine lv_iconst (v := (nI 1)) hx hb dX4_searches_138 (by decide) ?_
          refine x_addN (i := S.2.2.2.2.2) (j := 1) hx hb dX4_searches_139 ?_
          refine va_put (D := dG) (ci := 4) (v := .int (nI (S.2.2.2.2.2 + 1))) (ty := .int) (C := RX4) (T := TX4) (N := 17) hx hb hts hiX4 tyX4 tyX4_ok nmX4 hown hK.1 hP hD hS 0 rfl rfl 13 (by decide) hf60 (fun _ h9 => h9) rfl (by decide +kernel) rfl rfl (Nat.le_of_ble_eq_true rfl) dX4_searches_140 (fun H locs hP hD hS => ?_)
          have hP : va_P dG vwCl (MW cI cJ mo mN mD mP mH mR mQ mF mO near (nI n) (nI ec) (bI bt) (upd dis (2304 * tb + 48 * v0 + r) (nI d1)) (upd par (2304 * tb + 48 * v0 + r) (eN p1)) hubs rnks que far frm (nI (S.2.2.2.1 + 1)) (nI S.2.2.2.2.1) (nI (S.2.2.2.2.2 + 1)) (nI pn) (nI wn) th ++ X) H := hP
          have hD : va_D A (MW cI cJ mo mN mD mP mH mR mQ mF mO near (nI n) (nI ec) (bI bt) (upd dis (2304 * tb + 48 * v0 + r) (nI d1)) (upd par (2304 * tb + 48 * v0 + r) (eN p1)) hubs rnks que far frm (nI (S.2.2.2.1 + 1)) (nI S.2.2.2.2.1) (nI (S.2.2.2.2.2 + 1)) (nI pn) (nI wn) th ++ X) := hD
          refine lv_iconst (v := (nI 0)) hx hb dX4_searches_143 (by decide) ?_
          refine lv_istore (lv' := [(12, .int (nI 0)), (11, .int (bI false)), (10, .int (nI v0)), (0, .ref mo), (1, .int (nI tb)), (2, .int (nI r)), (3, .int (nI s0)), (4, .int (nI d)), (5, .int (eN p0)), (6, .long (qb9 S.2.2.1)), (8, .int (nI (qn S.2.2.1))), (9, .int (nI k))]) hx hb dX4_searches_144 hl (by decide) rfl (fun ls hl => ?_)
          have inner : ∀ (QQ : State → Prop) (n1 : Nat) (j : Nat) (que far frm : Nat → Int32), n < j + n1 → j ≤ n → QR que far frm (enq near v0 d1 S.2.2.1 j) → (∀ (que far frm : Nat → Int32) (_ : QR que far frm (enq near v0 d1 S.2.2.1 n)), ∀ (H : Heap) (locs : List Loc), va_P dG vwCl (MW cI cJ mo mN mD mP mH mR mQ mF mO near (nI n) (nI ec) (bI bt) (upd dis (2304 * tb + 48 * v0 + r) (nI d1)) (upd par (2304 * tb + 48 * v0 + r) (eN p1)) hubs rnks que far frm (nI (S.2.2.2.1 + 1)) (nI S.2.2.2.2.1) (nI (S.2.2.2.2.2 + 1)) (nI pn) (nI wn) th ++ X) H → va_D A (MW cI cJ mo mN mD mP mH mR mQ mF mO near (nI n) (nI ec) (bI bt) (upd dis (2304 * tb + 48 * v0 + r) (nI d1)) (upd par (2304 * tb + 48 * v0 + r) (eN p1)) hubs rnks que far frm (nI (S.2.2.2.1 + 1)) (nI S.2.2.2.2.1) (nI (S.2.2.2.2.2 + 1)) (nI pn) (nI wn) th ++ X) → va_S A s.heap H locs → ∀ ls : Array Slot, lv_has ls 13 [(0, .ref mo), (1, .int (nI tb)), (2, .int (nI r)), (3, .int (nI s0)), (4, .int (nI d)), (5, .int (eN p0)), (6, .long (qb9 (enq near v0 d1 S.2.2.1 n))), (8, .int (nI (qn (enq near v0 d1 S.2.2.1 n)))), (9, .int (nI k)), (10, .int (nI v0)), (11, .int (bI false)), (12, .int (nI n))] → W p l e ({ frames := 3, cells := 0, slots := 0, locals := 76 } : Room) s m ([.ref mo, .int (nI tb), .int (nI r), .int (nI s0), .int (nI d), .int (eN p0)] : List Value).toArray below meth c H locs 0 0 QQ (F0 m 235 ls [])) → ∀ (H : Heap) (locs : List Loc), va_P dG vwCl (MW cI cJ mo mN mD mP mH mR mQ mF mO near (nI n) (nI ec) (bI bt) (upd dis (2304 * tb + 48 * v0 + r) (nI d1)) (upd par (2304 * tb + 48 * v0 + r) (eN p1)) hubs rnks que far frm (nI (S.2.2.2.1 + 1)) (nI S.2.2.2.2.1) (nI (S.2.2.2.2.2 + 1)) (nI pn) (nI wn) th ++ X) H → va_D A (MW cI cJ mo mN mD mP mH mR mQ mF mO near (nI n) (nI ec) (bI bt) (upd dis (2304 * tb + 48 * v0 + r) (nI d1)) (upd par (2304 * tb + 48 * v0 + r) (eN p1)) hubs rnks que far frm (nI (S.2.2.2.1 + 1)) (nI S.2.2.2.2.1) (nI (S.2.2.2.2.2 + 1)) (nI pn) (nI wn) th ++ X) → va_S A s.heap H locs → ∀ ls : Array Slot, lv_has ls 13 [(0, .ref mo), (1, .int (nI tb)), (2, .int (nI r)), (3, .int (nI s0)), (4, .int (nI d)), (5, .int (eN p0)), (6, .long (qb9 (enq near v0 d1 S.2.2.1 j))), (8, .int (nI (qn (enq near v0 d1 S.2.2.1 j)))), (9, .int (nI k)), (10, .int (nI v0)), (11, .int (bI false)), (12, .int (nI j))] → W p l e ({ frames := 3, cells := 0, slots := 0, locals := 76 } : Room) s m ([.ref mo, .int (nI tb), .int (nI r), .int (nI s0), .int (nI d), .int (eN p0)] : List Value).toArray below meth c H locs 0 0 QQ (F0 m 146 ls []) := by
            intro QQ n1
            induction n1 with
            | zero => intro j que far frm h1i h2i hQ2; exact absurd h1i (by omega)
            | succ n1 ih =>
              intro j que far frm h1i h2i hQ2 ky H locs hP hD hS ls hl
              refine lv_iload hx hb dX4_searches_146 (lv_at hl 11 rfl) ?_
              refine lv_aload_n hx hb dX4_searches_148 rfl (lv_at hl 0 rfl) ?_
              refine va_get (D := dG) (ci := 4) (v := .int (nI n)) (C := RX4) (T := TX4) (N := 17) hx hb hts hiX4 hown hK.1 hP 0 rfl rfl 1 (by decide) hf39 (fun _ h9 => h9) rfl dX4_searches_149 ?_
              refine x_icmp_geN (i := j) (j := n) (tgt := 235) hx hb (by omega) (by omega) dX4_searches_152 (by decide) (fun c152 => ?_) (fun c152 => ?_)
              · skip
                have ek : j = n := by omega
                subst ek
                exact ky (que) (far) (frm) (hQ2) H locs hP hD hS ls (lv_sub hl [0, 1, 2, 3, 4, 5, 6, 7, 8, 9, 10, 11] rfl)
              · skip
                refine lv_iload hx hb dX4_searches_155 (lv_at hl 10 rfl) ?_
                refine x_ifneB (tgt := 235) hx hb dX4_searches_157 (by decide) (fun h9 => absurd h9 (by decide)) (fun h9 => ?_)
                refine lv_aload_n hx hb dX4_searches_160 rfl (lv_at hl 0 rfl) ?_
                refine lv_iload hx hb dX4_searches_161 (lv_at hl 9 rfl) ?_
                refine lv_iload hx hb dX4_searches_163 (lv_at hl 11 rfl) ?_
                have hPc := hP.sub (ws' := (MW cI cJ mo mN mD mP mH mR mQ mF mO near (nI n) (nI ec) (bI bt) (upd dis (2304 * tb + 48 * v0 + r) (nI d1)) (upd par (2304 * tb + 48 * v0 + r) (eN p1)) hubs rnks que far frm (nI (S.2.2.2.1 + 1)) (nI S.2.2.2.2.1) (nI (S.2.2.2.2.2 + 1)) (nI pn) (nI wn) th)) [0, 1, 2, 3, 4, 5, 6, 7, 8] rfl
                refine x_ri (W.runV (As := [.int (nI v0), .int (nI j)]) (rest := []) ⟨hx, hb, hml, hown, hts⟩ (m_isEdge l dG cI cJ mo mN mD mP mH mR mQ mF mO near n ec bt (upd dis (2304 * tb + 48 * v0 + r) (nI d1)) (upd par (2304 * tb + 48 * v0 + r) (eN p1)) hubs rnks que far frm (S.2.2.2.1 + 1) S.2.2.2.2.1 (S.2.2.2.2.2 + 1) pn wn th v0 j (by omega) (by omega)) (cwV 2 hts gX4_searches_X4_isEdge rfl rfl rfl (by decide +kernel) ⟨Nat.le_of_ble_eq_true rfl, Nat.le_of_ble_eq_true rfl⟩) (RPc.pre hPc hK (va_recv hK.1 hPc (ci := 4) (q0 := 0) rfl rfl)) rfl rfl hl.1 rfl (lv_room (Nat.le_of_ble_eq_true rfl)) dX4_searches_165 ⟨Nat.zero_le _, Nat.zero_le _⟩) ?_
                refine x_ifeqB (tgt := 229) hx hb dX4_searches_168 (by decide) (fun c168 => ?_) (fun c168 => ?_)
                · skip
                  have hb9 : (gb (near v0) j && !gb (qb9 S.2.2.1) j) = false := by rw [c168]; rfl
                  refine x_iincN (lv' := [(12, .int (nI (j + 1))), (0, .ref mo), (1, .int (nI tb)), (2, .int (nI r)), (3, .int (nI s0)), (4, .int (nI d)), (5, .int (eN p0)), (6, .long (qb9 (enq near v0 d1 S.2.2.1 j))), (8, .int (nI (qn (enq near v0 d1 S.2.2.1 j)))), (9, .int (nI k)), (10, .int (nI v0)), (11, .int (bI false))]) hx hb dX4_searches_229 hl (k := 11) rfl (by decide) rfl (fun ls hl => ?_)
                  refine lv_goto (tgt := 146) hx hb dX4_searches_232 (by decide) ?_
                  have hE := enq_no (d := d1) (show j < 48 by omega) hb9
                  have hl : lv_has ls 13 [(12, .int (nI (j + 1))), (0, .ref mo), (1, .int (nI tb)), (2, .int (nI r)), (3, .int (nI s0)), (4, .int (nI d)), (5, .int (eN p0)), (6, .long (qb9 (enq near v0 d1 S.2.2.1 (j + 1)))), (8, .int (nI (qn (enq near v0 d1 S.2.2.1 j)))), (9, .int (nI k)), (10, .int (nI v0)), (11, .int (bI false))] := by rw [hE]; exact hl
                  have hl : lv_has ls 13 [(12, .int (nI (j + 1))), (0, .ref mo), (1, .int (nI tb)), (2, .int (nI r)), (3, .int (nI s0)), (4, .int (nI d)), (5, .int (eN p0)), (6, .long (qb9 (enq near v0 d1 S.2.2.1 (j + 1)))), (8, .int (nI (qn (enq near v0 d1 S.2.2.1 (j + 1))))), (9, .int (nI k)), (10, .int (nI v0)), (11, .int (bI false))] := by rw [hE] at hl ⊢; exact hl
                  exact ih (j + 1) que far frm (by omega) (by omega) (by rw [hE]; exact hQ2) ky H locs hP hD hS ls (lv_sub hl [1, 2, 3, 4, 5, 6, 7, 8, 9, 10, 11, 0] rfl)
                · skip
                  refine lv_lload hx hb dX4_searches_171 (lv_at hl 6 rfl) ?_
                  refine lv_iload hx hb dX4_searches_173 (lv_at hl 11 rfl) ?_
                  refine lv_lshr (v := ((qb9 (enq near v0 d1 S.2.2.1 j)) >>> ((nI j).toInt64 &&& 63))) hx hb dX4_searches_175 rfl ?_
                  refine lv_lconst (v := 1) hx hb dX4_searches_176 rfl ?_
                  refine lv_land hx hb dX4_searches_177 ?_
                  refine lv_lconst (v := 0) hx hb dX4_searches_178 rfl ?_
                  refine W.lcmp hx hb dX4_searches_179 ?_
                  rw [show (lg_cmp (((qb9 (enq near v0 d1 S.2.2.1 j)) >>> ((nI j).toInt64 &&& 63)) &&& 1) 0) = (bI (gb (qb9 (enq near v0 d1 S.2.2.1 j)) j)) from gb_cmp2 (by omega)]
                  refine x_ifneB (tgt := 229) hx hb dX4_searches_180 (by decide) (fun c180 => ?_) (fun c180 => ?_)
                  · skip
                    have hb9 : (gb (near v0) j && !gb (qb9 S.2.2.1) j) = false := by rw [← enq_been (ns := near) (v := v0) (d := d1) j (by omega) j (Nat.le_refl _) (by omega), c180]; simp
                    refine x_iincN (lv' := [(12, .int (nI (j + 1))), (0, .ref mo), (1, .int (nI tb)), (2, .int (nI r)), (3, .int (nI s0)), (4, .int (nI d)), (5, .int (eN p0)), (6, .long (qb9 (enq near v0 d1 S.2.2.1 j))), (8, .int (nI (qn (enq near v0 d1 S.2.2.1 j)))), (9, .int (nI k)), (10, .int (nI v0)), (11, .int (bI false))]) hx hb dX4_searches_229 hl (k := 11) rfl (by decide) rfl (fun ls hl => ?_)
                    refine lv_goto (tgt := 146) hx hb dX4_searches_232 (by decide) ?_
                    have hE := enq_no (d := d1) (show j < 48 by omega) hb9
                    have hl : lv_has ls 13 [(12, .int (nI (j + 1))), (0, .ref mo), (1, .int (nI tb)), (2, .int (nI r)), (3, .int (nI s0)), (4, .int (nI d)), (5, .int (eN p0)), (6, .long (qb9 (enq near v0 d1 S.2.2.1 (j + 1)))), (8, .int (nI (qn (enq near v0 d1 S.2.2.1 j)))), (9, .int (nI k)), (10, .int (nI v0)), (11, .int (bI false))] := by rw [hE]; exact hl
                    have hl : lv_has ls 13 [(12, .int (nI (j + 1))), (0, .ref mo), (1, .int (nI tb)), (2, .int (nI r)), (3, .int (nI s0)), (4, .int (nI d)), (5, .int (eN p0)), (6, .long (qb9 (enq near v0 d1 S.2.2.1 (j + 1)))), (8, .int (nI (qn (enq near v0 d1 S.2.2.1 (j + 1))))), (9, .int (nI k)), (10, .int (nI v0)), (11, .int (bI false))] := by rw [hE] at hl ⊢; exact hl
                    exact ih (j + 1) que far frm (by omega) (by omega) (by rw [hE]; exact hQ2) ky H locs hP hD hS ls (lv_sub hl [1, 2, 3, 4, 5, 6, 7, 8, 9, 10, 11, 0] rfl)
                  · skip
                    have hb9 : (gb (near v0) j && !gb (qb9 S.2.2.1) j) = true := by rw [← enq_been (ns := near) (v := v0) (d := d1) j (by omega) j (Nat.le_refl _) (by omega), c180, c168]; rfl
                    refine lv_lload hx hb dX4_searches_183 (lv_at hl 6 rfl) ?_
                    refine lv_lconst (v := 1) hx hb dX4_searches_185 rfl ?_
                    refine lv_iload hx hb dX4_searches_186 (lv_at hl 11 rfl) ?_
                    refine lv_lshl (v := (1 <<< ((nI j).toInt64 &&& 63))) hx hb dX4_searches_188 rfl ?_
                    refine lv_lor hx hb dX4_searches_189 ?_
                    refine lv_lstore (lv' := [(6, .long ((qb9 (enq near v0 d1 S.2.2.1 j)) ||| (1 <<< ((nI j).toInt64 &&& 63)))), (0, .ref mo), (1, .int (nI tb)), (2, .int (nI r)), (3, .int (nI s0)), (4, .int (nI d)), (5, .int (eN p0)), (8, .int (nI (qn (enq near v0 d1 S.2.2.1 j)))), (9, .int (nI k)), (10, .int (nI v0)), (11, .int (bI false)), (12, .int (nI j))]) hx hb dX4_searches_190 hl (by decide) rfl (fun ls hl => ?_)
                    refine lv_aload_n hx hb dX4_searches_192 rfl (lv_at hl 1 rfl) ?_
                    refine va_get (D := dG) (ci := 4) (v := .ref mQ) (C := RX4) (T := TX4) (N := 17) hx hb hts hiX4 hown hK.1 hP 0 rfl rfl 8 (by decide) hf26 (fun _ h9 => h9) rfl dX4_searches_193 ?_
                    refine lv_iload hx hb dX4_searches_196 (lv_at hl 7 rfl) ?_
                    refine lv_iload hx hb dX4_searches_198 (lv_at hl 11 rfl) ?_
                    refine x_iast (f := que) hx hb hK hP hD hS 6 rfl ((Nat.lt_of_lt_of_le (QI.lt (QI_enq hSI.1 hn j (by omega)) c152 (enq_free (by omega) hb9)) hn)) (by decide) dX4_searches_200 (fun H locs hP hD hS => ?_)
                    have hP : va_P dG vwCl (MW cI cJ mo mN mD mP mH mR mQ mF mO near (nI n) (nI ec) (bI bt) (upd dis (2304 * tb + 48 * v0 + r) (nI d1)) (upd par (2304 * tb + 48 * v0 + r) (eN p1)) hubs rnks (upd que (qn (enq near v0 d1 S.2.2.1 j)) (nI j)) far frm (nI (S.2.2.2.1 + 1)) (nI S.2.2.2.2.1) (nI (S.2.2.2.2.2 + 1)) (nI pn) (nI wn) th ++ X) H := hP
                    have hD : va_D A (MW cI cJ mo mN mD mP mH mR mQ mF mO near (nI n) (nI ec) (bI bt) (upd dis (2304 * tb + 48 * v0 + r) (nI d1)) (upd par (2304 * tb + 48 * v0 + r) (eN p1)) hubs rnks (upd que (qn (enq near v0 d1 S.2.2.1 j)) (nI j)) far frm (nI (S.2.2.2.1 + 1)) (nI S.2.2.2.2.1) (nI (S.2.2.2.2.2 + 1)) (nI pn) (nI wn) th ++ X) := hD
                    refine lv_aload_n hx hb dX4_searches_201 rfl (lv_at hl 1 rfl) ?_
                    refine va_get (D := dG) (ci := 4) (v := .ref mF) (C := RX4) (T := TX4) (N := 17) hx hb hts hiX4 hown hK.1 hP 0 rfl rfl 9 (by decide) hf29 (fun _ h9 => h9) rfl dX4_searches_202 ?_
                    refine lv_iload hx hb dX4_searches_205 (lv_at hl 7 rfl) ?_
                    refine lv_aload_n hx hb dX4_searches_207 rfl (lv_at hl 1 rfl) ?_
                    refine va_get (D := dG) (ci := 4) (v := .ref mF) (C := RX4) (T := TX4) (N := 17) hx hb hts hiX4 hown hK.1 hP 0 rfl rfl 9 (by decide) hf29 (fun _ h9 => h9) rfl dX4_searches_208 ?_
                    refine lv_iload hx hb dX4_searches_211 (lv_at hl 8 rfl) ?_
                    refine x_iald (f := far) hx hb hK hP 7 rfl (by omega) (by decide) dX4_searches_213 ?_
                    rw [show far k = (nI d1) from ((hQ2 k (Nat.lt_of_lt_of_le c38 (enq_old (ns := near) (v := v0) (d := d1) (T := S.2.2.1) j).1)).2.1).trans (congrArg nI ((((enq_old (ns := near) (v := v0) (d := d1) (T := S.2.2.1) j).2 k (Nat.lt_of_lt_of_le c38 (enq_old (ns := near) (v := v0) (d := d1) (T := S.2.2.1) j).1)).1 c38).2.1.trans ed1.symm))]
                    refine lv_iconst (v := (nI 1)) hx hb dX4_searches_214 (by decide) ?_
                    refine x_addN (i := d1) (j := 1) hx hb dX4_searches_215 ?_
                    refine x_iast (f := far) hx hb hK hP hD hS 7 rfl ((Nat.lt_of_lt_of_le (QI.lt (QI_enq hSI.1 hn j (by omega)) c152 (enq_free (by omega) hb9)) hn)) (by decide) dX4_searches_216 (fun H locs hP hD hS => ?_)
                    have hP : va_P dG vwCl (MW cI cJ mo mN mD mP mH mR mQ mF mO near (nI n) (nI ec) (bI bt) (upd dis (2304 * tb + 48 * v0 + r) (nI d1)) (upd par (2304 * tb + 48 * v0 + r) (eN p1)) hubs rnks (upd que (qn (enq near v0 d1 S.2.2.1 j)) (nI j)) (upd far (qn (enq near v0 d1 S.2.2.1 j)) (nI (d1 + 1))) frm (nI (S.2.2.2.1 + 1)) (nI S.2.2.2.2.1) (nI (S.2.2.2.2.2 + 1)) (nI pn) (nI wn) th ++ X) H := hP
                    have hD : va_D A (MW cI cJ mo mN mD mP mH mR mQ mF mO near (nI n) (nI ec) (bI bt) (upd dis (2304 * tb + 48 * v0 + r) (nI d1)) (upd par (2304 * tb + 48 * v0 + r) (eN p1)) hubs rnks (upd que (qn (enq near v0 d1 S.2.2.1 j)) (nI j)) (upd far (qn (enq near v0 d1 S.2.2.1 j)) (nI (d1 + 1))) frm (nI (S.2.2.2.1 + 1)) (nI S.2.2.2.2.1) (nI (S.2.2.2.2.2 + 1)) (nI pn) (nI wn) th ++ X) := hD
                    refine lv_aload_n hx hb dX4_searches_217 rfl (lv_at hl 1 rfl) ?_
                    refine va_get (D := dG) (ci := 4) (v := .ref mO) (C := RX4) (T := TX4) (N := 17) hx hb hts hiX4 hown hK.1 hP 0 rfl rfl 10 (by decide) hf32 (fun _ h9 => h9) rfl dX4_searches_218 ?_
                    refine lv_iload hx hb dX4_searches_221 (lv_at hl 7 rfl) ?_
                    refine lv_iload hx hb dX4_searches_223 (lv_at hl 9 rfl) ?_
                    refine x_iast (f := frm) hx hb hK hP hD hS 8 rfl ((Nat.lt_of_lt_of_le (QI.lt (QI_enq hSI.1 hn j (by omega)) c152 (enq_free (by omega) hb9)) hn)) (by decide) dX4_searches_225 (fun H locs hP hD hS => ?_)
                    have hP : va_P dG vwCl (MW cI cJ mo mN mD mP mH mR mQ mF mO near (nI n) (nI ec) (bI bt) (upd dis (2304 * tb + 48 * v0 + r) (nI d1)) (upd par (2304 * tb + 48 * v0 + r) (eN p1)) hubs rnks (upd que (qn (enq near v0 d1 S.2.2.1 j)) (nI j)) (upd far (qn (enq near v0 d1 S.2.2.1 j)) (nI (d1 + 1))) (upd frm (qn (enq near v0 d1 S.2.2.1 j)) (nI v0)) (nI (S.2.2.2.1 + 1)) (nI S.2.2.2.2.1) (nI (S.2.2.2.2.2 + 1)) (nI pn) (nI wn) th ++ X) H := hP
                    have hD : va_D A (MW cI cJ mo mN mD mP mH mR mQ mF mO near (nI n) (nI ec) (bI bt) (upd dis (2304 * tb + 48 * v0 + r) (nI d1)) (upd par (2304 * tb + 48 * v0 + r) (eN p1)) hubs rnks (upd que (qn (enq near v0 d1 S.2.2.1 j)) (nI j)) (upd far (qn (enq near v0 d1 S.2.2.1 j)) (nI (d1 + 1))) (upd frm (qn (enq near v0 d1 S.2.2.1 j)) (nI v0)) (nI (S.2.2.2.1 + 1)) (nI S.2.2.2.2.1) (nI (S.2.2.2.2.2 + 1)) (nI pn) (nI wn) th ++ X) := hD
                    refine x_iincN (lv' := [(8, .int (nI ((qn (enq near v0 d1 S.2.2.1 j)) + 1))), (6, .long ((qb9 (enq near v0 d1 S.2.2.1 j)) ||| (1 <<< ((nI j).toInt64 &&& 63)))), (0, .ref mo), (1, .int (nI tb)), (2, .int (nI r)), (3, .int (nI s0)), (4, .int (nI d)), (5, .int (eN p0)), (9, .int (nI k)), (10, .int (nI v0)), (11, .int (bI false)), (12, .int (nI j))]) hx hb dX4_searches_226 hl (k := 7) rfl (by decide) rfl (fun ls hl => ?_)
                    refine x_iincN (lv' := [(12, .int (nI (j + 1))), (8, .int (nI ((qn (enq near v0 d1 S.2.2.1 j)) + 1))), (6, .long ((qb9 (enq near v0 d1 S.2.2.1 j)) ||| (1 <<< ((nI j).toInt64 &&& 63)))), (0, .ref mo), (1, .int (nI tb)), (2, .int (nI r)), (3, .int (nI s0)), (4, .int (nI d)), (5, .int (eN p0)), (9, .int (nI k)), (10, .int (nI v0)), (11, .int (bI false))]) hx hb dX4_searches_229 hl (k := 11) rfl (by decide) rfl (fun ls hl => ?_)
                    refine lv_goto (tgt := 146) hx hb dX4_searches_232 (by decide) ?_
                    have hE := enq_yes (d := d1) (show j < 48 by omega) hb9
                    have hl : lv_has ls 13 [(12, .int (nI (j + 1))), (8, .int (nI ((qn (enq near v0 d1 S.2.2.1 j)) + 1))), (6, .long (qb9 (enq near v0 d1 S.2.2.1 (j + 1)))), (0, .ref mo), (1, .int (nI tb)), (2, .int (nI r)), (3, .int (nI s0)), (4, .int (nI d)), (5, .int (eN p0)), (9, .int (nI k)), (10, .int (nI v0)), (11, .int (bI false))] := by rw [hE]; exact hl
                    have hl : lv_has ls 13 [(12, .int (nI (j + 1))), (8, .int (nI (qn (enq near v0 d1 S.2.2.1 (j + 1))))), (6, .long (qb9 (enq near v0 d1 S.2.2.1 (j + 1)))), (0, .ref mo), (1, .int (nI tb)), (2, .int (nI r)), (3, .int (nI s0)), (4, .int (nI d)), (5, .int (eN p0)), (9, .int (nI k)), (10, .int (nI v0)), (11, .int (bI false))] := by rw [hE] at hl ⊢; exact hl
                    exact ih (j + 1) (upd que (qn (enq near v0 d1 S.2.2.1 j)) (nI j)) (upd far (qn (enq near v0 d1 S.2.2.1 j)) (nI (d1 + 1))) (upd frm (qn (enq near v0 d1 S.2.2.1 j)) (nI v0)) (by omega) (by omega) (by rw [hE]; exact QR.push hQ2 j (d1 + 1) (some v0)) ky H locs hP hD hS ls (lv_sub hl [3, 4, 5, 6, 7, 8, 2, 1, 9, 10, 11, 0] rfl)
          refine inner _ 49 0 que far frm (by omega) (by omega) (hQ) (fun que far frm hQ2 H locs hP hD hS ls hl => ?_) H locs hP hD hS ls (lv_sub hl [3, 4, 5, 6, 7, 8, 9, 10, 11, 2, 1, 0] rfl)
          refine x_iincN (lv' := [(9, .int (nI (k + 1))), (0, .ref mo), (1, .int (nI tb)), (2, .int (nI r)), (3, .int (nI s0)), (4, .int (nI d)), (5, .int (eN p0)), (6, .long (qb9 (enq near v0 d1 S.2.2.1 n))), (8, .int (nI (qn (enq near v0 d1 S.2.2.1 n)))), (10, .int (nI v0)), (11, .int (bI false)), (12, .int (nI n))]) hx hb dX4_searches_235 hl (k := 8) rfl (by decide) rfl (fun ls hl => ?_)
          refine lv_goto (tgt := 34) hx hb dX4_searches_238 (by decide) ?_
          obtain ⟨F2, hF2⟩ : ∃ F2, vst near n h r v0 d1 p1 S = F2 := ⟨_, rfl⟩
          rw [hF2] at hS2 hG eV
          subst eV
          exact ih (k + 1) que far frm (upd dis (2304 * tb + 48 * v0 + r) (nI d1)) (upd par (2304 * tb + 48 * v0 + r) (eN p1)) ((up2 S.1 v0 r (some d1), up2 S.2.1 v0 r p1, enq near v0 d1 S.2.2.1 n, S.2.2.2.1 + 1, S.2.2.2.2.1, S.2.2.2.2.2 + 1) : ST) (by omega) (by omega) (hG) (hS2) (hR2) (hQ2) (f1.put (by omega) (by omega)) (f2.put (by omega) (by omega)) kx H locs hP hD hS ls (lv_sub hl [1, 2, 3, 4, 5, 6, 7, 8, 0] rfl)
        · skip
          have eV : vst near n h r v0 d1 p1 S = (S.1, S.2.1, S.2.2.1, S.2.2.2.1 + 1, S.2.2.2.2.1 + 1, S.2.2.2.2.2) := if_pos c79
          have hl : lv_has ls 13 [(11, .int (bI true)), (10, .int (nI v0)), (0, .ref mo), (1, .int (nI tb)), (2, .int (nI r)), (3, .int (nI s0)), (4, .int (nI d)), (5, .int (eN p0)), (6, .long (qb9 S.2.2.1)), (8, .int (nI (qn S.2.2.1))), (9, .int (nI k))] := by rw [c79] at hl; exact hl
          refine lv_aload_n hx hb dX4_searches_82 rfl (lv_at hl 2 rfl) ?_
          refine lv_dup hx hb dX4_searches_83 rfl ?_
          refine va_get (D := dG) (ci := 4) (v := .int (nI S.2.2.2.2.1)) (C := RX4) (T := TX4) (N := 17) hx hb hts hiX4 hown hK.1 hP 0 rfl rfl 12 (by decide) hf57 (fun _ h9 => h9) rfl dX4_searches_84 ?_
          refine lv_iconst (v := (nI 1)) hx hb dX4_searches_87 (by decide) ?_
          refine x_addN (i := S.2.2.2.2.1) (j := 1) hx hb dX4_searches_88 ?_
          refine va_put (D := dG) (ci := 4) (v := .int (nI (S.2.2.2.2.1 + 1))) (ty := .int) (C := RX4) (T := TX4) (N := 17) hx hb hts hiX4 tyX4 tyX4_ok nmX4 hown hK.1 hP hD hS 0 rfl rfl 12 (by decide) hf57 (fun _ h9 => h9) rfl (by decide +kernel) rfl rfl (Nat.le_of_ble_eq_true rfl) dX4_searches_89 (fun H locs hP hD hS => ?_)
          have hP : va_P dG vwCl (MW cI cJ mo mN mD mP mH mR mQ mF mO near (nI n) (nI ec) (bI bt) dis par hubs rnks que far frm (nI (S.2.2.2.1 + 1)) (nI (S.2.2.2.2.1 + 1)) (nI S.2.2.2.2.2) (nI pn) (nI wn) th ++ X) H := hP
          have hD : va_D A (MW cI cJ mo mN mD mP mH mR mQ mF mO near (nI n) (nI ec) (bI bt) dis par hubs rnks que far frm (nI (S.2.2.2.1 + 1)) (nI (S.2.2.2.2.1 + 1)) (nI S.2.2.2.2.2) (nI pn) (nI wn) th ++ X) := hD
          refine lv_goto (tgt := 143) hx hb dX4_searches_92 (by decide) ?_
          refine lv_iconst (v := (nI 0)) hx hb dX4_searches_143 (by decide) ?_
          refine lv_istore (lv' := [(12, .int (nI 0)), (11, .int (bI true)), (10, .int (nI v0)), (0, .ref mo), (1, .int (nI tb)), (2, .int (nI r)), (3, .int (nI s0)), (4, .int (nI d)), (5, .int (eN p0)), (6, .long (qb9 S.2.2.1)), (8, .int (nI (qn S.2.2.1))), (9, .int (nI k))]) hx hb dX4_searches_144 hl (by decide) rfl (fun ls hl => ?_)
          refine lv_iload hx hb dX4_searches_146 (lv_at hl 0 rfl) ?_
          refine lv_aload_n hx hb dX4_searches_148 rfl (lv_at hl 3 rfl) ?_
          refine va_get (D := dG) (ci := 4) (v := .int (nI n)) (C := RX4) (T := TX4) (N := 17) hx hb hts hiX4 hown hK.1 hP 0 rfl rfl 1 (by decide) hf39 (fun _ h9 => h9) rfl dX4_searches_149 ?_
          refine x_icmp_geN (i := 0) (j := n) (tgt := 235) hx hb (by omega) (by omega) dX4_searches_152 (by decide) (fun c152 => ?_) (fun c152 => ?_)
          · skip
            exact absurd c152 (by omega)
          · skip
            refine lv_iload hx hb dX4_searches_155 (lv_at hl 1 rfl) ?_
            refine x_ifneB (tgt := 235) hx hb dX4_searches_157 (by decide) (fun h9 => ?_) (fun h9 => absurd h9 (by decide))
            refine x_iincN (lv' := [(9, .int (nI (k + 1))), (12, .int (nI 0)), (11, .int (bI true)), (10, .int (nI v0)), (0, .ref mo), (1, .int (nI tb)), (2, .int (nI r)), (3, .int (nI s0)), (4, .int (nI d)), (5, .int (eN p0)), (6, .long (qb9 S.2.2.1)), (8, .int (nI (qn S.2.2.1)))]) hx hb dX4_searches_235 hl (k := 11) rfl (by decide) rfl (fun ls hl => ?_)
            refine lv_goto (tgt := 34) hx hb dX4_searches_238 (by decide) ?_
            obtain ⟨F2, hF2⟩ : ∃ F2, vst near n h r v0 d1 p1 S = F2 := ⟨_, rfl⟩
            rw [hF2] at hS2 hG eV
            subst eV
            exact ih (k + 1) que far frm dis par ((S.1, S.2.1, S.2.2.1, S.2.2.2.1 + 1, S.2.2.2.2.1 + 1, S.2.2.2.2.2) : ST) (by omega) (by omega) (hG) (hS2) (hR) (hQ) (f1) (f2) kx H locs hP hD hS ls (lv_sub hl [4, 5, 6, 7, 8, 9, 10, 11, 0] rfl)
  refine loop _ 49 0 (upd que 0 (nI s0)) (upd far 0 (nI d)) (upd frm 0 (eN p0)) dis par ((L, P, (qpush q00 s0 d p0), vi, cu, pu) : ST) (by omega) (by omega) (hF) (SI.start hv hn hL) (hR) (hQ0.push s0 d p0) (by rw [ed0]; exact Fr.rf) (by rw [ep0]; exact Fr.rf) (fun que far frm dis par hR f1 f2 H locs hP hD hS ls hl => ?_) H locs hP hD hS ls (lv_sub hl [3, 4, 5, 6, 7, 8, 2, 1, 0] rfl)
  exact W.vret hx hb hr (fun t ht hW => ⟨⟨(dis, par, que, far, frm), rfl, ⟨hR, by rw [← ed0]; exact f1, by rw [← ep0]; exact f2⟩, by rw [ht]; exact hP, hD⟩, hS.F ht⟩) hS.2.2 dX4_searches_241
