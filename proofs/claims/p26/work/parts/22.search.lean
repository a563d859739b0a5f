/-! Searches: a search, a building, an extension -/
set_option maxHeartbeats 4000000 in
set_option maxRecDepth 100000 in
/-- Searches.search -/
theorem c_search (l : Launch) (dG : va_G) (cI cJ : ClassId) (A : Nat → Prop) (g gA lb aR aV aH aD aP se qa qb qc : Nat) (rk vb : Nat → Int32) (rc : Int32) (n ec : Nat) (ns : Nat → Int64) (hn : n ≤ 48) (qv qd qp : Nat → Int32) (ql : Int32) (qs : Int64) (hs : Nat → Int64) (D Pp : Nat → Int32) (L P : Nat → Nat → Option Nat) (vi cu pu B : Nat) (hR : RepL L P hs D Pp) (hL : LBd L B) (hB3 : B ≤ 2 ^ 30) (r v d h : Nat) (p0 : Option Nat) (hr0 : r < 48) (hv : v < n) (hd : d + 48 ≤ B) (hh : h < 48) (eh : vb r = nI h) (F : ST) (hF : srch ns n h r v d p0 L P vi cu pu = F) (X : va_W) : Met l yX2_search wsX2_search ({ frames := 4, cells := 0, slots := 0, locals := 97 } : Room) (WPc dG cI cJ [.ref se, .int (nI r), .int (nI v), .int (nI d), .int (eN p0)] (SW cI g lb se qa qb qc qv qd qp ql qs (nI vi) (nI cu) (nI pu) ++ (GW cJ g gA (nI n) (nI ec) ns ++ (LW cI cJ lb aR aV aH aD aP rk vb rc hs D Pp ++ X))) A) (va_Qv (S := (Nat → Int32) × (Nat → Int32) × (Nat → Int32) × (Nat → Int64) × (Nat → Int32) × (Nat → Int32)) (fun u => RepL F.1 F.2.1 u.2.2.2.1 u.2.2.2.2.1 u.2.2.2.2.2 ∧ QR u.1 u.2.1 u.2.2.1 F.2.2.1) (fun u => WB dG A (SW cI g lb se qa qb qc u.1 u.2.1 u.2.2.1 (nI (qn F.2.2.1)) (qb9 F.2.2.1) (nI F.2.2.2.1) (nI F.2.2.2.2.1) (nI F.2.2.2.2.2) ++ (GW cJ g gA (nI n) (nI ec) ns ++ (LW cI cJ lb aR aV aH aD aP rk vb rc u.2.2.2.1 u.2.2.2.2.1 u.2.2.2.2.2 ++ X)))) A) 0 0 A := by
  refine Met.ofW (cc := cX2_search) (maxL := 6) (ret := none) (by decide) rfl ?_
  intro p e s m args below meth c s₁ B9 hml hv
  obtain ⟨rfl, hP, hK, hD⟩ := hv
  have hx := B9.exec
  have hb := B9.bytes
  have hr := B9.returns
  have hts := atoms_spec (ws := wsX2_search) B9.pre
  have hown : s.vm.findClass RX2 = some m.cls := findClass_of_methodNamed B9.named
  have hlocks := B9.notSynchronized
  have hS : va_S A s.heap s.heap [] := va_S.rf
  have hl := lv_entry ([.ref se, .int (nI r), .int (nI v), .int (nI d), .int (eN p0)]) (n := 6) (Nat.le_of_ble_eq_true rfl)
  rw [lg_entry_eq]
  generalize (lg_sl ([.ref se, .int (nI r), .int (nI v), .int (nI d), .int (eN p0)]) ++ List.replicate (6 - (lg_sl ([.ref se, .int (nI r), .int (nI v), .int (nI d), .int (eN p0)])).length) Slot.unset).toArray = ls at hl ⊢
  have hl : lv_has ls 6 [(0, .ref se), (1, .int (nI r)), (2, .int (nI v)), (3, .int (nI d)), (4, .int (eN p0))] := hl
  have hiX2 : ∀ w ∈ wsX20, w ∈ wsX2_search := by decide +kernel
  have hf19 := hts (.fieldLink RX2 19 "LandmarkLea$Searches" "queueVertices" "[I") (by decide +kernel)
  have hf23 := hts (.fieldLink RX2 23 "LandmarkLea$Searches" "queueDistances" "[I") (by decide +kernel)
  have hf26 := hts (.fieldLink RX2 26 "LandmarkLea$Searches" "queueParents" "[I") (by decide +kernel)
  have hf29 := hts (.fieldLink RX2 29 "LandmarkLea$Searches" "queueLength" "I") (by decide +kernel)
  have hf33 := hts (.fieldLink RX2 33 "LandmarkLea$Searches" "queuedSet" "J") (by decide +kernel)
  refine lv_aload_n hx hb dX2_search_0 rfl (lv_at hl 0 rfl) ?_
  refine lv_iconst (v := (nI 0)) hx hb dX2_search_1 (by decide) ?_
  refine va_put (D := dG) (ci := 2) (v := .int (nI 0)) (ty := .int) (C := RX2) (T := TX2) (N := 10) hx hb hts hiX2 tyX2 tyX2_ok nmX2 hown hK.1 hP hD hS 0 rfl rfl 5 (by decide) hf29 (fun _ h9 => h9) rfl (by decide +kernel) rfl rfl (Nat.le_of_ble_eq_true rfl) dX2_search_2 (fun H locs hP hD hS => ?_)
  have hP : va_P dG vwCl (SW cI g lb se qa qb qc qv qd qp (nI 0) qs (nI vi) (nI cu) (nI pu) ++ (GW cJ g gA (nI n) (nI ec) ns ++ (LW cI cJ lb aR aV aH aD aP rk vb rc hs D Pp ++ X))) H := hP
  have hD : va_D A (SW cI g lb se qa qb qc qv qd qp (nI 0) qs (nI vi) (nI cu) (nI pu) ++ (GW cJ g gA (nI n) (nI ec) ns ++ (LW cI cJ lb aR aV aH aD aP rk vb rc hs D Pp ++ X))) := hD
  refine lv_aload_n hx hb dX2_search_5 rfl (lv_at hl 0 rfl) ?_
  refine lv_lconst (v := 0) hx hb dX2_search_6 rfl ?_
  refine va_put (D := dG) (ci := 2) (v := .long 0) (ty := .long) (C := RX2) (T := TX2) (N := 10) hx hb hts hiX2 tyX2 tyX2_ok nmX2 hown hK.1 hP hD hS 0 rfl rfl 6 (by decide) hf33 (fun _ h9 => h9) rfl (by decide +kernel) rfl rfl (Nat.le_of_ble_eq_true rfl) dX2_search_7 (fun H locs hP hD hS => ?_)
  have hP : va_P dG vwCl (SW cI g lb se qa qb qc qv qd qp (nI 0) 0 (nI vi) (nI cu) (nI pu) ++ (GW cJ g gA (nI n) (nI ec) ns ++ (LW cI cJ lb aR aV aH aD aP rk vb rc hs D Pp ++ X))) H := hP
  have hD : va_D A (SW cI g lb se qa qb qc qv qd qp (nI 0) 0 (nI vi) (nI cu) (nI pu) ++ (GW cJ g gA (nI n) (nI ec) ns ++ (LW cI cJ lb aR aV aH aD aP rk vb rc hs D Pp ++ X))) := hD
  refine lv_aload_n hx hb dX2_search_10 rfl (lv_at hl 0 rfl) ?_
  refine lv_iload_n hx hb dX2_search_11 rfl (lv_at hl 2 rfl) ?_
  refine lv_iload_n hx hb dX2_search_12 rfl (lv_at hl 3 rfl) ?_
  refine lv_iload hx hb dX2_search_13 (lv_at hl 4 rfl) ?_
  have hPc : va_P dG vwCl (SW cI g lb se qa qb qc qv qd qp (nI 0) 0 (nI vi) (nI cu) (nI pu) ++ (GW cJ g gA (nI n) (nI ec) ns ++ (LW cI cJ lb aR aV aH aD aP rk vb rc hs D Pp ++ X))) H := hP
  have hDc : va_D A (SW cI g lb se qa qb qc qv qd qp (nI 0) 0 (nI vi) (nI cu) (nI pu) ++ (GW cJ g gA (nI n) (nI ec) ns ++ (LW cI cJ lb aR aV aH aD aP rk vb rc hs D Pp ++ X))) := hD
  refine va_callv (va_runV (As := [.int (nI v), .int (nI d), .int (eN p0)]) (rest := []) ⟨hx, hb, hml, hown, hts⟩ (c_enqueue l dG cI cJ A g lb se qa qb qc qv qd qp 0 0 (nI vi) (nI cu) (nI pu) v d p0 (by omega) (by omega) _) (cwV 3 hts gX2_search_X2_enqueue rfl rfl rfl (by decide +kernel) ⟨Nat.le_of_ble_eq_true rfl, Nat.le_of_ble_eq_true rfl⟩) (WPc.pre hPc hDc hK (va_recv hK.1 hPc (ci := 2) (q0 := 0) rfl rfl)) rfl rfl hl.1 rfl (lv_room (Nat.le_of_ble_eq_true rfl)) dX2_search_15 ⟨Nat.zero_le _, Nat.zero_le _⟩) hS (fun q _ h => h) (fun q h => h) (fun u9 t H locs ht hvm hw hB hz1 hk1 hS => ?_)
  obtain ⟨hP, hD⟩ := hB
  rw [ht] at hP
  have hP : va_P dG vwCl (SW cI g lb se qa qb qc (upd qv 0 (nI v)) (upd qd 0 (nI d)) (upd qp 0 (eN p0)) (nI (qn (qpush q00 v d p0))) (qb9 (qpush q00 v d p0)) (nI vi) (nI cu) (nI pu) ++ (GW cJ g gA (nI n) (nI ec) ns ++ (LW cI cJ lb aR aV aH aD aP rk vb rc hs D Pp ++ X))) H := hP
  have hD : va_D A (SW cI g lb se qa qb qc (upd qv 0 (nI v)) (upd qd 0 (nI d)) (upd qp 0 (eN p0)) (nI (qn (qpush q00 v d p0))) (qb9 (qpush q00 v d p0)) (nI vi) (nI cu) (nI pu) ++ (GW cJ g gA (nI n) (nI ec) ns ++ (LW cI cJ lb aR aV aH aD aP rk vb rc hs D Pp ++ X))) := hD
  refine lv_iconst (v := (nI 0)) hx hb dX2_search_18 (by decide) ?_
  refine lv_istore (lv' := [(5, .int (nI 0)), (0, .ref se), (1, .int (nI r)), (2, .int (nI v)), (3, .int (nI d)), (4, .int (eN p0))]) hx hb dX2_search_19 hl (by decide) rfl (fun ls hl => ?_)
  have hP : va_P dG vwCl (SW cI g lb se qa qb qc (upd qv 0 (nI v)) (upd qd 0 (nI d)) (upd qp 0 (eN p0)) (nI (qn (((L, P, (qpush q00 v d p0), vi, cu, pu) : ST).2.2.1))) (qb9 (((L, P, (qpush q00 v d p0), vi, cu, pu) : ST).2.2.1)) (nI (((L, P, (qpush q00 v d p0), vi, cu, pu) : ST).2.2.2.1)) (nI (((L, P, (qpush q00 v d p0), vi, cu, pu) : ST).2.2.2.2.1)) (nI (((L, P, (qpush q00 v d p0), vi, cu, pu) : ST).2.2.2.2.2)) ++ (GW cJ g gA (nI n) (nI ec) ns ++ (LW cI cJ lb aR aV aH aD aP rk vb rc hs D Pp ++ X))) H := hP
  have hD : va_D A (SW cI g lb se qa qb qc (upd qv 0 (nI v)) (upd qd 0 (nI d)) (upd qp 0 (eN p0)) (nI (qn (((L, P, (qpush q00 v d p0), vi, cu, pu) : ST).2.2.1))) (qb9 (((L, P, (qpush q00 v d p0), vi, cu, pu) : ST).2.2.1)) (nI (((L, P, (qpush q00 v d p0), vi, cu, pu) : ST).2.2.2.1)) (nI (((L, P, (qpush q00 v d p0), vi, cu, pu) : ST).2.2.2.2.1)) (nI (((L, P, (qpush q00 v d p0), vi, cu, pu) : ST).2.2.2.2.2)) ++ (GW cJ g gA (nI n) (nI ec) ns ++ (LW cI cJ lb aR aV aH aD aP rk vb rc hs D Pp ++ X))) := hD
  have hQ0 : QR qv qd qp q00 := fun i hi => absurd hi (Nat.not_lt_zero i)
  have loop : ∀ (QQ : State → Prop) (n1 : Nat) (k : Nat) (qv qd qp : Nat → Int32) (hs : Nat → Int64) (D Pp : Nat → Int32) (S : ST), 48 < k + n1 → k ≤ 48 → srun ns n h r (48 - k) k S = F → SI n d B S → RepL S.1 S.2.1 hs D Pp → QR qv qd qp S.2.2.1 → (∀ (k : Nat) (qv qd qp : Nat → Int32) (hs : Nat → Int64) (D Pp : Nat → Int32) (_ : RepL F.1 F.2.1 hs D Pp) (_ : QR qv qd qp F.2.2.1), ∀ (H : Heap) (locs : List Loc), va_P dG vwCl (SW cI g lb se qa qb qc qv qd qp (nI (qn F.2.2.1)) (qb9 F.2.2.1) (nI F.2.2.2.1) (nI F.2.2.2.2.1) (nI F.2.2.2.2.2) ++ (GW cJ g gA (nI n) (nI ec) ns ++ (LW cI cJ lb aR aV aH aD aP rk vb rc hs D Pp ++ X))) H → va_D A (SW cI g lb se qa qb qc qv qd qp (nI (qn F.2.2.1)) (qb9 F.2.2.1) (nI F.2.2.2.1) (nI F.2.2.2.2.1) (nI F.2.2.2.2.2) ++ (GW cJ g gA (nI n) (nI ec) ns ++ (LW cI cJ lb aR aV aH aD aP rk vb rc hs D Pp ++ X))) → va_S A s.heap H locs → ∀ ls : Array Slot, lv_has ls 6 [(0, .ref se), (1, .int (nI r)), (2, .int (nI v)), (3, .int (nI d)), (4, .int (eN p0)), (5, .int (nI k))] → W p l e ({ frames := 4, cells := 0, slots := 0, locals := 97 } : Room) s m ([.ref se, .int (nI r), .int (nI v), .int (nI d), .int (eN p0)] : List Value).toArray below meth c H locs 0 0 QQ (F0 m 69 ls [])) → ∀ (H : Heap) (locs : List Loc), va_P dG vwCl (SW cI g lb se qa qb qc qv qd qp (nI (qn S.2.2.1)) (qb9 S.2.2.1) (nI S.2.2.2.1) (nI S.2.2.2.2.1) (nI S.2.2.2.2.2) ++ (GW cJ g gA (nI n) (nI ec) ns ++ (LW cI cJ lb aR aV aH aD aP rk vb rc hs D Pp ++ X))) H → va_D A (SW cI g lb se qa qb qc qv qd qp (nI (qn S.2.2.1)) (qb9 S.2.2.1) (nI S.2.2.2.1) (nI S.2.2.2.2.1) (nI S.2.2.2.2.2) ++ (GW cJ g gA (nI n) (nI ec) ns ++ (LW cI cJ lb aR aV aH aD aP rk vb rc hs D Pp ++ X))) → va_S A s.heap H locs → ∀ ls : Array Slot, lv_has ls 6 [(0, .ref se), (1, .int (nI r)), (2, .int (nI v)), (3, .int (nI d)), (4, .int (eN p0)), (5, .int (nI k))] → W p l e ({ frames := 4, cells := 0, slots := 0, locals := 97 } : Room) s m ([.ref se, .int (nI r), .int (nI v), .int (nI d), .int (eN p0)] : List Value).toArray below meth c H locs 0 0 QQ (F0 m 21 ls []) := by
    intro QQ n1
    induction n1 with
    | zero => intro k qv qd qp hs D Pp S h1 h2 h3 hSI hR hQ; exact absurd h1 (by omega)
    | succ n1 ih =>
      intro k qv qd qp hs D Pp S h1 h2 h3 hSI hR hQ kx H locs hP hD hS ls hl
      refine lv_iload hx hb dX2_search_21 (lv_at hl 5 rfl) ?_
      refine lv_aload_n hx hb dX2_search_23 rfl (lv_at hl 0 rfl) ?_
      refine va_get (D := dG) (ci := 2) (v := .int (nI (qn S.2.2.1))) (C := RX2) (T := TX2) (N := 10) hx hb hts hiX2 hown hK.1 hP 0 rfl rfl 5 (by decide) hf29 (fun _ h9 => h9) rfl dX2_search_24 ?_
      refine x_icmp_geN (i := k) (j := (qn S.2.2.1)) (tgt := 69) hx hb (by omega) (by have := hSI.1.le; omega) dX2_search_27 (by decide) (fun c27 => ?_) (fun c27 => ?_)
      · skip
        have eF := srun_end c27 h3
        subst eF
        exact kx (k) (qv) (qd) (qp) (hs) (D) (Pp) (hR) (hQ) H locs hP hD hS ls (lv_sub hl [0, 1, 2, 3, 4, 5] rfl)
      · skip
        refine lv_iload hx hb dX2_search_30 (lv_at hl 5 rfl) ?_
        refine lv_bipush (v := (nI 48)) hx hb dX2_search_32 (by decide) ?_
        refine x_icmp_geN (i := k) (j := 48) (tgt := 69) hx hb (by omega) (by omega) dX2_search_34 (by decide) (fun c34 => ?_) (fun c34 => ?_)
        · skip
          exact absurd c34 (by have := hSI.1.le; omega)
        · skip
          refine lv_aload_n hx hb dX2_search_37 rfl (lv_at hl 0 rfl) ?_
          refine lv_iload_n hx hb dX2_search_38 rfl (lv_at hl 1 rfl) ?_
          refine lv_aload_n hx hb dX2_search_39 rfl (lv_at hl 0 rfl) ?_
          refine va_get (D := dG) (ci := 2) (v := .ref qa) (C := RX2) (T := TX2) (N := 10) hx hb hts hiX2 hown hK.1 hP 0 rfl rfl 2 (by decide) hf19 (fun _ h9 => h9) rfl dX2_search_40 ?_
          refine lv_iload hx hb dX2_search_43 (lv_at hl 5 rfl) ?_
          refine x_iald (f := qv) hx hb hK hP 1 rfl (by omega) (by decide) dX2_search_45 ?_
          rw [show qv k = (nI (S.2.2.1.1 k)) from (hQ k c27).1]
          refine lv_aload_n hx hb dX2_search_46 rfl (lv_at hl 0 rfl) ?_
          refine va_get (D := dG) (ci := 2) (v := .ref qb) (C := RX2) (T := TX2) (N := 10) hx hb hts hiX2 hown hK.1 hP 0 rfl rfl 3 (by decide) hf23 (fun _ h9 => h9) rfl dX2_search_47 ?_
          refine lv_iload hx hb dX2_search_50 (lv_at hl 5 rfl) ?_
          refine x_iald (f := qd) hx hb hK hP 2 rfl (by omega) (by decide) dX2_search_52 ?_
          rw [show qd k = (nI (S.2.2.1.2.1 k)) from (hQ k c27).2.1]
          refine lv_aload_n hx hb dX2_search_53 rfl (lv_at hl 0 rfl) ?_
          refine va_get (D := dG) (ci := 2) (v := .ref qc) (C := RX2) (T := TX2) (N := 10) hx hb hts hiX2 hown hK.1 hP 0 rfl rfl 4 (by decide) hf26 (fun _ h9 => h9) rfl dX2_search_54 ?_
          refine lv_iload hx hb dX2_search_57 (lv_at hl 5 rfl) ?_
          refine x_iald (f := qp) hx hb hK hP 3 rfl (by omega) (by decide) dX2_search_59 ?_
          rw [show qp k = (eN (S.2.2.1.2.2.1 k)) from (hQ k c27).2.2]
          obtain ⟨F2, hF2⟩ : ∃ F2, vst ns n h r (S.2.2.1.1 k) (S.2.2.1.2.1 k) (S.2.2.1.2.2.1 k) S = F2 := ⟨_, rfl⟩
          have hPc : va_P dG vwCl (SW cI g lb se qa qb qc qv qd qp (nI (qn S.2.2.1)) (qb9 S.2.2.1) (nI S.2.2.2.1) (nI S.2.2.2.2.1) (nI S.2.2.2.2.2) ++ (GW cJ g gA (nI n) (nI ec) ns ++ (LW cI cJ lb aR aV aH aD aP rk vb rc hs D Pp ++ X))) H := hP
          have hDc : va_D A (SW cI g lb se qa qb qc qv qd qp (nI (qn S.2.2.1)) (qb9 S.2.2.1) (nI S.2.2.2.1) (nI S.2.2.2.2.1) (nI S.2.2.2.2.2) ++ (GW cJ g gA (nI n) (nI ec) ns ++ (LW cI cJ lb aR aV aH aD aP rk vb rc hs D Pp ++ X))) := hD
          refine va_callv (va_runV (As := [.int (nI r), .int (nI (S.2.2.1.1 k)), .int (nI (S.2.2.1.2.1 k)), .int (eN (S.2.2.1.2.2.1 k))]) (rest := []) ⟨hx, hb, hml, hown, hts⟩ (c_visit l dG cI cJ A g gA lb aR aV aH aD aP se qa qb qc rk vb rc n ec ns hn qv qd qp hs D Pp S.1 S.2.1 S.2.2.1 S.2.2.2.1 S.2.2.2.2.1 S.2.2.2.2.2 hR hQ hSI.1 (hSI.2.2.mono hB3) r (S.2.2.1.1 k) (S.2.2.1.2.1 k) h (S.2.2.1.2.2.1 k) hr0 (hSI.1.2 k c27) (by have := hSI.2.1 k c27; omega) hh eh F2 hF2 _) (cwV 4 hts gX2_search_X2_visit rfl rfl rfl (by decide +kernel) ⟨Nat.le_of_ble_eq_true rfl, Nat.le_of_ble_eq_true rfl⟩) (WPc.pre hPc hDc hK (va_recv hK.1 hPc (ci := 2) (q0 := 0) rfl rfl)) rfl rfl hl.1 rfl (lv_room (Nat.le_of_ble_eq_true rfl)) dX2_search_60 ⟨Nat.zero_le _, Nat.zero_le _⟩) hS (fun q _ h => h) (fun q h => h) (fun u t H locs ht hvm hw hB hz1 hk1 hS => ?_)
          obtain ⟨qv, qd, qp, hs, D, Pp⟩ := u
          obtain ⟨hP, hD⟩ := hB
          rw [ht] at hP
          have hP : va_P dG vwCl (SW cI g lb se qa qb qc qv qd qp (nI (qn F2.2.2.1)) (qb9 F2.2.2.1) (nI F2.2.2.2.1) (nI F2.2.2.2.2.1) (nI F2.2.2.2.2.2) ++ (GW cJ g gA (nI n) (nI ec) ns ++ (LW cI cJ lb aR aV aH aD aP rk vb rc hs D Pp ++ X))) H := hP
          have hD : va_D A (SW cI g lb se qa qb qc qv qd qp (nI (qn F2.2.2.1)) (qb9 F2.2.2.1) (nI F2.2.2.2.1) (nI F2.2.2.2.2.1) (nI F2.2.2.2.2.2) ++ (GW cJ g gA (nI n) (nI ec) ns ++ (LW cI cJ lb aR aV aH aD aP rk vb rc hs D Pp ++ X))) := hD
          refine x_iincN (lv' := [(5, .int (nI (k + 1))), (0, .ref se), (1, .int (nI r)), (2, .int (nI v)), (3, .int (nI d)), (4, .int (eN p0))]) hx hb dX2_search_63 hl (k := 5) rfl (by decide) rfl (fun ls hl => ?_)
          refine lv_goto (tgt := 21) hx hb dX2_search_66 (by decide) ?_
          have hS2 := SI_vst (ns := ns) (h := h) (r := r) hSI hn c27 hd
          rw [hF2] at hS2
          exact ih (k + 1) qv qd qp hs D Pp F2 (by omega) (by omega) (by rw [← hF2]; exact srun_go (by have := hSI.1.le; omega) c27 h3) (hS2) (hw.1) (hw.2) kx H locs hP hD hS ls (lv_sub hl [1, 2, 3, 4, 5, 0] rfl)
  refine loop _ 49 0 (upd qv 0 (nI v)) (upd qd 0 (nI d)) (upd qp 0 (eN p0)) hs D Pp ((L, P, (qpush q00 v d p0), vi, cu, pu) : ST) (by omega) (by omega) (hF) (SI.start hv hn hL) (hR) (hQ0.push v d p0) (fun k qv qd qp hs D Pp hR hQ H locs hP hD hS ls hl => ?_) H locs hP hD hS ls (lv_sub hl [1, 2, 3, 4, 5, 0] rfl)
  exact W.vret hx hb hr (fun t ht hW => ⟨⟨(qv, qd, qp, hs, D, Pp), rfl, ⟨hR, hQ⟩, by rw [ht]; exact hP, hD⟩, hS.F ht⟩) hS.2.2 dX2_search_69

set_option maxHeartbeats 4000000 in
set_option maxRecDepth 100000 in
/-- Searches.labelAll -/
theorem c_labelAll (l : Launch) (dG : va_G) (cI cJ : ClassId) (A : Nat → Prop) (g gA lb aR aV aH aD aP se qa qb qc : Nat) (rk vb : Nat → Int32) (rc : Int32) (n ec : Nat) (ns : Nat → Int64) (hn : n ≤ 48) (qv qd qp : Nat → Int32) (ql : Int32) (qs : Int64) (vi cu pu : Int32) (hs : Nat → Int64) (D Pp : Nat → Int32) (dg : Nat → Nat) (hdg : dg = fun v => fb_ct (gb (ns v)) 64) (hd : ∀ v, v < n → dg v < 48) (F : BT) (hF : bl ns n (hbf dg n) n = F) (X : va_W) : Met l yX2_labelAll wsX2_labelAll ({ frames := 5, cells := 0, slots := 0, locals := 122 } : Room) (WPc dG cI cJ [.ref se] (SW cI g lb se qa qb qc qv qd qp ql qs vi cu pu ++ (GW cJ g gA (nI n) (nI ec) ns ++ (LW cI cJ lb aR aV aH aD aP rk vb rc hs D Pp ++ X))) A) (va_Qi (S := (Nat → Int32) × (Nat → Int32) × Int32 × Int64 × (Nat → Int32) × (Nat → Int32) × (Nat → Int32) × (Nat → Int64) × (Nat → Int32) × (Nat → Int32)) (fun r u => r = nI F.2.2.1 ∧ RI dg n 0 0 u.1 u.2.1 ∧ RepL F.1 F.2.1 u.2.2.2.2.2.2.2.1 u.2.2.2.2.2.2.2.2.1 u.2.2.2.2.2.2.2.2.2) (fun u => WB dG A (SW cI g lb se qa qb qc u.2.2.2.2.1 u.2.2.2.2.2.1 u.2.2.2.2.2.2.1 u.2.2.1 u.2.2.2.1 (nI F.2.2.1) (nI F.2.2.2.1) (nI F.2.2.2.2) ++ (GW cJ g gA (nI n) (nI ec) ns ++ (LW cI cJ lb aR aV aH aD aP u.1 u.2.1 (nI n) u.2.2.2.2.2.2.2.1 u.2.2.2.2.2.2.2.2.1 u.2.2.2.2.2.2.2.2.2 ++ X)))) A) 0 0 A := by
  refine Met.ofW (cc := cX2_labelAll) (maxL := 2) (ret := (some .int)) (by decide) rfl ?_
  intro p e s m args below meth c s₁ B9 hml hv
  obtain ⟨rfl, hP, hK, hD⟩ := hv
  have hx := B9.exec
  have hb := B9.bytes
  have hr := B9.returns
  have hts := atoms_spec (ws := wsX2_labelAll) B9.pre
  have hown : s.vm.findClass RX2 = some m.cls := findClass_of_methodNamed B9.named
  have hlocks := B9.notSynchronized
  have hS : va_S A s.heap s.heap [] := va_S.rf
  have hl := lv_entry ([.ref se]) (n := 2) (Nat.le_of_ble_eq_true rfl)
  rw [lg_entry_eq]
  generalize (lg_sl ([.ref se]) ++ List.replicate (2 - (lg_sl ([.ref se])).length) Slot.unset).toArray = ls at hl ⊢
  have hl : lv_has ls 2 [(0, .ref se)] := hl
  have hiX2 : ∀ w ∈ wsX20, w ∈ wsX2_labelAll := by decide +kernel
  have hf9 := hts (.fieldLink RX2 9 "LandmarkLea$Searches" "graph" "LLandmarkLea$Graph;") (by decide +kernel)
  have hf15 := hts (.fieldLink RX2 15 "LandmarkLea$Searches" "labels" "LLandmarkLea$Labels;") (by decide +kernel)
  have hf37 := hts (.fieldLink RX2 37 "LandmarkLea$Searches" "visitCount" "I") (by decide +kernel)
  refine lv_aload_n hx hb dX2_labelAll_0 rfl (lv_at hl 0 rfl) ?_
  have hPc : va_P dG vwCl (SW cI g lb se qa qb qc qv qd qp ql qs vi cu pu ++ (GW cJ g gA (nI n) (nI ec) ns ++ (LW cI cJ lb aR aV aH aD aP rk vb rc hs D Pp ++ X))) s.heap := hP
  have hDc : va_D A (SW cI g lb se qa qb qc qv qd qp ql qs vi cu pu ++ (GW cJ g gA (nI n) (nI ec) ns ++ (LW cI cJ lb aR aV aH aD aP rk vb rc hs D Pp ++ X))) := hD
  refine va_callv (va_runV (As := []) (rest := []) ⟨hx, hb, hml, hown, hts⟩ (c_forgetCounts l dG cI cJ A g lb se qa qb qc qv qd qp ql qs vi cu pu _) (cwV 0 hts gX2_labelAll_X2_forgetCounts rfl rfl rfl (by decide +kernel) ⟨Nat.le_of_ble_eq_true rfl, Nat.le_of_ble_eq_true rfl⟩) (WPc.pre hPc hDc hK (va_recv hK.1 hPc (ci := 2) (q0 := 0) rfl rfl)) rfl rfl hl.1 rfl (lv_room (Nat.le_of_ble_eq_true rfl)) dX2_labelAll_1 ⟨Nat.zero_le _, Nat.zero_le _⟩) hS (fun q _ h => h) (fun q h => h) (fun u9 t H locs ht hvm hw hB hz1 hk1 hS => ?_)
  obtain ⟨hP, hD⟩ := hB
  rw [ht] at hP
  have hP : va_P dG vwCl (SW cI g lb se qa qb qc qv qd qp ql qs (nI 0) (nI 0) (nI 0) ++ (GW cJ g gA (nI n) (nI ec) ns ++ (LW cI cJ lb aR aV aH aD aP rk vb rc hs D Pp ++ X))) H := hP
  have hD : va_D A (SW cI g lb se qa qb qc qv qd qp ql qs (nI 0) (nI 0) (nI 0) ++ (GW cJ g gA (nI n) (nI ec) ns ++ (LW cI cJ lb aR aV aH aD aP rk vb rc hs D Pp ++ X))) := hD
  refine lv_aload_n hx hb dX2_labelAll_4 rfl (lv_at hl 0 rfl) ?_
  refine va_get (D := dG) (ci := 2) (v := .ref lb) (C := RX2) (T := TX2) (N := 10) hx hb hts hiX2 hown hK.1 hP 0 rfl rfl 1 (by decide) hf15 (fun _ h9 => h9) rfl dX2_labelAll_5 ?_
  have hPc : va_P dG vwCl (LW cI cJ lb aR aV aH aD aP rk vb rc hs D Pp ++ (SW cI g lb se qa qb qc qv qd qp ql qs (nI 0) (nI 0) (nI 0) ++ (GW cJ g gA (nI n) (nI ec) ns ++ X))) H := va_P.perm hP (List.Perm.trans (List.Perm.append_left _ (List.perm_append_comm_assoc _ _ _)) (List.perm_append_comm_assoc _ _ _))
  have hDc : va_D A (LW cI cJ lb aR aV aH aD aP rk vb rc hs D Pp ++ (SW cI g lb se qa qb qc qv qd qp ql qs (nI 0) (nI 0) (nI 0) ++ (GW cJ g gA (nI n) (nI ec) ns ++ X))) := va_D.perm hD (List.Perm.trans (List.Perm.append_left _ (List.perm_append_comm_assoc _ _ _)) (List.perm_append_comm_assoc _ _ _))
  refine va_callv (va_runV (As := []) (rest := []) ⟨hx, hb, hml, hown, hts⟩ (c_forget l dG cI cJ A lb aR aV aH aD aP rk vb rc hs D Pp _) (cwV 0 hts gX2_labelAll_X1_forget rfl rfl rfl (by decide +kernel) ⟨Nat.le_of_ble_eq_true rfl, Nat.le_of_ble_eq_true rfl⟩) (WPc.pre hPc hDc hK (va_recv hK.1 hPc (ci := 1) (q0 := 0) rfl rfl)) rfl rfl hl.1 rfl (lv_room (Nat.le_of_ble_eq_true rfl)) dX2_labelAll_8 ⟨Nat.zero_le _, Nat.zero_le _⟩) hS (fun q _ h => h) (fun q h => h) (fun u9 t H locs ht hvm hw hB hz1 hk1 hS => ?_)
  obtain ⟨hP, hD⟩ := hB
  rw [ht] at hP
  have hP : va_P dG vwCl (LW cI cJ lb aR aV aH aD aP rk vb (nI 0) (cut0 hs 48) D Pp ++ (SW cI g lb se qa qb qc qv qd qp ql qs (nI 0) (nI 0) (nI 0) ++ (GW cJ g gA (nI n) (nI ec) ns ++ X))) H := hP
  have hD : va_D A (LW cI cJ lb aR aV aH aD aP rk vb (nI 0) (cut0 hs 48) D Pp ++ (SW cI g lb se qa qb qc qv qd qp ql qs (nI 0) (nI 0) (nI 0) ++ (GW cJ g gA (nI n) (nI ec) ns ++ X))) := hD
  have hP : va_P dG vwCl (SW cI g lb se qa qb qc qv qd qp ql qs (nI 0) (nI 0) (nI 0) ++ (GW cJ g gA (nI n) (nI ec) ns ++ (LW cI cJ lb aR aV aH aD aP rk vb (nI 0) (cut0 hs 48) D Pp ++ X))) H := va_P.perm hP (List.Perm.trans (List.perm_append_comm_assoc _ _ _) (List.Perm.append_left _ (List.perm_append_comm_assoc _ _ _)))
  have hD : va_D A (SW cI g lb se qa qb qc qv qd qp ql qs (nI 0) (nI 0) (nI 0) ++ (GW cJ g gA (nI n) (nI ec) ns ++ (LW cI cJ lb aR aV aH aD aP rk vb (nI 0) (cut0 hs 48) D Pp ++ X))) := va_D.perm hD (List.Perm.trans (List.perm_append_comm_assoc _ _ _) (List.Perm.append_left _ (List.perm_append_comm_assoc _ _ _)))
  refine lv_aload_n hx hb dX2_labelAll_11 rfl (lv_at hl 0 rfl) ?_
  refine va_get (D := dG) (ci := 2) (v := .ref lb) (C := RX2) (T := TX2) (N := 10) hx hb hts hiX2 hown hK.1 hP 0 rfl rfl 1 (by decide) hf15 (fun _ h9 => h9) rfl dX2_labelAll_12 ?_
  refine lv_aload_n hx hb dX2_labelAll_15 rfl (lv_at hl 0 rfl) ?_
  refine va_get (D := dG) (ci := 2) (v := .ref g) (C := RX2) (T := TX2) (N := 10) hx hb hts hiX2 hown hK.1 hP 0 rfl rfl 0 (by decide) hf9 (fun _ h9 => h9) rfl dX2_labelAll_16 ?_
  have hPc : va_P dG vwCl (LW cI cJ lb aR aV aH aD aP rk vb (nI 0) (cut0 hs 48) D Pp ++ (GW cJ g gA (nI n) (nI ec) ns ++ (SW cI g lb se qa qb qc qv qd qp ql qs (nI 0) (nI 0) (nI 0) ++ X))) H := va_P.perm hP (List.Perm.trans (List.Perm.trans (List.Perm.append_left _ (List.perm_append_comm_assoc _ _ _)) (List.perm_append_comm_assoc _ _ _)) (List.Perm.append_left _ (List.perm_append_comm_assoc _ _ _)))
  have hDc : va_D A (LW cI cJ lb aR aV aH aD aP rk vb (nI 0) (cut0 hs 48) D Pp ++ (GW cJ g gA (nI n) (nI ec) ns ++ (SW cI g lb se qa qb qc qv qd qp ql qs (nI 0) (nI 0) (nI 0) ++ X))) := va_D.perm hD (List.Perm.trans (List.Perm.trans (List.Perm.append_left _ (List.perm_append_comm_assoc _ _ _)) (List.perm_append_comm_assoc _ _ _)) (List.Perm.append_left _ (List.perm_append_comm_assoc _ _ _)))
  refine va_callv (va_runV (As := [.ref g]) (rest := []) ⟨hx, hb, hml, hown, hts⟩ (c_rankAll l dG cI cJ A lb aR aV aH aD aP rk vb (cut0 hs 48) D Pp g gA n ec ns hn dg hdg hd _) (cwV 1 hts gX2_labelAll_X1_rankAll rfl rfl rfl (by decide +kernel) ⟨Nat.le_of_ble_eq_true rfl, Nat.le_of_ble_eq_true rfl⟩) (WPc.pre hPc hDc hK (va_recv hK.1 hPc (ci := 1) (q0 := 0) rfl rfl)) rfl rfl hl.1 rfl (lv_room (Nat.le_of_ble_eq_true rfl)) dX2_labelAll_19 ⟨Nat.zero_le _, Nat.zero_le _⟩) hS (fun q _ h => h) (fun q h => h) (fun u t H locs ht hvm hw hB hz1 hk1 hS => ?_)
  obtain ⟨rk, vb⟩ := u
  obtain ⟨hP, hD⟩ := hB
  rw [ht] at hP
  have hP : va_P dG vwCl (LW cI cJ lb aR aV aH aD aP rk vb (nI n) (cut0 hs 48) D Pp ++ (GW cJ g gA (nI n) (nI ec) ns ++ (SW cI g lb se qa qb qc qv qd qp ql qs (nI 0) (nI 0) (nI 0) ++ X))) H := hP
  have hD : va_D A (LW cI cJ lb aR aV aH aD aP rk vb (nI n) (cut0 hs 48) D Pp ++ (GW cJ g gA (nI n) (nI ec) ns ++ (SW cI g lb se qa qb qc qv qd qp ql qs (nI 0) (nI 0) (nI 0) ++ X))) := hD
  have hP : va_P dG vwCl (SW cI g lb se qa qb qc qv qd qp ql qs (nI 0) (nI 0) (nI 0) ++ (GW cJ g gA (nI n) (nI ec) ns ++ (LW cI cJ lb aR aV aH aD aP rk vb (nI n) (cut0 hs 48) D Pp ++ X))) H := va_P.perm hP (List.Perm.trans (List.Perm.trans (List.Perm.append_left _ (List.perm_append_comm_assoc _ _ _)) (List.perm_append_comm_assoc _ _ _)) (List.Perm.append_left _ (List.perm_append_comm_assoc _ _ _)))
  have hD : va_D A (SW cI g lb se qa qb qc qv qd qp ql qs (nI 0) (nI 0) (nI 0) ++ (GW cJ g gA (nI n) (nI ec) ns ++ (LW cI cJ lb aR aV aH aD aP rk vb (nI n) (cut0 hs 48) D Pp ++ X))) := va_D.perm hD (List.Perm.trans (List.Perm.trans (List.Perm.append_left _ (List.perm_append_comm_assoc _ _ _)) (List.perm_append_comm_assoc _ _ _)) (List.Perm.append_left _ (List.perm_append_comm_assoc _ _ _)))
  have hw0 : RI dg n 0 0 rk vb := hw
  refine lv_iconst (v := (nI 0)) hx hb dX2_labelAll_22 (by decide) ?_
  refine lv_istore_n (lv' := [(1, .int (nI 0)), (0, .ref se)]) hx hb dX2_labelAll_23 rfl hl (by decide) rfl (fun ls hl => ?_)
  have hP : va_P dG vwCl (SW cI g lb se qa qb qc qv qd qp ql qs (nI ((bl ns n (hbf dg n) 0).2.2.1)) (nI ((bl ns n (hbf dg n) 0).2.2.2.1)) (nI ((bl ns n (hbf dg n) 0).2.2.2.2)) ++ (GW cJ g gA (nI n) (nI ec) ns ++ (LW cI cJ lb aR aV aH aD aP rk vb (nI n) (cut0 hs 48) D Pp ++ X))) H := hP
  have hD : va_D A (SW cI g lb se qa qb qc qv qd qp ql qs (nI ((bl ns n (hbf dg n) 0).2.2.1)) (nI ((bl ns n (hbf dg n) 0).2.2.2.1)) (nI ((bl ns n (hbf dg n) 0).2.2.2.2)) ++ (GW cJ g gA (nI n) (nI ec) ns ++ (LW cI cJ lb aR aV aH aD aP rk vb (nI n) (cut0 hs 48) D Pp ++ X))) := hD
  have loop : ∀ (QQ : State → Prop) (n1 : Nat) (k : Nat) (qv qd qp : Nat → Int32) (ql : Int32) (qs : Int64) (hs : Nat → Int64) (D Pp : Nat → Int32), n < k + n1 → k ≤ n → RepL (bl ns n (hbf dg n) k).1 (bl ns n (hbf dg n) k).2.1 hs D Pp → (∀ (qv qd qp : Nat → Int32) (ql : Int32) (qs : Int64) (hs : Nat → Int64) (D Pp : Nat → Int32) (_ : RepL (bl ns n (hbf dg n) n).1 (bl ns n (hbf dg n) n).2.1 hs D Pp), ∀ (H : Heap) (locs : List Loc), va_P dG vwCl (SW cI g lb se qa qb qc qv qd qp ql qs (nI ((bl ns n (hbf dg n) n).2.2.1)) (nI ((bl ns n (hbf dg n) n).2.2.2.1)) (nI ((bl ns n (hbf dg n) n).2.2.2.2)) ++ (GW cJ g gA (nI n) (nI ec) ns ++ (LW cI cJ lb aR aV aH aD aP rk vb (nI n) hs D Pp ++ X))) H → va_D A (SW cI g lb se qa qb qc qv qd qp ql qs (nI ((bl ns n (hbf dg n) n).2.2.1)) (nI ((bl ns n (hbf dg n) n).2.2.2.1)) (nI ((bl ns n (hbf dg n) n).2.2.2.2)) ++ (GW cJ g gA (nI n) (nI ec) ns ++ (LW cI cJ lb aR aV aH aD aP rk vb (nI n) hs D Pp ++ X))) → va_S A s.heap H locs → ∀ ls : Array Slot, lv_has ls 2 [(0, .ref se), (1, .int (nI n))] → W p l e ({ frames := 5, cells := 0, slots := 0, locals := 122 } : Room) s m ([.ref se] : List Value).toArray below meth c H locs 0 0 QQ (F0 m 56 ls [])) → ∀ (H : Heap) (locs : List Loc), va_P dG vwCl (SW cI g lb se qa qb qc qv qd qp ql qs (nI ((bl ns n (hbf dg n) k).2.2.1)) (nI ((bl ns n (hbf dg n) k).2.2.2.1)) (nI ((bl ns n (hbf dg n) k).2.2.2.2)) ++ (GW cJ g gA (nI n) (nI ec) ns ++ (LW cI cJ lb aR aV aH aD aP rk vb (nI n) hs D Pp ++ X))) H → va_D A (SW cI g lb se qa qb qc qv qd qp ql qs (nI ((bl ns n (hbf dg n) k).2.2.1)) (nI ((bl ns n (hbf dg n) k).2.2.2.1)) (nI ((bl ns n (hbf dg n) k).2.2.2.2)) ++ (GW cJ g gA (nI n) (nI ec) ns ++ (LW cI cJ lb aR aV aH aD aP rk vb (nI n) hs D Pp ++ X))) → va_S A s.heap H locs → ∀ ls : Array Slot, lv_has ls 2 [(0, .ref se), (1, .int (nI k))] → W p l e ({ frames := 5, cells := 0, slots := 0, locals := 122 } : Room) s m ([.ref se] : List Value).toArray below meth c H locs 0 0 QQ (F0 m 24 ls []) := by
    intro QQ n1
    induction n1 with
    | zero => intro k qv qd qp ql qs hs D Pp h1 h2 hR; exact absurd h1 (by omega)
    | succ n1 ih =>
      intro k qv qd qp ql qs hs D Pp h1 h2 hR kx H locs hP hD hS ls hl
      refine lv_iload_n hx hb dX2_labelAll_24 rfl (lv_at hl 1 rfl) ?_
      refine lv_aload_n hx hb dX2_labelAll_25 rfl (lv_at hl 0 rfl) ?_
      refine va_get (D := dG) (ci := 2) (v := .ref g) (C := RX2) (T := TX2) (N := 10) hx hb hts hiX2 hown hK.1 hP 0 rfl rfl 0 (by decide) hf9 (fun _ h9 => h9) rfl dX2_labelAll_26 ?_
      have hPc := hP.sub (ws' := (GW cJ g gA (nI n) (nI ec) ns)) [4, 5] rfl
      refine x_ri (W.runV (As := []) (rest := [.int (nI k)]) ⟨hx, hb, hml, hown, hts⟩ (c_size l dG cI cJ g gA n ec ns) (cwV 0 hts gX2_labelAll_X0_size rfl rfl rfl (by decide +kernel) ⟨Nat.le_of_ble_eq_true rfl, Nat.le_of_ble_eq_true rfl⟩) (RPc.pre hPc hK (va_recv hK.1 hPc (ci := 0) (q0 := 0) rfl rfl)) rfl rfl hl.1 rfl (lv_room (Nat.le_of_ble_eq_true rfl)) dX2_labelAll_29 ⟨Nat.zero_le _, Nat.zero_le _⟩) ?_
      refine x_icmp_geN (i := k) (j := n) (tgt := 56) hx hb (by omega) (by omega) dX2_labelAll_32 (by decide) (fun c32 => ?_) (fun c32 => ?_)
      · skip
        have ek : k = n := by omega
        subst ek
        exact kx (qv) (qd) (qp) (ql) (qs) (hs) (D) (Pp) (hR) H locs hP hD hS ls (lv_sub hl [0, 1] rfl)
      · skip
        have hk := hbf_ok (dg := dg) c32
        refine lv_aload_n hx hb dX2_labelAll_35 rfl (lv_at hl 0 rfl) ?_
        refine lv_iload_n hx hb dX2_labelAll_36 rfl (lv_at hl 1 rfl) ?_
        refine lv_aload_n hx hb dX2_labelAll_37 rfl (lv_at hl 0 rfl) ?_
        refine va_get (D := dG) (ci := 2) (v := .ref lb) (C := RX2) (T := TX2) (N := 10) hx hb hts hiX2 hown hK.1 hP 0 rfl rfl 1 (by decide) hf15 (fun _ h9 => h9) rfl dX2_labelAll_38 ?_
        refine lv_iload_n hx hb dX2_labelAll_41 rfl (lv_at hl 1 rfl) ?_
        have hPc := hP.sub (ws' := (LW cI cJ lb aR aV aH aD aP rk vb (nI n) hs D Pp)) [6, 7, 8, 9, 10, 11] rfl
        refine x_ri (W.runV (As := [.int (nI k)]) (rest := [.int (nI k), .ref se]) ⟨hx, hb, hml, hown, hts⟩ (c_vertexOf l dG cI cJ lb aR aV aH aD aP rk vb (nI n) hs D Pp k (by omega)) (cwV 1 hts gX2_labelAll_X1_vertexOf rfl rfl rfl (by decide +kernel) ⟨Nat.le_of_ble_eq_true rfl, Nat.le_of_ble_eq_true rfl⟩) (RPc.pre hPc hK (va_recv hK.1 hPc (ci := 1) (q0 := 0) rfl rfl)) rfl rfl hl.1 rfl (lv_room (Nat.le_of_ble_eq_true rfl)) dX2_labelAll_42 ⟨Nat.zero_le _, Nat.zero_le _⟩) ?_
        rw [hw0.hub c32]
        refine lv_iconst (v := (nI 0)) hx hb dX2_labelAll_45 (by decide) ?_
        refine lv_iconst (v := (-1)) hx hb dX2_labelAll_46 (by decide) ?_
        obtain ⟨F2, hF2⟩ : ∃ F2, sr0 ns n (hbf dg n k) k (hbf dg n k) 0 none (bl ns n (hbf dg n) k) = F2 := ⟨_, rfl⟩
        have hPc : va_P dG vwCl (SW cI g lb se qa qb qc qv qd qp ql qs (nI ((bl ns n (hbf dg n) k).2.2.1)) (nI ((bl ns n (hbf dg n) k).2.2.2.1)) (nI ((bl ns n (hbf dg n) k).2.2.2.2)) ++ (GW cJ g gA (nI n) (nI ec) ns ++ (LW cI cJ lb aR aV aH aD aP rk vb (nI n) hs D Pp ++ X))) H := hP
        have hDc : va_D A (SW cI g lb se qa qb qc qv qd qp ql qs (nI ((bl ns n (hbf dg n) k).2.2.1)) (nI ((bl ns n (hbf dg n) k).2.2.2.1)) (nI ((bl ns n (hbf dg n) k).2.2.2.2)) ++ (GW cJ g gA (nI n) (nI ec) ns ++ (LW cI cJ lb aR aV aH aD aP rk vb (nI n) hs D Pp ++ X))) := hD
        refine va_callv (va_runV (As := [.int (nI k), .int (nI (hbf dg n k)), .int (nI 0), .int (-1)]) (rest := []) ⟨hx, hb, hml, hown, hts⟩ (c_search l dG cI cJ A g gA lb aR aV aH aD aP se qa qb qc rk vb (nI n) n ec ns hn qv qd qp ql qs hs D Pp (bl ns n (hbf dg n) k).1 (bl ns n (hbf dg n) k).2.1 (bl ns n (hbf dg n) k).2.2.1 (bl ns n (hbf dg n) k).2.2.2.1 (bl ns n (hbf dg n) k).2.2.2.2 48 hR (bl_lbd hn (fun k hk => (hbf_ok hk).1) k h2) (by decide) k (hbf dg n k) 0 (hbf dg n k) none (by omega) hk.1 (by omega) (by omega) (hw0.hub c32) F2 hF2 _) (cwV 4 hts gX2_labelAll_X2_search rfl rfl rfl (by decide +kernel) ⟨Nat.le_of_ble_eq_true rfl, Nat.le_of_ble_eq_true rfl⟩) (WPc.pre hPc hDc hK (va_recv hK.1 hPc (ci := 2) (q0 := 0) rfl rfl)) rfl rfl hl.1 rfl (lv_room (Nat.le_of_ble_eq_true rfl)) dX2_labelAll_47 ⟨Nat.zero_le _, Nat.zero_le _⟩) hS (fun q _ h => h) (fun q h => h) (fun u t H locs ht hvm hw hB hz1 hk1 hS => ?_)
        obtain ⟨qv, qd, qp, hs, D, Pp⟩ := u
        obtain ⟨hP, hD⟩ := hB
        rw [ht] at hP
        have hP : va_P dG vwCl (SW cI g lb se qa qb qc qv qd qp (nI (qn F2.2.2.1)) (qb9 F2.2.2.1) (nI ((cutq F2).2.2.1)) (nI ((cutq F2).2.2.2.1)) (nI ((cutq F2).2.2.2.2)) ++ (GW cJ g gA (nI n) (nI ec) ns ++ (LW cI cJ lb aR aV aH aD aP rk vb (nI n) hs D Pp ++ X))) H := hP
        have hD : va_D A (SW cI g lb se qa qb qc qv qd qp (nI (qn F2.2.2.1)) (qb9 F2.2.2.1) (nI ((cutq F2).2.2.1)) (nI ((cutq F2).2.2.2.1)) (nI ((cutq F2).2.2.2.2)) ++ (GW cJ g gA (nI n) (nI ec) ns ++ (LW cI cJ lb aR aV aH aD aP rk vb (nI n) hs D Pp ++ X))) := hD
        refine x_iincN (lv' := [(1, .int (nI (k + 1))), (0, .ref se)]) hx hb dX2_labelAll_50 hl (k := 1) rfl (by decide) rfl (fun ls hl => ?_)
        refine lv_goto (tgt := 24) hx hb dX2_labelAll_53 (by decide) ?_
        have eS : cutq F2 = bl ns n (hbf dg n) (k + 1) := by rw [← hF2]; rfl
        rw [eS] at hP hD
        exact ih (k + 1) qv qd qp (nI (qn F2.2.2.1)) (qb9 F2.2.2.1) hs D Pp (by omega) (by omega) (by rw [← eS]; exact hw.1) kx H locs hP hD hS ls (lv_sub hl [1, 0] rfl)
  refine loop _ 49 0 qv qd qp ql qs (cut0 hs 48) D Pp (by omega) (by omega) (RepL.zero (fun v hv => by unfold cut0; rw [if_pos hv])) (fun qv qd qp ql qs hs D Pp hR H locs hP hD hS ls hl => ?_) H locs hP hD hS ls (lv_sub hl [1, 0] rfl)
  rw [hF] at hP hD hR
  refine lv_aload_n hx hb dX2_labelAll_56 rfl (lv_at hl 0 rfl) ?_
  refine va_get (D := dG) (ci := 2) (v := .int (nI F.2.2.1)) (C := RX2) (T := TX2) (N := 10) hx hb hts hiX2 hown hK.1 hP 0 rfl rfl 7 (by decide) hf37 (fun _ h9 => h9) rfl dX2_labelAll_57 ?_
  exact W.iret (v := (nI F.2.2.1)) hx hb hr (fun t ht hW => ⟨⟨_, (rk, vb, ql, qs, qv, qd, qp, hs, D, Pp), rfl, ⟨rfl, hw0, hR⟩, by rw [ht]; exact hP, hD⟩, hS.F ht⟩) hS.2.2 dX2_labelAll_60

