/-! the constructors -/
section XN9
variable {p : Program} {l : Launch} {e : Env} {R : Room} {s : State} {m : MethodId} {args : Array Value} {below : List Frame} {meth : Method} {c : Code} {H : Heap} {locs : List Loc} {cells slots : Nat} {Q : State → Prop} {cc : ByteArray} {pc : Nat} {ls : Array Slot} {rest : List Value} {dG : va_G} {cI cJ : ClassId} {A : Nat → Prop} {ws : va_W} {H0 : Heap}
theorem x_newI (hx : p.tables.exec = Jvm.exec) (hb : c.code = cc) (harr : (Cond.arrayClass .int).before args s = true) (hK : KK dG cI cJ s) (hP : va_P dG vwCl ws H) (hD : va_D A ws) (hS : va_S A H0 H locs) (hA : ∀ q, H0.size ≤ q → A q) {n : Int32} {N : Nat} (hn : ¬ n < 0) (hN : n.toNatClampNeg = N) (hbytes : N * componentBytes .int ≤ 536870912) (hcells : cells + 1 ≤ R.cells) (hslots : slots + N ≤ R.slots) (hdg : decode cc pc = .ok (.newarray .int, 2))
    (kk : ∀ (q : Nat) (H1 : Heap), va_P dG vwCl (ws ++ [(q, .inl (cI, N, .inl (fun _ => 0)))]) H1 → va_D A (ws ++ [(q, .inl (cI, N, .inl (fun _ => 0)))]) → va_S A H0 H1 locs → W p l e R s m args below meth c H1 locs (cells + 1) (slots + N) Q (F0 m (pc + 2) ls (.ref q :: rest))) : W p l e R s m args below meth c H locs cells slots Q (F0 m pc ls (.int n :: rest)) :=
  va_newa (atype := .int) (ty := .int) (a0 := (N, .inl (fun _ => 0))) hx hb harr rfl hK.1 hP hD hS hA (fun _ => rfl) hn hN hbytes hcells hslots hdg (fun q cA H1 hK2 hP2 hD2 hS2 => by
    have e1 : s.vm.findClass ("[" ++ (FieldType.int).toString) = some cA := (hK2.2 2 _ rfl).2
    have e2 : s.vm.findClass ("[" ++ (FieldType.int).toString) = some cI := (hK.1.2 0 _ rfl).2
    have e3 : cA = cI := Option.some.inj (e1.symm.trans e2)
    rw [e3] at hP2 hD2
    exact kk q H1 hP2 hD2 hS2)
theorem x_newJ (hx : p.tables.exec = Jvm.exec) (hb : c.code = cc) (harr : (Cond.arrayClass .long).before args s = true) (hK : KK dG cI cJ s) (hP : va_P dG vwCl ws H) (hD : va_D A ws) (hS : va_S A H0 H locs) (hA : ∀ q, H0.size ≤ q → A q) {n : Int32} {N : Nat} (hn : ¬ n < 0) (hN : n.toNatClampNeg = N) (hbytes : N * componentBytes .long ≤ 536870912) (hcells : cells + 1 ≤ R.cells) (hslots : slots + N ≤ R.slots) (hdg : decode cc pc = .ok (.newarray .long, 2))
    (kk : ∀ (q : Nat) (H1 : Heap), va_P dG vwCl (ws ++ [(q, .inl (cJ, N, .inr (.inl (fun _ => 0))))]) H1 → va_D A (ws ++ [(q, .inl (cJ, N, .inr (.inl (fun _ => 0))))]) → va_S A H0 H1 locs → W p l e R s m args below meth c H1 locs (cells + 1) (slots + N) Q (F0 m (pc + 2) ls (.ref q :: rest))) : W p l e R s m args below meth c H locs cells slots Q (F0 m pc ls (.int n :: rest)) :=
  va_newa (atype := .long) (ty := .long) (a0 := (N, .inr (.inl (fun _ => 0)))) hx hb harr rfl hK.1 hP hD hS hA (fun _ => rfl) hn hN hbytes hcells hslots hdg (fun q cA H1 hK2 hP2 hD2 hS2 => by
    have e1 : s.vm.findClass ("[" ++ (FieldType.long).toString) = some cA := (hK2.2 2 _ rfl).2
    have e2 : s.vm.findClass ("[" ++ (FieldType.long).toString) = some cJ := (hK.1.2 1 _ rfl).2
    have e3 : cA = cJ := Option.some.inj (e1.symm.trans e2)
    rw [e3] at hP2 hD2
    exact kk q H1 hP2 hD2 hS2)
end XN9
/-- a constructor's start: what lies behind the heap's end is free -/
abbrev CPc (dG : va_G) (cI cJ : ClassId) (av : List Value) (Wd : va_W) (A : Nat → Prop) : Array Value → State → Prop := va_Pc av (fun U => va_P dG vwCl Wd U.heap ∧ KK dG cI cJ U ∧ va_D A Wd ∧ ∀ q, U.heap.size ≤ q → A q)
theorem CPc.blind {dG : va_G} {cI cJ : ClassId} {av : List Value} {Wd : va_W} {A : Nat → Prop} : FrameBlind (CPc dG cI cJ av Wd A) := fun _ _ _ _ q => ⟨q.1, q.2.1, q.2.2.1.call, q.2.2.2⟩
theorem CPc.preS {dG : va_G} {cI cJ : ClassId} {As : List Value} {Wd : va_W} {s : State} {H : Heap} {A : Nat → Prop} (hP : va_P dG vwCl Wd H) (hD : va_D A Wd) (hK : KK dG cI cJ s) (hA : ∀ q, H.size ≤ q → A q) : PreS s H (CPc dG cI cJ As Wd A) As :=
  ⟨CPc.blind, fun U hU hW => ⟨rfl, by rw [hU]; exact hP, hK.warm hW, hD, by rw [hU]; exact hA⟩⟩
set_option maxHeartbeats 4000000 in
set_option maxRecDepth 100000 in
theorem i_graph (l : Launch) (dG : va_G) (cI cJ : ClassId) (A : Nat → Prop) (g : Nat) (X : va_W) : Met l yX0_init wsX0_init ({ frames := 1, cells := 1, slots := 48, locals := 12 } : Room) (CPc dG cI cJ [.ref g] (([(g, .inr (0, [.null, .int (nI 0), .int (nI 0)]))] : va_W) ++ X) A) (va_Qv (S := Nat) (fun _ => True) (fun u => WB dG A (GW cJ g u (nI 0) (nI 0) (fun _ => 0) ++ X)) A) 1 48 A := by
  refine Met.ofW (cc := cX0_init) (maxL := 1) (ret := none) (by decide) rfl ?_
  intro p e s m args below meth c s₁ B9 hml hv
  obtain ⟨rfl, hP, hK, hD, hA⟩ := hv
  have hx := B9.exec
  have hb := B9.bytes
  have hr := B9.returns
  have hts := atoms_spec (ws := wsX0_init) B9.pre
  have hown : s.vm.findClass RX0 = some m.cls := findClass_of_methodNamed B9.named
  have hlocks := B9.notSynchronized
  have hS : va_S A s.heap s.heap [] := va_S.rf
  have hl := lv_entry ([.ref g]) (n := 1) (Nat.le_of_ble_eq_true rfl)
  rw [lg_entry_eq]
  generalize (lg_sl ([.ref g]) ++ List.replicate (1 - (lg_sl ([.ref g])).length) Slot.unset).toArray = ls at hl ⊢
  have hl : lv_has ls 1 [(0, .ref g)] := hl
  have hiX0 : ∀ w ∈ wsX00, w ∈ wsX0_init := by decide +kernel
  have hf9 := hts (.fieldLink RX0 9 "LandmarkLea$Graph" "neighbourSets" "[J") (by decide +kernel)
  have hf15 := hts (.fieldLink RX0 15 "LandmarkLea$Graph" "vertexCount" "I") (by decide +kernel)
  have hf19 := hts (.fieldLink RX0 19 "LandmarkLea$Graph" "edgeCount" "I") (by decide +kernel)
  have hin : meth.name = "<init>" := (name_of_methodNamed B9.named B9.method).1
  refine lv_aload_n hx hb dX0_init_0 rfl (lv_at hl 0 rfl) ?_
  refine W.objInit hx hb hown (hts (.methodLink RX0 3 objectInit) (by decide +kernel)) (hts (.instanceMethod objectInit) (by decide +kernel)) (hts (.code objectInit ⟨#[0xb1]⟩ 1 none) (by decide +kernel)) rfl (by rw [hml]; exact hl.1) rfl dX0_init_1 (Nat.le_of_ble_eq_true rfl) (Nat.le_of_ble_eq_true rfl) ?_
  refine W.eq (g2 := F0 m 4 ls []) rfl ?_
  refine lv_aload_n hx hb dX0_init_4 rfl (lv_at hl 0 rfl) ?_
  refine lv_bipush (v := (nI 48)) hx hb dX0_init_5 (by decide) ?_
  refine x_newJ (N := 48) hx hb (hts (.arrayClass .long) (by decide +kernel)) hK hP hD hS hA (by decide +kernel) (by decide +kernel) (Nat.le_of_ble_eq_true rfl) (Nat.le_of_ble_eq_true rfl) (Nat.le_of_ble_eq_true rfl) dX0_init_7 (fun gA H hP hD hS => ?_)
  have hP := va_P.swap hP
  have hD := va_D.swap hD
  have hP : va_P dG vwCl (([(g, .inr (0, [.null, .int (nI 0), .int (nI 0)])), (gA, .inl (cJ, 48, .inr (.inl (fun _ => 0))))] : va_W) ++ X) H := hP
  have hD : va_D A (([(g, .inr (0, [.null, .int (nI 0), .int (nI 0)])), (gA, .inl (cJ, 48, .inr (.inl (fun _ => 0))))] : va_W) ++ X) := hD
  refine va_putF (D := dG) (ci := 0) (v := .ref gA) (ty := (.array .long)) (C := RX0) (T := TX0) (N := 3) hx hb hts hiX0 tyX0 tyX0_ok nmX0 hown hK.1 hP hD hS 0 rfl rfl 0 (by decide) hf9 (fun _ h9 => h9) rfl hin rfl (by decide +kernel) rfl rfl (Nat.le_of_ble_eq_true rfl) dX0_init_9 (fun H locs hP hD hS => ?_)
  have hP : va_P dG vwCl (([(g, .inr (0, [.ref gA, .int (nI 0), .int (nI 0)])), (gA, .inl (cJ, 48, .inr (.inl (fun _ => 0))))] : va_W) ++ X) H := hP
  have hD : va_D A (([(g, .inr (0, [.ref gA, .int (nI 0), .int (nI 0)])), (gA, .inl (cJ, 48, .inr (.inl (fun _ => 0))))] : va_W) ++ X) := hD
  refine lv_aload_n hx hb dX0_init_12 rfl (lv_at hl 0 rfl) ?_
  refine lv_iconst (v := (nI 0)) hx hb dX0_init_13 (by decide) ?_
  refine va_put (D := dG) (ci := 0) (v := .int (nI 0)) (ty := .int) (C := RX0) (T := TX0) (N := 3) hx hb hts hiX0 tyX0 tyX0_ok nmX0 hown hK.1 hP hD hS 0 rfl rfl 1 (by decide) hf15 (fun _ h9 => h9) rfl (by decide +kernel) rfl rfl (Nat.le_of_ble_eq_true rfl) dX0_init_14 (fun H locs hP hD hS => ?_)
  have hP : va_P dG vwCl (([(g, .inr (0, [.ref gA, .int (nI 0), .int (nI 0)])), (gA, .inl (cJ, 48, .inr (.inl (fun _ => 0))))] : va_W) ++ X) H := hP
  have hD : va_D A (([(g, .inr (0, [.ref gA, .int (nI 0), .int (nI 0)])), (gA, .inl (cJ, 48, .inr (.inl (fun _ => 0))))] : va_W) ++ X) := hD
  refine lv_aload_n hx hb dX0_init_17 rfl (lv_at hl 0 rfl) ?_
  refine lv_iconst (v := (nI 0)) hx hb dX0_init_18 (by decide) ?_
  refine va_put (D := dG) (ci := 0) (v := .int (nI 0)) (ty := .int) (C := RX0) (T := TX0) (N := 3) hx hb hts hiX0 tyX0 tyX0_ok nmX0 hown hK.1 hP hD hS 0 rfl rfl 2 (by decide) hf19 (fun _ h9 => h9) rfl (by decide +kernel) rfl rfl (Nat.le_of_ble_eq_true rfl) dX0_init_19 (fun H locs hP hD hS => ?_)
  have hP : va_P dG vwCl (([(g, .inr (0, [.ref gA, .int (nI 0), .int (nI 0)])), (gA, .inl (cJ, 48, .inr (.inl (fun _ => 0))))] : va_W) ++ X) H := hP
  have hD : va_D A (([(g, .inr (0, [.ref gA, .int (nI 0), .int (nI 0)])), (gA, .inl (cJ, 48, .inr (.inl (fun _ => 0))))] : va_W) ++ X) := hD
  exact W.vret hx hb hr (fun t ht hW => ⟨⟨gA, rfl, trivial, by rw [ht]; exact hP, hD⟩, hS.F ht⟩) hS.2.2 dX0_init_22

set_option maxHeartbeats 4000000 in
set_option maxRecDepth 100000 in
theorem i_labels (l : Launch) (dG : va_G) (cI cJ : ClassId) (A : Nat → Prop) (lb : Nat) (X : va_W) : Met l yX1_init wsX1_init ({ frames := 1, cells := 5, slots := 4752, locals := 12 } : Room) (CPc dG cI cJ [.ref lb] (([(lb, .inr (1, [.null, .null, .int (nI 0), .null, .null, .null]))] : va_W) ++ X) A) (va_Qv (S := Nat × Nat × Nat × Nat × Nat) (fun _ => True) (fun u => WB dG A (LW cI cJ lb u.1 u.2.1 u.2.2.1 u.2.2.2.1 u.2.2.2.2 (fun _ => 0) (fun _ => 0) (nI 0) (fun _ => 0) (fun _ => 0) (fun _ => 0) ++ X)) A) 5 4752 A := by
  refine Met.ofW (cc := cX1_init) (maxL := 1) (ret := none) (by decide) rfl ?_
  intro p e s m args below meth c s₁ B9 hml hv
  obtain ⟨rfl, hP, hK, hD, hA⟩ := hv
  have hx := B9.exec
  have hb := B9.bytes
  have hr := B9.returns
  have hts := atoms_spec (ws := wsX1_init) B9.pre
  have hown : s.vm.findClass RX1 = some m.cls := findClass_of_methodNamed B9.named
  have hlocks := B9.notSynchronized
  have hS : va_S A s.heap s.heap [] := va_S.rf
  have hl := lv_entry ([.ref lb]) (n := 1) (Nat.le_of_ble_eq_true rfl)
  rw [lg_entry_eq]
  generalize (lg_sl ([.ref lb]) ++ List.replicate (1 - (lg_sl ([.ref lb])).length) Slot.unset).toArray = ls at hl ⊢
  have hl : lv_has ls 1 [(0, .ref lb)] := hl
  have hiX1 : ∀ w ∈ wsX10, w ∈ wsX1_init := by decide +kernel
  have hf9 := hts (.fieldLink RX1 9 "LandmarkLea$Labels" "ranks" "[I") (by decide +kernel)
  have hf15 := hts (.fieldLink RX1 15 "LandmarkLea$Labels" "verticesByRank" "[I") (by decide +kernel)
  have hf18 := hts (.fieldLink RX1 18 "LandmarkLea$Labels" "rankedCount" "I") (by decide +kernel)
  have hf22 := hts (.fieldLink RX1 22 "LandmarkLea$Labels" "hubSets" "[J") (by decide +kernel)
  have hf26 := hts (.fieldLink RX1 26 "LandmarkLea$Labels" "distances" "[I") (by decide +kernel)
  have hf29 := hts (.fieldLink RX1 29 "LandmarkLea$Labels" "parents" "[I") (by decide +kernel)
  have hin : meth.name = "<init>" := (name_of_methodNamed B9.named B9.method).1
  refine lv_aload_n hx hb dX1_init_0 rfl (lv_at hl 0 rfl) ?_
  refine W.objInit hx hb hown (hts (.methodLink RX1 3 objectInit) (by decide +kernel)) (hts (.instanceMethod objectInit) (by decide +kernel)) (hts (.code objectInit ⟨#[0xb1]⟩ 1 none) (by decide +kernel)) rfl (by rw [hml]; exact hl.1) rfl dX1_init_1 (Nat.le_of_ble_eq_true rfl) (Nat.le_of_ble_eq_true rfl) ?_
  refine W.eq (g2 := F0 m 4 ls []) rfl ?_
  refine lv_aload_n hx hb dX1_init_4 rfl (lv_at hl 0 rfl) ?_
  refine lv_bipush (v := (nI 48)) hx hb dX1_init_5 (by decide) ?_
  refine x_newI (N := 48) hx hb (hts (.arrayClass .int) (by decide +kernel)) hK hP hD hS hA (by decide +kernel) (by decide +kernel) (Nat.le_of_ble_eq_true rfl) (Nat.le_of_ble_eq_true rfl) (Nat.le_of_ble_eq_true rfl) dX1_init_7 (fun aR H hP hD hS => ?_)
  have hP := va_P.swap hP
  have hD := va_D.swap hD
  have hP : va_P dG vwCl (([(lb, .inr (1, [.null, .null, .int (nI 0), .null, .null, .null])), (aR, .inl (cI, 48, .inl (fun _ => 0)))] : va_W) ++ X) H := hP
  have hD : va_D A (([(lb, .inr (1, [.null, .null, .int (nI 0), .null, .null, .null])), (aR, .inl (cI, 48, .inl (fun _ => 0)))] : va_W) ++ X) := hD
  refine va_putF (D := dG) (ci := 1) (v := .ref aR) (ty := (.array .int)) (C := RX1) (T := TX1) (N := 6) hx hb hts hiX1 tyX1 tyX1_ok nmX1 hown hK.1 hP hD hS 0 rfl rfl 0 (by decide) hf9 (fun _ h9 => h9) rfl hin rfl (by decide +kernel) rfl rfl (Nat.le_of_ble_eq_true rfl) dX1_init_9 (fun H locs hP hD hS => ?_)
  have hP : va_P dG vwCl (([(lb, .inr (1, [.ref aR, .null, .int (nI 0), .null, .null, .null])), (aR, .inl (cI, 48, .inl (fun _ => 0)))] : va_W) ++ X) H := hP
  have hD : va_D A (([(lb, .inr (1, [.ref aR, .null, .int (nI 0), .null, .null, .null])), (aR, .inl (cI, 48, .inl (fun _ => 0)))] : va_W) ++ X) := hD
  refine lv_aload_n hx hb dX1_init_12 rfl (lv_at hl 0 rfl) ?_
  refine lv_bipush (v := (nI 48)) hx hb dX1_init_13 (by decide) ?_
  refine x_newI (N := 48) hx hb (hts (.arrayClass .int) (by decide +kernel)) hK hP hD hS hA (by decide +kernel) (by decide +kernel) (Nat.le_of_ble_eq_true rfl) (Nat.le_of_ble_eq_true rfl) (Nat.le_of_ble_eq_true rfl) dX1_init_15 (fun aV H hP hD hS => ?_)
  have hP := va_P.swap hP
  have hD := va_D.swap hD
  have hP : va_P dG vwCl (([(lb, .inr (1, [.ref aR, .null, .int (nI 0), .null, .null, .null])), (aR, .inl (cI, 48, .inl (fun _ => 0))), (aV, .inl (cI, 48, .inl (fun _ => 0)))] : va_W) ++ X) H := hP
  have hD : va_D A (([(lb, .inr (1, [.ref aR, .null, .int (nI 0), .null, .null, .null])), (aR, .inl (cI, 48, .inl (fun _ => 0))), (aV, .inl (cI, 48, .inl (fun _ => 0)))] : va_W) ++ X) := hD
  refine va_putF (D := dG) (ci := 1) (v := .ref aV) (ty := (.array .int)) (C := RX1) (T := TX1) (N := 6) hx hb hts hiX1 tyX1 tyX1_ok nmX1 hown hK.1 hP hD hS 0 rfl rfl 1 (by decide) hf15 (fun _ h9 => h9) rfl hin rfl (by decide +kernel) rfl rfl (Nat.le_of_ble_eq_true rfl) dX1_init_17 (fun H locs hP hD hS => ?_)
  have hP : va_P dG vwCl (([(lb, .inr (1, [.ref aR, .ref aV, .int (nI 0), .null, .null, .null])), (aR, .inl (cI, 48, .inl (fun _ => 0))), (aV, .inl (cI, 48, .inl (fun _ => 0)))] : va_W) ++ X) H := hP
  have hD : va_D A (([(lb, .inr (1, [.ref aR, .ref aV, .int (nI 0), .null, .null, .null])), (aR, .inl (cI, 48, .inl (fun _ => 0))), (aV, .inl (cI, 48, .inl (fun _ => 0)))] : va_W) ++ X) := hD
  refine lv_aload_n hx hb dX1_init_20 rfl (lv_at hl 0 rfl) ?_
  refine lv_iconst (v := (nI 0)) hx hb dX1_init_21 (by decide) ?_
  refine va_put (D := dG) (ci := 1) (v := .int (nI 0)) (ty := .int) (C := RX1) (T := TX1) (N := 6) hx hb hts hiX1 tyX1 tyX1_ok nmX1 hown hK.1 hP hD hS 0 rfl rfl 2 (by decide) hf18 (fun _ h9 => h9) rfl (by decide +kernel) rfl rfl (Nat.le_of_ble_eq_true rfl) dX1_init_22 (fun H locs hP hD hS => ?_)
  have hP : va_P dG vwCl (([(lb, .inr (1, [.ref aR, .ref aV, .int (nI 0), .null, .null, .null])), (aR, .inl (cI, 48, .inl (fun _ => 0))), (aV, .inl (cI, 48, .inl (fun _ => 0)))] : va_W) ++ X) H := hP
  have hD : va_D A (([(lb, .inr (1, [.ref aR, .ref aV, .int (nI 0), .null, .null, .null])), (aR, .inl (cI, 48, .inl (fun _ => 0))), (aV, .inl (cI, 48, .inl (fun _ => 0)))] : va_W) ++ X) := hD
  refine lv_aload_n hx hb dX1_init_25 rfl (lv_at hl 0 rfl) ?_
  refine lv_bipush (v := (nI 48)) hx hb dX1_init_26 (by decide) ?_
  refine x_newJ (N := 48) hx hb (hts (.arrayClass .long) (by decide +kernel)) hK hP hD hS hA (by decide +kernel) (by decide +kernel) (Nat.le_of_ble_eq_true rfl) (Nat.le_of_ble_eq_true rfl) (Nat.le_of_ble_eq_true rfl) dX1_init_28 (fun aH H hP hD hS => ?_)
  have hP := va_P.swap hP
  have hD := va_D.swap hD
  have hP : va_P dG vwCl (([(lb, .inr (1, [.ref aR, .ref aV, .int (nI 0), .null, .null, .null])), (aR, .inl (cI, 48, .inl (fun _ => 0))), (aV, .inl (cI, 48, .inl (fun _ => 0))), (aH, .inl (cJ, 48, .inr (.inl (fun _ => 0))))] : va_W) ++ X) H := hP
  have hD : va_D A (([(lb, .inr (1, [.ref aR, .ref aV, .int (nI 0), .null, .null, .null])), (aR, .inl (cI, 48, .inl (fun _ => 0))), (aV, .inl (cI, 48, .inl (fun _ => 0))), (aH, .inl (cJ, 48, .inr (.inl (fun _ => 0))))] : va_W) ++ X) := hD
  refine va_putF (D := dG) (ci := 1) (v := .ref aH) (ty := (.array .long)) (C := RX1) (T := TX1) (N := 6) hx hb hts hiX1 tyX1 tyX1_ok nmX1 hown hK.1 hP hD hS 0 rfl rfl 3 (by decide) hf22 (fun _ h9 => h9) rfl hin rfl (by decide +kernel) rfl rfl (Nat.le_of_ble_eq_true rfl) dX1_init_30 (fun H locs hP hD hS => ?_)
  have hP : va_P dG vwCl (([(lb, .inr (1, [.ref aR, .ref aV, .int (nI 0), .ref aH, .null, .null])), (aR, .inl (cI, 48, .inl (fun _ => 0))), (aV, .inl (cI, 48, .inl (fun _ => 0))), (aH, .inl (cJ, 48, .inr (.inl (fun _ => 0))))] : va_W) ++ X) H := hP
  have hD : va_D A (([(lb, .inr (1, [.ref aR, .ref aV, .int (nI 0), .ref aH, .null, .null])), (aR, .inl (cI, 48, .inl (fun _ => 0))), (aV, .inl (cI, 48, .inl (fun _ => 0))), (aH, .inl (cJ, 48, .inr (.inl (fun _ => 0))))] : va_W) ++ X) := hD
  refine lv_aload_n hx hb dX1_init_33 rfl (lv_at hl 0 rfl) ?_
  refine lv_sipush (v := (nI 2304)) hx hb dX1_init_34 (by decide) ?_
  refine x_newI (N := 2304) hx hb (hts (.arrayClass .int) (by decide +kernel)) hK hP hD hS hA (by decide +kernel) (by decide +kernel) (Nat.le_of_ble_eq_true rfl) (Nat.le_of_ble_eq_true rfl) (Nat.le_of_ble_eq_true rfl) dX1_init_37 (fun aD H hP hD hS => ?_)
  have hP := va_P.swap hP
  have hD := va_D.swap hD
  have hP : va_P dG vwCl (([(lb, .inr (1, [.ref aR, .ref aV, .int (nI 0), .ref aH, .null, .null])), (aR, .inl (cI, 48, .inl (fun _ => 0))), (aV, .inl (cI, 48, .inl (fun _ => 0))), (aH, .inl (cJ, 48, .inr (.inl (fun _ => 0)))), (aD, .inl (cI, 2304, .inl (fun _ => 0)))] : va_W) ++ X) H := hP
  have hD : va_D A (([(lb, .inr (1, [.ref aR, .ref aV, .int (nI 0), .ref aH, .null, .null])), (aR, .inl (cI, 48, .inl (fun _ => 0))), (aV, .inl (cI, 48, .inl (fun _ => 0))), (aH, .inl (cJ, 48, .inr (.inl (fun _ => 0)))), (aD, .inl (cI, 2304, .inl (fun _ => 0)))] : va_W) ++ X) := hD
  refine va_putF (D := dG) (ci := 1) (v := .ref aD) (ty := (.array .int)) (C := RX1) (T := TX1) (N := 6) hx hb hts hiX1 tyX1 tyX1_ok nmX1 hown hK.1 hP hD hS 0 rfl rfl 4 (by decide) hf26 (fun _ h9 => h9) rfl hin rfl (by decide +kernel) rfl rfl (Nat.le_of_ble_eq_true rfl) dX1_init_39 (fun H locs hP hD hS => ?_)
  have hP : va_P dG vwCl (([(lb, .inr (1, [.ref aR, .ref aV, .int (nI 0), .ref aH, .ref aD, .null])), (aR, .inl (cI, 48, .inl (fun _ => 0))), (aV, .inl (cI, 48, .inl (fun _ => 0))), (aH, .inl (cJ, 48, .inr (.inl (fun _ => 0)))), (aD, .inl (cI, 2304, .inl (fun _ => 0)))] : va_W) ++ X) H := hP
  have hD : va_D A (([(lb, .inr (1, [.ref aR, .ref aV, .int (nI 0), .ref aH, .ref aD, .null])), (aR, .inl (cI, 48, .inl (fun _ => 0))), (aV, .inl (cI, 48, .inl (fun _ => 0))), (aH, .inl (cJ, 48, .inr (.inl (fun _ => 0)))), (aD, .inl (cI, 2304, .inl (fun _ => 0)))] : va_W) ++ X) := hD
  refine lv_aload_n hx hb dX1_init_42 rfl (lv_at hl 0 rfl) ?_
  refine lv_sipush (v := (nI 2304)) hx hb dX1_init_43 (by decide) ?_
  refine x_newI (N := 2304) hx hb (hts (.arrayClass .int) (by decide +kernel)) hK hP hD hS hA (by decide +kernel) (by decide +kernel) (Nat.le_of_ble_eq_true rfl) (Nat.le_of_ble_eq_true rfl) (Nat.le_of_ble_eq_true rfl) dX1_init_46 (fun aP H hP hD hS => ?_)
  have hP := va_P.swap hP
  have hD := va_D.swap hD
  have hP : va_P dG vwCl (([(lb, .inr (1, [.ref aR, .ref aV, .int (nI 0), .ref aH, .ref aD, .null])), (aR, .inl (cI, 48, .inl (fun _ => 0))), (aV, .inl (cI, 48, .inl (fun _ => 0))), (aH, .inl (cJ, 48, .inr (.inl (fun _ => 0)))), (aD, .inl (cI, 2304, .inl (fun _ => 0))), (aP, .inl (cI, 2304, .inl (fun _ => 0)))] : va_W) ++ X) H := hP
  have hD : va_D A (([(lb, .inr (1, [.ref aR, .ref aV, .int (nI 0), .ref aH, .ref aD, .null])), (aR, .inl (cI, 48, .inl (fun _ => 0))), (aV, .inl (cI, 48, .inl (fun _ => 0))), (aH, .inl (cJ, 48, .inr (.inl (fun _ => 0)))), (aD, .inl (cI, 2304, .inl (fun _ => 0))), (aP, .inl (cI, 2304, .inl (fun _ => 0)))] : va_W) ++ X) := hD
  refine va_putF (D := dG) (ci := 1) (v := .ref aP) (ty := (.array .int)) (C := RX1) (T := TX1) (N := 6) hx hb hts hiX1 tyX1 tyX1_ok nmX1 hown hK.1 hP hD hS 0 rfl rfl 5 (by decide) hf29 (fun _ h9 => h9) rfl hin rfl (by decide +kernel) rfl rfl (Nat.le_of_ble_eq_true rfl) dX1_init_48 (fun H locs hP hD hS => ?_)
  have hP : va_P dG vwCl (([(lb, .inr (1, [.ref aR, .ref aV, .int (nI 0), .ref aH, .ref aD, .ref aP])), (aR, .inl (cI, 48, .inl (fun _ => 0))), (aV, .inl (cI, 48, .inl (fun _ => 0))), (aH, .inl (cJ, 48, .inr (.inl (fun _ => 0)))), (aD, .inl (cI, 2304, .inl (fun _ => 0))), (aP, .inl (cI, 2304, .inl (fun _ => 0)))] : va_W) ++ X) H := hP
  have hD : va_D A (([(lb, .inr (1, [.ref aR, .ref aV, .int (nI 0), .ref aH, .ref aD, .ref aP])), (aR, .inl (cI, 48, .inl (fun _ => 0))), (aV, .inl (cI, 48, .inl (fun _ => 0))), (aH, .inl (cJ, 48, .inr (.inl (fun _ => 0)))), (aD, .inl (cI, 2304, .inl (fun _ => 0))), (aP, .inl (cI, 2304, .inl (fun _ => 0)))] : va_W) ++ X) := hD
  exact W.vret hx hb hr (fun t ht hW => ⟨⟨(aR, aV, aH, aD, aP), rfl, trivial, by rw [ht]; exact hP, hD⟩, hS.F ht⟩) hS.2.2 dX1_init_51

set_option maxHeartbeats 4000000 in
set_option maxRecDepth 100000 in
theorem i_searches (l : Launch) (dG : va_G) (cI cJ : ClassId) (A : Nat → Prop) (se g lb : Nat) (X : va_W) : Met l yX2_init wsX2_init ({ frames := 1, cells := 3, slots := 144, locals := 12 } : Room) (CPc dG cI cJ [.ref se, .ref g, .ref lb] (([(se, .inr (2, [.null, .null, .null, .null, .null, .int (nI 0), .long 0, .int (nI 0), .int (nI 0), .int (nI 0)]))] : va_W) ++ X) A) (va_Qv (S := Nat × Nat × Nat) (fun _ => True) (fun u => WB dG A (SW cI g lb se u.1 u.2.1 u.2.2 (fun _ => 0) (fun _ => 0) (fun _ => 0) (nI 0) 0 (nI 0) (nI 0) (nI 0) ++ X)) A) 3 144 A := by
  refine Met.ofW (cc := cX2_init) (maxL := 3) (ret := none) (by decide) rfl ?_
  intro p e s m args below meth c s₁ B9 hml hv
  obtain ⟨rfl, hP, hK, hD, hA⟩ := hv
  have hx := B9.exec
  have hb := B9.bytes
  have hr := B9.returns
  have hts := atoms_spec (ws := wsX2_init) B9.pre
  have hown : s.vm.findClass RX2 = some m.cls := findClass_of_methodNamed B9.named
  have hlocks := B9.notSynchronized
  have hS : va_S A s.heap s.heap [] := va_S.rf
  have hl := lv_entry ([.ref se, .ref g, .ref lb]) (n := 3) (Nat.le_of_ble_eq_true rfl)
  rw [lg_entry_eq]
  generalize (lg_sl ([.ref se, .ref g, .ref lb]) ++ List.replicate (3 - (lg_sl ([.ref se, .ref g, .ref lb])).length) Slot.unset).toArray = ls at hl ⊢
  have hl : lv_has ls 3 [(0, .ref se), (1, .ref g), (2, .ref lb)] := hl
  have hiX2 : ∀ w ∈ wsX20, w ∈ wsX2_init := by decide +kernel
  have hf9 := hts (.fieldLink RX2 9 "LandmarkLea$Searches" "graph" "LLandmarkLea$Graph;") (by decide +kernel)
  have hf15 := hts (.fieldLink RX2 15 "LandmarkLea$Searches" "labels" "LLandmarkLea$Labels;") (by decide +kernel)
  have hf19 := hts (.fieldLink RX2 19 "LandmarkLea$Searches" "queueVertices" "[I") (by decide +kernel)
  have hf23 := hts (.fieldLink RX2 23 "LandmarkLea$Searches" "queueDistances" "[I") (by decide +kernel)
  have hf26 := hts (.fieldLink RX2 26 "LandmarkLea$Searches" "queueParents" "[I") (by decide +kernel)
  have hf29 := hts (.fieldLink RX2 29 "LandmarkLea$Searches" "queueLength" "I") (by decide +kernel)
  have hf33 := hts (.fieldLink RX2 33 "LandmarkLea$Searches" "queuedSet" "J") (by decide +kernel)
  have hf37 := hts (.fieldLink RX2 37 "LandmarkLea$Searches" "visitCount" "I") (by decide +kernel)
  have hf40 := hts (.fieldLink RX2 40 "LandmarkLea$Searches" "prunedCount" "I") (by decide +kernel)
  have hf43 := hts (.fieldLink RX2 43 "LandmarkLea$Searches" "writtenCount" "I") (by decide +kernel)
  have hin : meth.name = "<init>" := (name_of_methodNamed B9.named B9.method).1
  refine lv_aload_n hx hb dX2_init_0 rfl (lv_at hl 0 rfl) ?_
  refine W.objInit hx hb hown (hts (.methodLink RX2 3 objectInit) (by decide +kernel)) (hts (.instanceMethod objectInit) (by decide +kernel)) (hts (.code objectInit ⟨#[0xb1]⟩ 1 none) (by decide +kernel)) rfl (by rw [hml]; exact hl.1) rfl dX2_init_1 (Nat.le_of_ble_eq_true rfl) (Nat.le_of_ble_eq_true rfl) ?_
  refine W.eq (g2 := F0 m 4 ls []) rfl ?_
  refine lv_aload_n hx hb dX2_init_4 rfl (lv_at hl 0 rfl) ?_
  refine lv_aload_n hx hb dX2_init_5 rfl (lv_at hl 1 rfl) ?_
  refine va_putF (D := dG) (ci := 2) (v := .ref g) (ty := (.object "LandmarkLea$Graph")) (C := RX2) (T := TX2) (N := 10) hx hb hts hiX2 tyX2 tyX2_ok nmX2 hown hK.1 hP hD hS 0 rfl rfl 0 (by decide) hf9 (fun _ h9 => h9) rfl hin rfl (by decide +kernel) rfl rfl (Nat.le_of_ble_eq_true rfl) dX2_init_6 (fun H locs hP hD hS => ?_)
  have hP : va_P dG vwCl (([(se, .inr (2, [.ref g, .null, .null, .null, .null, .int (nI 0), .long 0, .int (nI 0), .int (nI 0), .int (nI 0)]))] : va_W) ++ X) H := hP
  have hD : va_D A (([(se, .inr (2, [.ref g, .null, .null, .null, .null, .int (nI 0), .long 0, .int (nI 0), .int (nI 0), .int (nI 0)]))] : va_W) ++ X) := hD
  refine lv_aload_n hx hb dX2_init_9 rfl (lv_at hl 0 rfl) ?_
  refine lv_aload_n hx hb dX2_init_10 rfl (lv_at hl 2 rfl) ?_
  refine va_putF (D := dG) (ci := 2) (v := .ref lb) (ty := (.object "LandmarkLea$Labels")) (C := RX2) (T := TX2) (N := 10) hx hb hts hiX2 tyX2 tyX2_ok nmX2 hown hK.1 hP hD hS 0 rfl rfl 1 (by decide) hf15 (fun _ h9 => h9) rfl hin rfl (by decide +kernel) rfl rfl (Nat.le_of_ble_eq_true rfl) dX2_init_11 (fun H locs hP hD hS => ?_)
  have hP : va_P dG vwCl (([(se, .inr (2, [.ref g, .ref lb, .null, .null, .null, .int (nI 0), .long 0, .int (nI 0), .int (nI 0), .int (nI 0)]))] : va_W) ++ X) H := hP
  have hD : va_D A (([(se, .inr (2, [.ref g, .ref lb, .null, .null, .null, .int (nI 0), .long 0, .int (nI 0), .int (nI 0), .int (nI 0)]))] : va_W) ++ X) := hD
  refine lv_aload_n hx hb dX2_init_14 rfl (lv_at hl 0 rfl) ?_
  refine lv_bipush (v := (nI 48)) hx hb dX2_init_15 (by decide) ?_
  refine x_newI (N := 48) hx hb (hts (.arrayClass .int) (by decide +kernel)) hK hP hD hS hA (by decide +kernel) (by decide +kernel) (Nat.le_of_ble_eq_true rfl) (Nat.le_of_ble_eq_true rfl) (Nat.le_of_ble_eq_true rfl) dX2_init_17 (fun qa H hP hD hS => ?_)
  have hP := va_P.swap hP
  have hD := va_D.swap hD
  have hP : va_P dG vwCl (([(se, .inr (2, [.ref g, .ref lb, .null, .null, .null, .int (nI 0), .long 0, .int (nI 0), .int (nI 0), .int (nI 0)])), (qa, .inl (cI, 48, .inl (fun _ => 0)))] : va_W) ++ X) H := hP
  have hD : va_D A (([(se, .inr (2, [.ref g, .ref lb, .null, .null, .null, .int (nI 0), .long 0, .int (nI 0), .int (nI 0), .int (nI 0)])), (qa, .inl (cI, 48, .inl (fun _ => 0)))] : va_W) ++ X) := hD
  refine va_putF (D := dG) (ci := 2) (v := .ref qa) (ty := (.array .int)) (C := RX2) (T := TX2) (N := 10) hx hb hts hiX2 tyX2 tyX2_ok nmX2 hown hK.1 hP hD hS 0 rfl rfl 2 (by decide) hf19 (fun _ h9 => h9) rfl hin rfl (by decide +kernel) rfl rfl (Nat.le_of_ble_eq_true rfl) dX2_init_19 (fun H locs hP hD hS => ?_)
  have hP : va_P dG vwCl (([(se, .inr (2, [.ref g, .ref lb, .ref qa, .null, .null, .int (nI 0), .long 0, .int (nI 0), .int (nI 0), .int (nI 0)])), (qa, .inl (cI, 48, .inl (fun _ => 0)))] : va_W) ++ X) H := hP
  have hD : va_D A (([(se, .inr (2, [.ref g, .ref lb, .ref qa, .null, .null, .int (nI 0), .long 0, .int (nI 0), .int (nI 0), .int (nI 0)])), (qa, .inl (cI, 48, .inl (fun _ => 0)))] : va_W) ++ X) := hD
  refine lv_aload_n hx hb dX2_init_22 rfl (lv_at hl 0 rfl) ?_
  refine lv_bipush (v := (nI 48)) hx hb dX2_init_23 (by decide) ?_
  refine x_newI (N := 48) hx hb (hts (.arrayClass .int) (by decide +kernel)) hK hP hD hS hA (by decide +kernel) (by decide +kernel) (Nat.le_of_ble_eq_true rfl) (Nat.le_of_ble_eq_true rfl) (Nat.le_of_ble_eq_true rfl) dX2_init_25 (fun qb H hP hD hS => ?_)
  have hP := va_P.swap hP
  have hD := va_D.swap hD
  have hP : va_P dG vwCl (([(se, .inr (2, [.ref g, .ref lb, .ref qa, .null, .null, .int (nI 0), .long 0, .int (nI 0), .int (nI 0), .int (nI 0)])), (qa, .inl (cI, 48, .inl (fun _ => 0))), (qb, .inl (cI, 48, .inl (fun _ => 0)))] : va_W) ++ X) H := hP
  have hD : va_D A (([(se, .inr (2, [.ref g, .ref lb, .ref qa, .null, .null, .int (nI 0), .long 0, .int (nI 0), .int (nI 0), .int (nI 0)])), (qa, .inl (cI, 48, .inl (fun _ => 0))), (qb, .inl (cI, 48, .inl (fun _ => 0)))] : va_W) ++ X) := hD
  refine va_putF (D := dG) (ci := 2) (v := .ref qb) (ty := (.array .int)) (C := RX2) (T := TX2) (N := 10) hx hb hts hiX2 tyX2 tyX2_ok nmX2 hown hK.1 hP hD hS 0 rfl rfl 3 (by decide) hf23 (fun _ h9 => h9) rfl hin rfl (by decide +kernel) rfl rfl (Nat.le_of_ble_eq_true rfl) dX2_init_27 (fun H locs hP hD hS => ?_)
  have hP : va_P dG vwCl (([(se, .inr (2, [.ref g, .ref lb, .ref qa, .ref qb, .null, .int (nI 0), .long 0, .int (nI 0), .int (nI 0), .int (nI 0)])), (qa, .inl (cI, 48, .inl (fun _ => 0))), (qb, .inl (cI, 48, .inl (fun _ => 0)))] : va_W) ++ X) H := hP
  have hD : va_D A (([(se, .inr (2, [.ref g, .ref lb, .ref qa, .ref qb, .null, .int (nI 0), .long 0, .int (nI 0), .int (nI 0), .int (nI 0)])), (qa, .inl (cI, 48, .inl (fun _ => 0))), (qb, .inl (cI, 48, .inl (fun _ => 0)))] : va_W) ++ X) := hD
  refine lv_aload_n hx hb dX2_init_30 rfl (lv_at hl 0 rfl) ?_
  refine lv_bipush (v := (nI 48)) hx hb dX2_init_31 (by decide) ?_
  refine x_newI (N := 48) hx hb (hts (.arrayClass .int) (by decide +kernel)) hK hP hD hS hA (by decide +kernel) (by decide +kernel) (Nat.le_of_ble_eq_true rfl) (Nat.le_of_ble_eq_true rfl) (Nat.le_of_ble_eq_true rfl) dX2_init_33 (fun qc H hP hD hS => ?_)
  have hP := va_P.swap hP
  have hD := va_D.swap hD
  have hP : va_P dG vwCl (([(se, .inr (2, [.ref g, .ref lb, .ref qa, .ref qb, .null, .int (nI 0), .long 0, .int (nI 0), .int (nI 0), .int (nI 0)])), (qa, .inl (cI, 48, .inl (fun _ => 0))), (qb, .inl (cI, 48, .inl (fun _ => 0))), (qc, .inl (cI, 48, .inl (fun _ => 0)))] : va_W) ++ X) H := hP
  have hD : va_D A (([(se, .inr (2, [.ref g, .ref lb, .ref qa, .ref qb, .null, .int (nI 0), .long 0, .int (nI 0), .int (nI 0), .int (nI 0)])), (qa, .inl (cI, 48, .inl (fun _ => 0))), (qb, .inl (cI, 48, .inl (fun _ => 0))), (qc, .inl (cI, 48, .inl (fun _ => 0)))] : va_W) ++ X) := hD
  refine va_putF (D := dG) (ci := 2) (v := .ref qc) (ty := (.array .int)) (C := RX2) (T := TX2) (N := 10) hx hb hts hiX2 tyX2 tyX2_ok nmX2 hown hK.1 hP hD hS 0 rfl rfl 4 (by decide) hf26 (fun _ h9 => h9) rfl hin rfl (by decide +kernel) rfl rfl (Nat.le_of_ble_eq_true rfl) dX2_init_35 (fun H locs hP hD hS => ?_)
  have hP : va_P dG vwCl (([(se, .inr (2, [.ref g, .ref lb, .ref qa, .ref qb, .ref qc, .int (nI 0), .long 0, .int (nI 0), .int (nI 0), .int (nI 0)])), (qa, .inl (cI, 48, .inl (fun _ => 0))), (qb, .inl (cI, 48, .inl (fun _ => 0))), (qc, .inl (cI, 48, .inl (fun _ => 0)))] : va_W) ++ X) H := hP
  have hD : va_D A (([(se, .inr (2, [.ref g, .ref lb, .ref qa, .ref qb, .ref qc, .int (nI 0), .long 0, .int (nI 0), .int (nI 0), .int (nI 0)])), (qa, .inl (cI, 48, .inl (fun _ => 0))), (qb, .inl (cI, 48, .inl (fun _ => 0))), (qc, .inl (cI, 48, .inl (fun _ => 0)))] : va_W) ++ X) := hD
  refine lv_aload_n hx hb dX2_init_38 rfl (lv_at hl 0 rfl) ?_
  refine lv_iconst (v := (nI 0)) hx hb dX2_init_39 (by decide) ?_
  refine va_put (D := dG) (ci := 2) (v := .int (nI 0)) (ty := .int) (C := RX2) (T := TX2) (N := 10) hx hb hts hiX2 tyX2 tyX2_ok nmX2 hown hK.1 hP hD hS 0 rfl rfl 5 (by decide) hf29 (fun _ h9 => h9) rfl (by decide +kernel) rfl rfl (Nat.le_of_ble_eq_true rfl) dX2_init_40 (fun H locs hP hD hS => ?_)
  have hP : va_P dG vwCl (([(se, .inr (2, [.ref g, .ref lb, .ref qa, .ref qb, .ref qc, .int (nI 0), .long 0, .int (nI 0), .int (nI 0), .int (nI 0)])), (qa, .inl (cI, 48, .inl (fun _ => 0))), (qb, .inl (cI, 48, .inl (fun _ => 0))), (qc, .inl (cI, 48, .inl (fun _ => 0)))] : va_W) ++ X) H := hP
  have hD : va_D A (([(se, .inr (2, [.ref g, .ref lb, .ref qa, .ref qb, .ref qc, .int (nI 0), .long 0, .int (nI 0), .int (nI 0), .int (nI 0)])), (qa, .inl (cI, 48, .inl (fun _ => 0))), (qb, .inl (cI, 48, .inl (fun _ => 0))), (qc, .inl (cI, 48, .inl (fun _ => 0)))] : va_W) ++ X) := hD
  refine lv_aload_n hx hb dX2_init_43 rfl (lv_at hl 0 rfl) ?_
  refine lv_lconst (v := 0) hx hb dX2_init_44 rfl ?_
  refine va_put (D := dG) (ci := 2) (v := .long 0) (ty := .long) (C := RX2) (T := TX2) (N := 10) hx hb hts hiX2 tyX2 tyX2_ok nmX2 hown hK.1 hP hD hS 0 rfl rfl 6 (by decide) hf33 (fun _ h9 => h9) rfl (by decide +kernel) rfl rfl (Nat.le_of_ble_eq_true rfl) dX2_init_45 (fun H locs hP hD hS => ?_)
  have hP : va_P dG vwCl (([(se, .inr (2, [.ref g, .ref lb, .ref qa, .ref qb, .ref qc, .int (nI 0), .long 0, .int (nI 0), .int (nI 0), .int (nI 0)])), (qa, .inl (cI, 48, .inl (fun _ => 0))), (qb, .inl (cI, 48, .inl (fun _ => 0))), (qc, .inl (cI, 48, .inl (fun _ => 0)))] : va_W) ++ X) H := hP
  have hD : va_D A (([(se, .inr (2, [.ref g, .ref lb, .ref qa, .ref qb, .ref qc, .int (nI 0), .long 0, .int (nI 0), .int (nI 0), .int (nI 0)])), (qa, .inl (cI, 48, .inl (fun _ => 0))), (qb, .inl (cI, 48, .inl (fun _ => 0))), (qc, .inl (cI, 48, .inl (fun _ => 0)))] : va_W) ++ X) := hD
  refine lv_aload_n hx hb dX2_init_48 rfl (lv_at hl 0 rfl) ?_
  refine lv_iconst (v := (nI 0)) hx hb dX2_init_49 (by decide) ?_
  refine va_put (D := dG) (ci := 2) (v := .int (nI 0)) (ty := .int) (C := RX2) (T := TX2) (N := 10) hx hb hts hiX2 tyX2 tyX2_ok nmX2 hown hK.1 hP hD hS 0 rfl rfl 7 (by decide) hf37 (fun _ h9 => h9) rfl (by decide +kernel) rfl rfl (Nat.le_of_ble_eq_true rfl) dX2_init_50 (fun H locs hP hD hS => ?_)
  have hP : va_P dG vwCl (([(se, .inr (2, [.ref g, .ref lb, .ref qa, .ref qb, .ref qc, .int (nI 0), .long 0, .int (nI 0), .int (nI 0), .int (nI 0)])), (qa, .inl (cI, 48, .inl (fun _ => 0))), (qb, .inl (cI, 48, .inl (fun _ => 0))), (qc, .inl (cI, 48, .inl (fun _ => 0)))] : va_W) ++ X) H := hP
  have hD : va_D A (([(se, .inr (2, [.ref g, .ref lb, .ref qa, .ref qb, .ref qc, .int (nI 0), .long 0, .int (nI 0), .int (nI 0), .int (nI 0)])), (qa, .inl (cI, 48, .inl (fun _ => 0))), (qb, .inl (cI, 48, .inl (fun _ => 0))), (qc, .inl (cI, 48, .inl (fun _ => 0)))] : va_W) ++ X) := hD
  refine lv_aload_n hx hb dX2_init_53 rfl (lv_at hl 0 rfl) ?_
  refine lv_iconst (v := (nI 0)) hx hb dX2_init_54 (by decide) ?_
  refine va_put (D := dG) (ci := 2) (v := .int (nI 0)) (ty := .int) (C := RX2) (T := TX2) (N := 10) hx hb hts hiX2 tyX2 tyX2_ok nmX2 hown hK.1 hP hD hS 0 rfl rfl 8 (by decide) hf40 (fun _ h9 => h9) rfl (by decide +kernel) rfl rfl (Nat.le_of_ble_eq_true rfl) dX2_init_55 (fun H locs hP hD hS => ?_)
  have hP : va_P dG vwCl (([(se, .inr (2, [.ref g, .ref lb, .ref qa, .ref qb, .ref qc, .int (nI 0), .long 0, .int (nI 0), .int (nI 0), .int (nI 0)])), (qa, .inl (cI, 48, .inl (fun _ => 0))), (qb, .inl (cI, 48, .inl (fun _ => 0))), (qc, .inl (cI, 48, .inl (fun _ => 0)))] : va_W) ++ X) H := hP
  have hD : va_D A (([(se, .inr (2, [.ref g, .ref lb, .ref qa, .ref qb, .ref qc, .int (nI 0), .long 0, .int (nI 0), .int (nI 0), .int (nI 0)])), (qa, .inl (cI, 48, .inl (fun _ => 0))), (qb, .inl (cI, 48, .inl (fun _ => 0))), (qc, .inl (cI, 48, .inl (fun _ => 0)))] : va_W) ++ X) := hD
  refine lv_aload_n hx hb dX2_init_58 rfl (lv_at hl 0 rfl) ?_
  refine lv_iconst (v := (nI 0)) hx hb dX2_init_59 (by decide) ?_
  refine va_put (D := dG) (ci := 2) (v := .int (nI 0)) (ty := .int) (C := RX2) (T := TX2) (N := 10) hx hb hts hiX2 tyX2 tyX2_ok nmX2 hown hK.1 hP hD hS 0 rfl rfl 9 (by decide) hf43 (fun _ h9 => h9) rfl (by decide +kernel) rfl rfl (Nat.le_of_ble_eq_true rfl) dX2_init_60 (fun H locs hP hD hS => ?_)
  have hP : va_P dG vwCl (([(se, .inr (2, [.ref g, .ref lb, .ref qa, .ref qb, .ref qc, .int (nI 0), .long 0, .int (nI 0), .int (nI 0), .int (nI 0)])), (qa, .inl (cI, 48, .inl (fun _ => 0))), (qb, .inl (cI, 48, .inl (fun _ => 0))), (qc, .inl (cI, 48, .inl (fun _ => 0)))] : va_W) ++ X) H := hP
  have hD : va_D A (([(se, .inr (2, [.ref g, .ref lb, .ref qa, .ref qb, .ref qc, .int (nI 0), .long 0, .int (nI 0), .int (nI 0), .int (nI 0)])), (qa, .inl (cI, 48, .inl (fun _ => 0))), (qb, .inl (cI, 48, .inl (fun _ => 0))), (qc, .inl (cI, 48, .inl (fun _ => 0)))] : va_W) ++ X) := hD
  exact W.vret hx hb hr (fun t ht hW => ⟨⟨(qa, qb, qc), rfl, trivial, by rw [ht]; exact hP, hD⟩, hS.F ht⟩) hS.2.2 dX2_init_63

