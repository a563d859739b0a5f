/-! the law's helpers: askers, and what is caught -/
set_option maxHeartbeats 4000000 in
set_option maxRecDepth 100000 in
theorem h_neighbours (l : Launch) (dG : va_G) (cI cJ : ClassId) (A : Nat → Prop) (xo tl ts : Nat) (bt : Bool) (se : Nat) (g gA n ec : Nat) (ns : Nat → Int64) (lb aR aV aH aD aP : Nat) (rk vb : Nat → Int32) (rc : Int32) (hs : Nat → Int64) (D Pp : Nat → Int32) (ou : Nat) (of : Nat → Int64) (hn : n ≤ 48) (u : Nat) (hu : u < n) (X : va_W) : Met l yL_neighbours wsL_neighbours ({ frames := 3, cells := 0, slots := 0, locals := 63 } : Room) (WPc dG cI cJ [.ref xo, .int (nI u), .ref ou] (XW xo g lb se tl ts (bI bt) ++ (GW cJ g gA (nI n) (nI ec) ns ++ (LW cI cJ lb aR aV aH aD aP rk vb rc hs D Pp ++ (OW cJ ou of ++ X)))) A) (va_Qi (S := Unit) (fun r _ => r = nI 0) (fun _ => WB dG A (XW xo g lb se tl ts (bI bt) ++ (GW cJ g gA (nI n) (nI ec) ns ++ (LW cI cJ lb aR aV aH aD aP rk vb rc hs D Pp ++ (OW cJ ou (vp_updL of 0 (ns u)) ++ X))))) A) 0 0 A := by
  refine va_MetW (cc := cL_neighbours) (maxL := 4) (ret := (some .int)) (hh := [(0, 8, 11, 25)]) (by decide) rfl ?_
  intro p e s m args below meth c s₁ B9 hml hv
  obtain ⟨rfl, hP, hK, hD⟩ := hv
  have hx := B9.exec
  have hb := B9.bytes
  have hr := B9.returns
  have hts := atoms_spec (ws := wsL_neighbours) B9.pre
  have hown : s.vm.findClass RL = some m.cls := findClass_of_methodNamed B9.named
  have hlocks := B9.notSynchronized
  have hS : va_S A s.heap s.heap [] := va_S.rf
  have hl := lv_entry ([.ref xo, .int (nI u), .ref ou]) (n := 4) (Nat.le_of_ble_eq_true rfl)
  rw [lg_entry_eq]
  generalize (lg_sl ([.ref xo, .int (nI u), .ref ou]) ++ List.replicate (4 - (lg_sl ([.ref xo, .int (nI u), .ref ou])).length) Slot.unset).toArray = ls at hl ⊢
  have hl : lv_has ls 4 [(0, .ref xo), (1, .int (nI u)), (2, .ref ou)] := hl
  refine lv_aload_n hx hb dL_neighbours_0 rfl (lv_at hl 2 rfl) ?_
  refine lv_iconst (v := (nI 0)) hx hb dL_neighbours_1 (by decide) ?_
  refine lv_aload_n hx hb dL_neighbours_2 rfl (lv_at hl 0 rfl) ?_
  refine lv_iload_n hx hb dL_neighbours_3 rfl (lv_at hl 1 rfl) ?_
  have hPc := hP.sub (ws' := (XW xo g lb se tl ts (bI bt) ++ (GW cJ g gA (nI n) (nI ec) ns ++ (LW cI cJ lb aR aV aH aD aP rk vb rc hs D Pp)))) [0, 1, 2, 3, 4, 5, 6, 7, 8] rfl
  refine x_rl (W.runV (As := [.int (nI u)]) (rest := [.int (nI 0), .ref ou]) ⟨hx, hb, hml, hown, hts⟩ (c_neighbours l dG cI cJ xo tl ts bt se g gA n ec ns lb aR aV aH aD aP rk vb rc hs D Pp hn u hu) (cwV 1 hts gL_neighbours_X3_neighbours rfl rfl rfl (by decide +kernel) ⟨Nat.le_of_ble_eq_true rfl, Nat.le_of_ble_eq_true rfl⟩) (RPc.pre hPc hK (va_recv hK.1 hPc (ci := 3) (q0 := 0) rfl rfl)) rfl rfl hl.1 rfl (lv_room (Nat.le_of_ble_eq_true rfl)) dL_neighbours_4 ⟨Nat.zero_le _, Nat.zero_le _⟩) ?_
  refine x_last (f := of) hx hb hK hP hD hS 9 rfl (by omega) (by decide) dL_neighbours_7 (fun H locs hP hD hS => ?_)
  have hP : va_P dG vwCl (XW xo g lb se tl ts (bI bt) ++ (GW cJ g gA (nI n) (nI ec) ns ++ (LW cI cJ lb aR aV aH aD aP rk vb rc hs D Pp ++ (OW cJ ou (vp_updL of 0 (ns u)) ++ X)))) H := hP
  have hD : va_D A (XW xo g lb se tl ts (bI bt) ++ (GW cJ g gA (nI n) (nI ec) ns ++ (LW cI cJ lb aR aV aH aD aP rk vb rc hs D Pp ++ (OW cJ ou (vp_updL of 0 (ns u)) ++ X)))) := hD
  refine lv_goto (tgt := 14) hx hb dL_neighbours_8 (by decide) ?_
  refine lv_iconst (v := (nI 0)) hx hb dL_neighbours_14 (by decide) ?_
  exact W.iret (v := (nI 0)) hx hb hr (fun t ht hW => ⟨⟨_, (), rfl, rfl, by rw [ht]; exact hP, hD⟩, hS.F ht⟩) hS.2.2 dL_neighbours_15

set_option maxHeartbeats 4000000 in
set_option maxRecDepth 100000 in
theorem h_rank (l : Launch) (dG : va_G) (cI cJ : ClassId) (A : Nat → Prop) (xo tl ts : Nat) (bt : Bool) (se : Nat) (g gA n ec : Nat) (ns : Nat → Int64) (lb aR aV aH aD aP : Nat) (rk vb : Nat → Int32) (rc : Int32) (hs : Nat → Int64) (D Pp : Nat → Int32) (ou : Nat) (of : Nat → Int64) (hn : n ≤ 48) (u : Nat) (hu : u < n) (hbt : bt = true) (X : va_W) : Met l yL_rank wsL_rank ({ frames := 5, cells := 0, slots := 0, locals := 106 } : Room) (WPc dG cI cJ [.ref xo, .int (nI u), .ref ou] (XW xo g lb se tl ts (bI bt) ++ (GW cJ g gA (nI n) (nI ec) ns ++ (LW cI cJ lb aR aV aH aD aP rk vb rc hs D Pp ++ (OW cJ ou of ++ X)))) A) (va_Qi (S := Unit) (fun r _ => r = nI 0) (fun _ => WB dG A (XW xo g lb se tl ts (bI bt) ++ (GW cJ g gA (nI n) (nI ec) ns ++ (LW cI cJ lb aR aV aH aD aP rk vb rc hs D Pp ++ (OW cJ ou (vp_updL of 0 ((rk u).toInt64)) ++ X))))) A) 0 0 A := by
  refine va_MetW (cc := cL_rank) (maxL := 4) (ret := (some .int)) (hh := [(0, 9, 12, 25), (0, 9, 15, 13)]) (by decide) rfl ?_
  intro p e s m args below meth c s₁ B9 hml hv
  obtain ⟨rfl, hP, hK, hD⟩ := hv
  have hx := B9.exec
  have hb := B9.bytes
  have hr := B9.returns
  have hts := atoms_spec (ws := wsL_rank) B9.pre
  have hown : s.vm.findClass RL = some m.cls := findClass_of_methodNamed B9.named
  have hlocks := B9.notSynchronized
  have hS : va_S A s.heap s.heap [] := va_S.rf
  have hl := lv_entry ([.ref xo, .int (nI u), .ref ou]) (n := 4) (Nat.le_of_ble_eq_true rfl)
  rw [lg_entry_eq]
  generalize (lg_sl ([.ref xo, .int (nI u), .ref ou]) ++ List.replicate (4 - (lg_sl ([.ref xo, .int (nI u), .ref ou])).length) Slot.unset).toArray = ls at hl ⊢
  have hl : lv_has ls 4 [(0, .ref xo), (1, .int (nI u)), (2, .ref ou)] := hl
  refine lv_aload_n hx hb dL_rank_0 rfl (lv_at hl 2 rfl) ?_
  refine lv_iconst (v := (nI 0)) hx hb dL_rank_1 (by decide) ?_
  refine lv_aload_n hx hb dL_rank_2 rfl (lv_at hl 0 rfl) ?_
  refine lv_iload_n hx hb dL_rank_3 rfl (lv_at hl 1 rfl) ?_
  have hPc := hP.sub (ws' := (XW xo g lb se tl ts (bI bt) ++ (GW cJ g gA (nI n) (nI ec) ns ++ (LW cI cJ lb aR aV aH aD aP rk vb rc hs D Pp)))) [0, 1, 2, 3, 4, 5, 6, 7, 8] rfl
  refine x_ri (W.runV (As := [.int (nI u)]) (rest := [.int (nI 0), .ref ou]) ⟨hx, hb, hml, hown, hts⟩ (c_rank l dG cI cJ xo tl ts bt se g gA n ec ns lb aR aV aH aD aP rk vb rc hs D Pp hn u hu hbt) (cwV 1 hts gL_rank_X3_rank rfl rfl rfl (by decide +kernel) ⟨Nat.le_of_ble_eq_true rfl, Nat.le_of_ble_eq_true rfl⟩) (RPc.pre hPc hK (va_recv hK.1 hPc (ci := 3) (q0 := 0) rfl rfl)) rfl rfl hl.1 rfl (lv_room (Nat.le_of_ble_eq_true rfl)) dL_rank_4 ⟨Nat.zero_le _, Nat.zero_le _⟩) ?_
  refine lv_i2l (v := (rk u).toInt64) hx hb dL_rank_7 rfl ?_
  refine x_last (f := of) hx hb hK hP hD hS 9 rfl (by omega) (by decide) dL_rank_8 (fun H locs hP hD hS => ?_)
  have hP : va_P dG vwCl (XW xo g lb se tl ts (bI bt) ++ (GW cJ g gA (nI n) (nI ec) ns ++ (LW cI cJ lb aR aV aH aD aP rk vb rc hs D Pp ++ (OW cJ ou (vp_updL of 0 ((rk u).toInt64)) ++ X)))) H := hP
  have hD : va_D A (XW xo g lb se tl ts (bI bt) ++ (GW cJ g gA (nI n) (nI ec) ns ++ (LW cI cJ lb aR aV aH aD aP rk vb rc hs D Pp ++ (OW cJ ou (vp_updL of 0 ((rk u).toInt64)) ++ X)))) := hD
  refine lv_goto (tgt := 18) hx hb dL_rank_9 (by decide) ?_
  refine lv_iconst (v := (nI 0)) hx hb dL_rank_18 (by decide) ?_
  exact W.iret (v := (nI 0)) hx hb hr (fun t ht hW => ⟨⟨_, (), rfl, rfl, by rw [ht]; exact hP, hD⟩, hS.F ht⟩) hS.2.2 dL_rank_19

set_option maxHeartbeats 4000000 in
set_option maxRecDepth 100000 in
theorem h_labelSize (l : Launch) (dG : va_G) (cI cJ : ClassId) (A : Nat → Prop) (xo tl ts : Nat) (bt : Bool) (se : Nat) (g gA n ec : Nat) (ns : Nat → Int64) (lb aR aV aH aD aP : Nat) (rk vb : Nat → Int32) (rc : Int32) (hs : Nat → Int64) (D Pp : Nat → Int32) (ou : Nat) (of : Nat → Int64) (hn : n ≤ 48) (L P : Nat → Nat → Option Nat) (hR : RepL L P hs D Pp) (u : Nat) (hu : u < n) (hbt : bt = true) (X : va_W) : Met l yL_labelSize wsL_labelSize ({ frames := 5, cells := 0, slots := 0, locals := 106 } : Room) (WPc dG cI cJ [.ref xo, .int (nI u), .ref ou] (XW xo g lb se tl ts (bI bt) ++ (GW cJ g gA (nI n) (nI ec) ns ++ (LW cI cJ lb aR aV aH aD aP rk vb rc hs D Pp ++ (OW cJ ou of ++ X)))) A) (va_Qi (S := Unit) (fun r _ => r = nI 0) (fun _ => WB dG A (XW xo g lb se tl ts (bI bt) ++ (GW cJ g gA (nI n) (nI ec) ns ++ (LW cI cJ lb aR aV aH aD aP rk vb rc hs D Pp ++ (OW cJ ou (vp_updL of 0 ((nI (lct L u)).toInt64)) ++ X))))) A) 0 0 A := by
  refine va_MetW (cc := cL_labelSize) (maxL := 4) (ret := (some .int)) (hh := [(0, 9, 12, 25), (0, 9, 15, 13)]) (by decide) rfl ?_
  intro p e s m args below meth c s₁ B9 hml hv
  obtain ⟨rfl, hP, hK, hD⟩ := hv
  have hx := B9.exec
  have hb := B9.bytes
  have hr := B9.returns
  have hts := atoms_spec (ws := wsL_labelSize) B9.pre
  have hown : s.vm.findClass RL = some m.cls := findClass_of_methodNamed B9.named
  have hlocks := B9.notSynchronized
  have hS : va_S A s.heap s.heap [] := va_S.rf
  have hl := lv_entry ([.ref xo, .int (nI u), .ref ou]) (n := 4) (Nat.le_of_ble_eq_true rfl)
  rw [lg_entry_eq]
  generalize (lg_sl ([.ref xo, .int (nI u), .ref ou]) ++ List.replicate (4 - (lg_sl ([.ref xo, .int (nI u), .ref ou])).length) Slot.unset).toArray = ls at hl ⊢
  have hl : lv_has ls 4 [(0, .ref xo), (1, .int (nI u)), (2, .ref ou)] := hl
  refine lv_aload_n hx hb dL_labelSize_0 rfl (lv_at hl 2 rfl) ?_
  refine lv_iconst (v := (nI 0)) hx hb dL_labelSize_1 (by decide) ?_
  refine lv_aload_n hx hb dL_labelSize_2 rfl (lv_at hl 0 rfl) ?_
  refine lv_iload_n hx hb dL_labelSize_3 rfl (lv_at hl 1 rfl) ?_
  have hPc := hP.sub (ws' := (XW xo g lb se tl ts (bI bt) ++ (GW cJ g gA (nI n) (nI ec) ns ++ (LW cI cJ lb aR aV aH aD aP rk vb rc hs D Pp)))) [0, 1, 2, 3, 4, 5, 6, 7, 8] rfl
  refine x_ri (W.runV (As := [.int (nI u)]) (rest := [.int (nI 0), .ref ou]) ⟨hx, hb, hml, hown, hts⟩ (c_labelSize l dG cI cJ xo tl ts bt se g gA n ec ns lb aR aV aH aD aP rk vb rc hs D Pp hn L P hR u hu hbt) (cwV 1 hts gL_labelSize_X3_labelSize rfl rfl rfl (by decide +kernel) ⟨Nat.le_of_ble_eq_true rfl, Nat.le_of_ble_eq_true rfl⟩) (RPc.pre hPc hK (va_recv hK.1 hPc (ci := 3) (q0 := 0) rfl rfl)) rfl rfl hl.1 rfl (lv_room (Nat.le_of_ble_eq_true rfl)) dL_labelSize_4 ⟨Nat.zero_le _, Nat.zero_le _⟩) ?_
  refine lv_i2l (v := (nI (lct L u)).toInt64) hx hb dL_labelSize_7 rfl ?_
  refine x_last (f := of) hx hb hK hP hD hS 9 rfl (by omega) (by decide) dL_labelSize_8 (fun H locs hP hD hS => ?_)
  have hP : va_P dG vwCl (XW xo g lb se tl ts (bI bt) ++ (GW cJ g gA (nI n) (nI ec) ns ++ (LW cI cJ lb aR aV aH aD aP rk vb rc hs D Pp ++ (OW cJ ou (vp_updL of 0 ((nI (lct L u)).toInt64)) ++ X)))) H := hP
  have hD : va_D A (XW xo g lb se tl ts (bI bt) ++ (GW cJ g gA (nI n) (nI ec) ns ++ (LW cI cJ lb aR aV aH aD aP rk vb rc hs D Pp ++ (OW cJ ou (vp_updL of 0 ((nI (lct L u)).toInt64)) ++ X)))) := hD
  refine lv_goto (tgt := 18) hx hb dL_labelSize_9 (by decide) ?_
  refine lv_iconst (v := (nI 0)) hx hb dL_labelSize_18 (by decide) ?_
  exact W.iret (v := (nI 0)) hx hb hr (fun t ht hW => ⟨⟨_, (), rfl, rfl, by rw [ht]; exact hP, hD⟩, hS.F ht⟩) hS.2.2 dL_labelSize_19

set_option maxHeartbeats 4000000 in
set_option maxRecDepth 100000 in
theorem h_entryHub (l : Launch) (dG : va_G) (cI cJ : ClassId) (A : Nat → Prop) (xo tl ts : Nat) (bt : Bool) (se : Nat) (g gA n ec : Nat) (ns : Nat → Int64) (lb aR aV aH aD aP : Nat) (rk vb : Nat → Int32) (rc : Int32) (hs : Nat → Int64) (D Pp : Nat → Int32) (ou : Nat) (of : Nat → Int64) (hn : n ≤ 48) (L P : Nat → Nat → Option Nat) (hR : RepL L P hs D Pp) (u : Nat) (hu : u < n) (hbt : bt = true) (e0 r : Nat) (he : e0 < lct L u) (he2 : e0 < 2 ^ 31) (hc : lct L u < 2 ^ 31) (hr0 : r < 48) (hq : (L u r).isSome = true) (hce : fb_ct (fun k => (L u k).isSome) r = e0) (X : va_W) : Met l yL_entryHub wsL_entryHub ({ frames := 5, cells := 0, slots := 0, locals := 107 } : Room) (WPc dG cI cJ [.ref xo, .int (nI u), .int (nI e0), .ref ou] (XW xo g lb se tl ts (bI bt) ++ (GW cJ g gA (nI n) (nI ec) ns ++ (LW cI cJ lb aR aV aH aD aP rk vb rc hs D Pp ++ (OW cJ ou of ++ X)))) A) (va_Qi (S := Unit) (fun r _ => r = nI 0) (fun _ => WB dG A (XW xo g lb se tl ts (bI bt) ++ (GW cJ g gA (nI n) (nI ec) ns ++ (LW cI cJ lb aR aV aH aD aP rk vb rc hs D Pp ++ (OW cJ ou (vp_updL of 0 ((vb r).toInt64)) ++ X))))) A) 0 0 A := by
  refine va_MetW (cc := cL_entryHub) (maxL := 5) (ret := (some .int)) (hh := [(0, 10, 13, 25), (0, 10, 17, 13), (0, 10, 21, 19)]) (by decide) rfl ?_
  intro p e s m args below meth c s₁ B9 hml hv
  obtain ⟨rfl, hP, hK, hD⟩ := hv
  have hx := B9.exec
  have hb := B9.bytes
  have hr := B9.returns
  have hts := atoms_spec (ws := wsL_entryHub) B9.pre
  have hown : s.vm.findClass RL = some m.cls := findClass_of_methodNamed B9.named
  have hlocks := B9.notSynchronized
  have hS : va_S A s.heap s.heap [] := va_S.rf
  have hl := lv_entry ([.ref xo, .int (nI u), .int (nI e0), .ref ou]) (n := 5) (Nat.le_of_ble_eq_true rfl)
  rw [lg_entry_eq]
  generalize (lg_sl ([.ref xo, .int (nI u), .int (nI e0), .ref ou]) ++ List.replicate (5 - (lg_sl ([.ref xo, .int (nI u), .int (nI e0), .ref ou])).length) Slot.unset).toArray = ls at hl ⊢
  have hl : lv_has ls 5 [(0, .ref xo), (1, .int (nI u)), (2, .int (nI e0)), (3, .ref ou)] := hl
  refine lv_aload_n hx hb dL_entryHub_0 rfl (lv_at hl 3 rfl) ?_
  refine lv_iconst (v := (nI 0)) hx hb dL_entryHub_1 (by decide) ?_
  refine lv_aload_n hx hb dL_entryHub_2 rfl (lv_at hl 0 rfl) ?_
  refine lv_iload_n hx hb dL_entryHub_3 rfl (lv_at hl 1 rfl) ?_
  refine lv_iload_n hx hb dL_entryHub_4 rfl (lv_at hl 2 rfl) ?_
  have hPc := hP.sub (ws' := (XW xo g lb se tl ts (bI bt) ++ (GW cJ g gA (nI n) (nI ec) ns ++ (LW cI cJ lb aR aV aH aD aP rk vb rc hs D Pp)))) [0, 1, 2, 3, 4, 5, 6, 7, 8] rfl
  refine x_ri (W.runV (As := [.int (nI u), .int (nI e0)]) (rest := [.int (nI 0), .ref ou]) ⟨hx, hb, hml, hown, hts⟩ (c_entryHub l dG cI cJ xo tl ts bt se g gA n ec ns lb aR aV aH aD aP rk vb rc hs D Pp hn L P hR u hu hbt e0 r he he2 hc hr0 hq hce) (cwV 2 hts gL_entryHub_X3_entryHub rfl rfl rfl (by decide +kernel) ⟨Nat.le_of_ble_eq_true rfl, Nat.le_of_ble_eq_true rfl⟩) (RPc.pre hPc hK (va_recv hK.1 hPc (ci := 3) (q0 := 0) rfl rfl)) rfl rfl hl.1 rfl (lv_room (Nat.le_of_ble_eq_true rfl)) dL_entryHub_5 ⟨Nat.zero_le _, Nat.zero_le _⟩) ?_
  refine lv_i2l (v := (vb r).toInt64) hx hb dL_entryHub_8 rfl ?_
  refine x_last (f := of) hx hb hK hP hD hS 9 rfl (by omega) (by decide) dL_entryHub_9 (fun H locs hP hD hS => ?_)
  have hP : va_P dG vwCl (XW xo g lb se tl ts (bI bt) ++ (GW cJ g gA (nI n) (nI ec) ns ++ (LW cI cJ lb aR aV aH aD aP rk vb rc hs D Pp ++ (OW cJ ou (vp_updL of 0 ((vb r).toInt64)) ++ X)))) H := hP
  have hD : va_D A (XW xo g lb se tl ts (bI bt) ++ (GW cJ g gA (nI n) (nI ec) ns ++ (LW cI cJ lb aR aV aH aD aP rk vb rc hs D Pp ++ (OW cJ ou (vp_updL of 0 ((vb r).toInt64)) ++ X)))) := hD
  refine lv_goto (tgt := 25) hx hb dL_entryHub_10 (by decide) ?_
  refine lv_iconst (v := (nI 0)) hx hb dL_entryHub_25 (by decide) ?_
  exact W.iret (v := (nI 0)) hx hb hr (fun t ht hW => ⟨⟨_, (), rfl, rfl, by rw [ht]; exact hP, hD⟩, hS.F ht⟩) hS.2.2 dL_entryHub_26

set_option maxHeartbeats 4000000 in
set_option maxRecDepth 100000 in
theorem h_entryDistance (l : Launch) (dG : va_G) (cI cJ : ClassId) (A : Nat → Prop) (xo tl ts : Nat) (bt : Bool) (se : Nat) (g gA n ec : Nat) (ns : Nat → Int64) (lb aR aV aH aD aP : Nat) (rk vb : Nat → Int32) (rc : Int32) (hs : Nat → Int64) (D Pp : Nat → Int32) (ou : Nat) (of : Nat → Int64) (hn : n ≤ 48) (L P : Nat → Nat → Option Nat) (hR : RepL L P hs D Pp) (u : Nat) (hu : u < n) (hbt : bt = true) (e0 r : Nat) (he : e0 < lct L u) (he2 : e0 < 2 ^ 31) (hc : lct L u < 2 ^ 31) (hr0 : r < 48) (hq : (L u r).isSome = true) (hce : fb_ct (fun k => (L u k).isSome) r = e0) (X : va_W) : Met l yL_entryDistance wsL_entryDistance ({ frames := 5, cells := 0, slots := 0, locals := 107 } : Room) (WPc dG cI cJ [.ref xo, .int (nI u), .int (nI e0), .ref ou] (XW xo g lb se tl ts (bI bt) ++ (GW cJ g gA (nI n) (nI ec) ns ++ (LW cI cJ lb aR aV aH aD aP rk vb rc hs D Pp ++ (OW cJ ou of ++ X)))) A) (va_Qi (S := Unit) (fun r _ => r = nI 0) (fun _ => WB dG A (XW xo g lb se tl ts (bI bt) ++ (GW cJ g gA (nI n) (nI ec) ns ++ (LW cI cJ lb aR aV aH aD aP rk vb rc hs D Pp ++ (OW cJ ou (vp_updL of 0 ((eN (L u r)).toInt64)) ++ X))))) A) 0 0 A := by
  refine va_MetW (cc := cL_entryDistance) (maxL := 5) (ret := (some .int)) (hh := [(0, 10, 13, 25), (0, 10, 17, 13), (0, 10, 21, 19)]) (by decide) rfl ?_
  intro p e s m args below meth c s₁ B9 hml hv
  obtain ⟨rfl, hP, hK, hD⟩ := hv
  have hx := B9.exec
  have hb := B9.bytes
  have hr := B9.returns
  have hts := atoms_spec (ws := wsL_entryDistance) B9.pre
  have hown : s.vm.findClass RL = some m.cls := findClass_of_methodNamed B9.named
  have hlocks := B9.notSynchronized
  have hS : va_S A s.heap s.heap [] := va_S.rf
  have hl := lv_entry ([.ref xo, .int (nI u), .int (nI e0), .ref ou]) (n := 5) (Nat.le_of_ble_eq_true rfl)
  rw [lg_entry_eq]
  generalize (lg_sl ([.ref xo, .int (nI u), .int (nI e0), .ref ou]) ++ List.replicate (5 - (lg_sl ([.ref xo, .int (nI u), .int (nI e0), .ref ou])).length) Slot.unset).toArray = ls at hl ⊢
  have hl : lv_has ls 5 [(0, .ref xo), (1, .int (nI u)), (2, .int (nI e0)), (3, .ref ou)] := hl
  refine lv_aload_n hx hb dL_entryDistance_0 rfl (lv_at hl 3 rfl) ?_
  refine lv_iconst (v := (nI 0)) hx hb dL_entryDistance_1 (by decide) ?_
  refine lv_aload_n hx hb dL_entryDistance_2 rfl (lv_at hl 0 rfl) ?_
  refine lv_iload_n hx hb dL_entryDistance_3 rfl (lv_at hl 1 rfl) ?_
  refine lv_iload_n hx hb dL_entryDistance_4 rfl (lv_at hl 2 rfl) ?_
  have hPc := hP.sub (ws' := (XW xo g lb se tl ts (bI bt) ++ (GW cJ g gA (nI n) (nI ec) ns ++ (LW cI cJ lb aR aV aH aD aP rk vb rc hs D Pp)))) [0, 1, 2, 3, 4, 5, 6, 7, 8] rfl
  refine x_ri (W.runV (As := [.int (nI u), .int (nI e0)]) (rest := [.int (nI 0), .ref ou]) ⟨hx, hb, hml, hown, hts⟩ (c_entryDistance l dG cI cJ xo tl ts bt se g gA n ec ns lb aR aV aH aD aP rk vb rc hs D Pp hn L P hR u hu hbt e0 r he he2 hc hr0 hq hce) (cwV 2 hts gL_entryDistance_X3_entryDistance rfl rfl rfl (by decide +kernel) ⟨Nat.le_of_ble_eq_true rfl, Nat.le_of_ble_eq_true rfl⟩) (RPc.pre hPc hK (va_recv hK.1 hPc (ci := 3) (q0 := 0) rfl rfl)) rfl rfl hl.1 rfl (lv_room (Nat.le_of_ble_eq_true rfl)) dL_entryDistance_5 ⟨Nat.zero_le _, Nat.zero_le _⟩) ?_
  refine lv_i2l (v := (eN (L u r)).toInt64) hx hb dL_entryDistance_8 rfl ?_
  refine x_last (f := of) hx hb hK hP hD hS 9 rfl (by omega) (by decide) dL_entryDistance_9 (fun H locs hP hD hS => ?_)
  have hP : va_P dG vwCl (XW xo g lb se tl ts (bI bt) ++ (GW cJ g gA (nI n) (nI ec) ns ++ (LW cI cJ lb aR aV aH aD aP rk vb rc hs D Pp ++ (OW cJ ou (vp_updL of 0 ((eN (L u r)).toInt64)) ++ X)))) H := hP
  have hD : va_D A (XW xo g lb se tl ts (bI bt) ++ (GW cJ g gA (nI n) (nI ec) ns ++ (LW cI cJ lb aR aV aH aD aP rk vb rc hs D Pp ++ (OW cJ ou (vp_updL of 0 ((eN (L u r)).toInt64)) ++ X)))) := hD
  refine lv_goto (tgt := 25) hx hb dL_entryDistance_10 (by decide) ?_
  refine lv_iconst (v := (nI 0)) hx hb dL_entryDistance_25 (by decide) ?_
  exact W.iret (v := (nI 0)) hx hb hr (fun t ht hW => ⟨⟨_, (), rfl, rfl, by rw [ht]; exact hP, hD⟩, hS.F ht⟩) hS.2.2 dL_entryDistance_26

set_option maxHeartbeats 4000000 in
set_option maxRecDepth 100000 in
theorem h_entryParent (l : Launch) (dG : va_G) (cI cJ : ClassId) (A : Nat → Prop) (xo tl ts : Nat) (bt : Bool) (se : Nat) (g gA n ec : Nat) (ns : Nat → Int64) (lb aR aV aH aD aP : Nat) (rk vb : Nat → Int32) (rc : Int32) (hs : Nat → Int64) (D Pp : Nat → Int32) (ou : Nat) (of : Nat → Int64) (hn : n ≤ 48) (L P : Nat → Nat → Option Nat) (hR : RepL L P hs D Pp) (u : Nat) (hu : u < n) (hbt : bt = true) (e0 r : Nat) (he : e0 < lct L u) (he2 : e0 < 2 ^ 31) (hc : lct L u < 2 ^ 31) (hr0 : r < 48) (hq : (L u r).isSome = true) (hce : fb_ct (fun k => (L u k).isSome) r = e0) (X : va_W) : Met l yL_entryParent wsL_entryParent ({ frames := 5, cells := 0, slots := 0, locals := 107 } : Room) (WPc dG cI cJ [.ref xo, .int (nI u), .int (nI e0), .ref ou] (XW xo g lb se tl ts (bI bt) ++ (GW cJ g gA (nI n) (nI ec) ns ++ (LW cI cJ lb aR aV aH aD aP rk vb rc hs D Pp ++ (OW cJ ou of ++ X)))) A) (va_Qi (S := Unit) (fun r _ => r = nI 0) (fun _ => WB dG A (XW xo g lb se tl ts (bI bt) ++ (GW cJ g gA (nI n) (nI ec) ns ++ (LW cI cJ lb aR aV aH aD aP rk vb rc hs D Pp ++ (OW cJ ou (vp_updL of 0 ((eN (P u r)).toInt64)) ++ X))))) A) 0 0 A := by
  refine va_MetW (cc := cL_entryParent) (maxL := 5) (ret := (some .int)) (hh := [(0, 10, 13, 25), (0, 10, 17, 13), (0, 10, 21, 19)]) (by decide) rfl ?_
  intro p e s m args below meth c s₁ B9 hml hv
  obtain ⟨rfl, hP, hK, hD⟩ := hv
  have hx := B9.exec
  have hb := B9.bytes
  have hr := B9.returns
  have hts := atoms_spec (ws := wsL_entryParent) B9.pre
  have hown : s.vm.findClass RL = some m.cls := findClass_of_methodNamed B9.named
  have hlocks := B9.notSynchronized
  have hS : va_S A s.heap s.heap [] := va_S.rf
  have hl := lv_entry ([.ref xo, .int (nI u), .int (nI e0), .ref ou]) (n := 5) (Nat.le_of_ble_eq_true rfl)
  rw [lg_entry_eq]
  generalize (lg_sl ([.ref xo, .int (nI u), .int (nI e0), .ref ou]) ++ List.replicate (5 - (lg_sl ([.ref xo, .int (nI u), .int (nI e0), .ref ou])).length) Slot.unset).toArray = ls at hl ⊢
  have hl : lv_has ls 5 [(0, .ref xo), (1, .int (nI u)), (2, .int (nI e0)), (3, .ref ou)] := hl
  refine lv_aload_n hx hb dL_entryParent_0 rfl (lv_at hl 3 rfl) ?_
  refine lv_iconst (v := (nI 0)) hx hb dL_entryParent_1 (by decide) ?_
  refine lv_aload_n hx hb dL_entryParent_2 rfl (lv_at hl 0 rfl) ?_
  refine lv_iload_n hx hb dL_entryParent_3 rfl (lv_at hl 1 rfl) ?_
  refine lv_iload_n hx hb dL_entryParent_4 rfl (lv_at hl 2 rfl) ?_
  have hPc := hP.sub (ws' := (XW xo g lb se tl ts (bI bt) ++ (GW cJ g gA (nI n) (nI ec) ns ++ (LW cI cJ lb aR aV aH aD aP rk vb rc hs D Pp)))) [0, 1, 2, 3, 4, 5, 6, 7, 8] rfl
  refine x_ri (W.runV (As := [.int (nI u), .int (nI e0)]) (rest := [.int (nI 0), .ref ou]) ⟨hx, hb, hml, hown, hts⟩ (c_entryParent l dG cI cJ xo tl ts bt se g gA n ec ns lb aR aV aH aD aP rk vb rc hs D Pp hn L P hR u hu hbt e0 r he he2 hc hr0 hq hce) (cwV 2 hts gL_entryParent_X3_entryParent rfl rfl rfl (by decide +kernel) ⟨Nat.le_of_ble_eq_true rfl, Nat.le_of_ble_eq_true rfl⟩) (RPc.pre hPc hK (va_recv hK.1 hPc (ci := 3) (q0 := 0) rfl rfl)) rfl rfl hl.1 rfl (lv_room (Nat.le_of_ble_eq_true rfl)) dL_entryParent_5 ⟨Nat.zero_le _, Nat.zero_le _⟩) ?_
  refine lv_i2l (v := (eN (P u r)).toInt64) hx hb dL_entryParent_8 rfl ?_
  refine x_last (f := of) hx hb hK hP hD hS 9 rfl (by omega) (by decide) dL_entryParent_9 (fun H locs hP hD hS => ?_)
  have hP : va_P dG vwCl (XW xo g lb se tl ts (bI bt) ++ (GW cJ g gA (nI n) (nI ec) ns ++ (LW cI cJ lb aR aV aH aD aP rk vb rc hs D Pp ++ (OW cJ ou (vp_updL of 0 ((eN (P u r)).toInt64)) ++ X)))) H := hP
  have hD : va_D A (XW xo g lb se tl ts (bI bt) ++ (GW cJ g gA (nI n) (nI ec) ns ++ (LW cI cJ lb aR aV aH aD aP rk vb rc hs D Pp ++ (OW cJ ou (vp_updL of 0 ((eN (P u r)).toInt64)) ++ X)))) := hD
  refine lv_goto (tgt := 25) hx hb dL_entryParent_10 (by decide) ?_
  refine lv_iconst (v := (nI 0)) hx hb dL_entryParent_25 (by decide) ?_
  exact W.iret (v := (nI 0)) hx hb hr (fun t ht hW => ⟨⟨_, (), rfl, rfl, by rw [ht]; exact hP, hD⟩, hS.F ht⟩) hS.2.2 dL_entryParent_26

set_option maxHeartbeats 4000000 in
set_option maxRecDepth 100000 in
theorem h_distance (l : Launch) (dG : va_G) (cI cJ : ClassId) (A : Nat → Prop) (xo tl ts : Nat) (bt : Bool) (se : Nat) (g gA n ec : Nat) (ns : Nat → Int64) (lb aR aV aH aD aP : Nat) (rk vb : Nat → Int32) (rc : Int32) (hs : Nat → Int64) (D Pp : Nat → Int32) (ou : Nat) (of : Nat → Int64) (hn : n ≤ 48) (L P : Nat → Nat → Option Nat) (hR : RepL L P hs D Pp) (hB : LBd L (2 ^ 30)) (u v : Nat) (hu : u < n) (hv : v < n) (hbt : bt = true) (X : va_W) : Met l yL_distance wsL_distance ({ frames := 5, cells := 0, slots := 0, locals := 114 } : Room) (WPc dG cI cJ [.ref xo, .int (nI u), .int (nI v), .ref ou] (XW xo g lb se tl ts (bI bt) ++ (GW cJ g gA (nI n) (nI ec) ns ++ (LW cI cJ lb aR aV aH aD aP rk vb rc hs D Pp ++ (OW cJ ou of ++ X)))) A) (va_Qi (S := Unit) (fun r _ => r = nI 0) (fun _ => WB dG A (XW xo g lb se tl ts (bI bt) ++ (GW cJ g gA (nI n) (nI ec) ns ++ (LW cI cJ lb aR aV aH aD aP rk vb rc hs D Pp ++ (OW cJ ou (vp_updL of 0 ((eN (es L u v 48)).toInt64)) ++ X))))) A) 0 0 A := by
  refine va_MetW (cc := cL_distance) (maxL := 5) (ret := (some .int)) (hh := [(0, 10, 13, 25), (0, 10, 17, 13)]) (by decide) rfl ?_
  intro p e s m args below meth c s₁ B9 hml hv
  obtain ⟨rfl, hP, hK, hD⟩ := hv
  have hx := B9.exec
  have hb := B9.bytes
  have hr := B9.returns
  have hts := atoms_spec (ws := wsL_distance) B9.pre
  have hown : s.vm.findClass RL = some m.cls := findClass_of_methodNamed B9.named
  have hlocks := B9.notSynchronized
  have hS : va_S A s.heap s.heap [] := va_S.rf
  have hl := lv_entry ([.ref xo, .int (nI u), .int (nI v), .ref ou]) (n := 5) (Nat.le_of_ble_eq_true rfl)
  rw [lg_entry_eq]
  generalize (lg_sl ([.ref xo, .int (nI u), .int (nI v), .ref ou]) ++ List.replicate (5 - (lg_sl ([.ref xo, .int (nI u), .int (nI v), .ref ou])).length) Slot.unset).toArray = ls at hl ⊢
  have hl : lv_has ls 5 [(0, .ref xo), (1, .int (nI u)), (2, .int (nI v)), (3, .ref ou)] := hl
  refine lv_aload_n hx hb dL_distance_0 rfl (lv_at hl 3 rfl) ?_
  refine lv_iconst (v := (nI 0)) hx hb dL_distance_1 (by decide) ?_
  refine lv_aload_n hx hb dL_distance_2 rfl (lv_at hl 0 rfl) ?_
  refine lv_iload_n hx hb dL_distance_3 rfl (lv_at hl 1 rfl) ?_
  refine lv_iload_n hx hb dL_distance_4 rfl (lv_at hl 2 rfl) ?_
  have hPc := hP.sub (ws' := (XW xo g lb se tl ts (bI bt) ++ (GW cJ g gA (nI n) (nI ec) ns ++ (LW cI cJ lb aR aV aH aD aP rk vb rc hs D Pp)))) [0, 1, 2, 3, 4, 5, 6, 7, 8] rfl
  refine x_ri (W.runV (As := [.int (nI u), .int (nI v)]) (rest := [.int (nI 0), .ref ou]) ⟨hx, hb, hml, hown, hts⟩ (c_distance l dG cI cJ xo tl ts bt se g gA n ec ns lb aR aV aH aD aP rk vb rc hs D Pp hn L P hR hB u v hu hv hbt) (cwV 2 hts gL_distance_X3_distance rfl rfl rfl (by decide +kernel) ⟨Nat.le_of_ble_eq_true rfl, Nat.le_of_ble_eq_true rfl⟩) (RPc.pre hPc hK (va_recv hK.1 hPc (ci := 3) (q0 := 0) rfl rfl)) rfl rfl hl.1 rfl (lv_room (Nat.le_of_ble_eq_true rfl)) dL_distance_5 ⟨Nat.zero_le _, Nat.zero_le _⟩) ?_
  refine lv_i2l (v := (eN (es L u v 48)).toInt64) hx hb dL_distance_8 rfl ?_
  refine x_last (f := of) hx hb hK hP hD hS 9 rfl (by omega) (by decide) dL_distance_9 (fun H locs hP hD hS => ?_)
  have hP : va_P dG vwCl (XW xo g lb se tl ts (bI bt) ++ (GW cJ g gA (nI n) (nI ec) ns ++ (LW cI cJ lb aR aV aH aD aP rk vb rc hs D Pp ++ (OW cJ ou (vp_updL of 0 ((eN (es L u v 48)).toInt64)) ++ X)))) H := hP
  have hD : va_D A (XW xo g lb se tl ts (bI bt) ++ (GW cJ g gA (nI n) (nI ec) ns ++ (LW cI cJ lb aR aV aH aD aP rk vb rc hs D Pp ++ (OW cJ ou (vp_updL of 0 ((eN (es L u v 48)).toInt64)) ++ X)))) := hD
  refine lv_goto (tgt := 21) hx hb dL_distance_10 (by decide) ?_
  refine lv_iconst (v := (nI 0)) hx hb dL_distance_21 (by decide) ?_
  exact W.iret (v := (nI 0)) hx hb hr (fun t ht hW => ⟨⟨_, (), rfl, rfl, by rw [ht]; exact hP, hD⟩, hS.F ht⟩) hS.2.2 dL_distance_22

set_option maxHeartbeats 4000000 in
set_option maxRecDepth 100000 in
theorem h_hubN (l : Launch) (dG : va_G) (cI cJ : ClassId) (A : Nat → Prop) (xo tl ts : Nat) (bt : Bool) (se : Nat) (g gA n ec : Nat) (ns : Nat → Int64) (lb aR aV aH aD aP : Nat) (rk vb : Nat → Int32) (rc : Int32) (hs : Nat → Int64) (D Pp : Nat → Int32) (ou : Nat) (of : Nat → Int64) (hn : n ≤ 48) (L P : Nat → Nat → Option Nat) (hR : RepL L P hs D Pp) (hB : LBd L (2 ^ 30)) (u v : Nat) (hu : u < n) (hv : v < n) (hbt : bt = true) (hm : mr L u v 48 = none) (X : va_W) : Met l yL_hub wsL_hub ({ frames := 4, cells := 0, slots := 0, locals := 91 } : Room) (WPc dG cI cJ [.ref xo, .int (nI u), .int (nI v), .ref ou] (XW xo g lb se tl ts (bI bt) ++ (GW cJ g gA (nI n) (nI ec) ns ++ (LW cI cJ lb aR aV aH aD aP rk vb rc hs D Pp ++ (OW cJ ou of ++ X)))) A) (va_Qi (S := Unit) (fun r _ => r = nI 0) (fun _ => WB dG A (XW xo g lb se tl ts (bI bt) ++ (GW cJ g gA (nI n) (nI ec) ns ++ (LW cI cJ lb aR aV aH aD aP rk vb rc hs D Pp ++ (OW cJ ou (vp_updL of 0 ((-1).toInt64)) ++ X))))) A) 0 0 A := by
  refine va_MetW (cc := cL_hub) (maxL := 5) (ret := (some .int)) (hh := [(0, 10, 13, 25), (0, 10, 17, 13)]) (by decide) rfl ?_
  intro p e s m args below meth c s₁ B9 hml hv
  obtain ⟨rfl, hP, hK, hD⟩ := hv
  have hx := B9.exec
  have hb := B9.bytes
  have hr := B9.returns
  have hts := atoms_spec (ws := wsL_hub) B9.pre
  have hown : s.vm.findClass RL = some m.cls := findClass_of_methodNamed B9.named
  have hlocks := B9.notSynchronized
  have hS : va_S A s.heap s.heap [] := va_S.rf
  have hl := lv_entry ([.ref xo, .int (nI u), .int (nI v), .ref ou]) (n := 5) (Nat.le_of_ble_eq_true rfl)
  rw [lg_entry_eq]
  generalize (lg_sl ([.ref xo, .int (nI u), .int (nI v), .ref ou]) ++ List.replicate (5 - (lg_sl ([.ref xo, .int (nI u), .int (nI v), .ref ou])).length) Slot.unset).toArray = ls at hl ⊢
  have hl : lv_has ls 5 [(0, .ref xo), (1, .int (nI u)), (2, .int (nI v)), (3, .ref ou)] := hl
  refine lv_aload_n hx hb dL_hub_0 rfl (lv_at hl 3 rfl) ?_
  refine lv_iconst (v := (nI 0)) hx hb dL_hub_1 (by decide) ?_
  refine lv_aload_n hx hb dL_hub_2 rfl (lv_at hl 0 rfl) ?_
  refine lv_iload_n hx hb dL_hub_3 rfl (lv_at hl 1 rfl) ?_
  refine lv_iload_n hx hb dL_hub_4 rfl (lv_at hl 2 rfl) ?_
  have hPc := hP.sub (ws' := (XW xo g lb se tl ts (bI bt) ++ (GW cJ g gA (nI n) (nI ec) ns ++ (LW cI cJ lb aR aV aH aD aP rk vb rc hs D Pp)))) [0, 1, 2, 3, 4, 5, 6, 7, 8] rfl
  refine x_ri (W.runV (As := [.int (nI u), .int (nI v)]) (rest := [.int (nI 0), .ref ou]) ⟨hx, hb, hml, hown, hts⟩ (c_hubN l dG cI cJ xo tl ts bt se g gA n ec ns lb aR aV aH aD aP rk vb rc hs D Pp hn L P hR hB u v hu hv hbt hm) (cwV 2 hts gL_hub_X3_hub rfl rfl rfl (by decide +kernel) ⟨Nat.le_of_ble_eq_true rfl, Nat.le_of_ble_eq_true rfl⟩) (RPc.pre hPc hK (va_recv hK.1 hPc (ci := 3) (q0 := 0) rfl rfl)) rfl rfl hl.1 rfl (lv_room (Nat.le_of_ble_eq_true rfl)) dL_hub_5 ⟨Nat.zero_le _, Nat.zero_le _⟩) ?_
  refine lv_i2l (v := (-1).toInt64) hx hb dL_hub_8 rfl ?_
  refine x_last (f := of) hx hb hK hP hD hS 9 rfl (by omega) (by decide) dL_hub_9 (fun H locs hP hD hS => ?_)
  have hP : va_P dG vwCl (XW xo g lb se tl ts (bI bt) ++ (GW cJ g gA (nI n) (nI ec) ns ++ (LW cI cJ lb aR aV aH aD aP rk vb rc hs D Pp ++ (OW cJ ou (vp_updL of 0 ((-1).toInt64)) ++ X)))) H := hP
  have hD : va_D A (XW xo g lb se tl ts (bI bt) ++ (GW cJ g gA (nI n) (nI ec) ns ++ (LW cI cJ lb aR aV aH aD aP rk vb rc hs D Pp ++ (OW cJ ou (vp_updL of 0 ((-1).toInt64)) ++ X)))) := hD
  refine lv_goto (tgt := 21) hx hb dL_hub_10 (by decide) ?_
  refine lv_iconst (v := (nI 0)) hx hb dL_hub_21 (by decide) ?_
  exact W.iret (v := (nI 0)) hx hb hr (fun t ht hW => ⟨⟨_, (), rfl, rfl, by rw [ht]; exact hP, hD⟩, hS.F ht⟩) hS.2.2 dL_hub_22

set_option maxHeartbeats 4000000 in
set_option maxRecDepth 100000 in
theorem h_hub (l : Launch) (dG : va_G) (cI cJ : ClassId) (A : Nat → Prop) (xo tl ts : Nat) (bt : Bool) (se : Nat) (g gA n ec : Nat) (ns : Nat → Int64) (lb aR aV aH aD aP : Nat) (rk vb : Nat → Int32) (rc : Int32) (hs : Nat → Int64) (D Pp : Nat → Int32) (ou : Nat) (of : Nat → Int64) (hn : n ≤ 48) (L P : Nat → Nat → Option Nat) (hR : RepL L P hs D Pp) (hB : LBd L (2 ^ 30)) (u v : Nat) (hu : u < n) (hv : v < n) (hbt : bt = true) (r : Nat) (hr0 : r < 48) (hm : mr L u v 48 = some r) (X : va_W) : Met l yL_hub wsL_hub ({ frames := 4, cells := 0, slots := 0, locals := 91 } : Room) (WPc dG cI cJ [.ref xo, .int (nI u), .int (nI v), .ref ou] (XW xo g lb se tl ts (bI bt) ++ (GW cJ g gA (nI n) (nI ec) ns ++ (LW cI cJ lb aR aV aH aD aP rk vb rc hs D Pp ++ (OW cJ ou of ++ X)))) A) (va_Qi (S := Unit) (fun r _ => r = nI 0) (fun _ => WB dG A (XW xo g lb se tl ts (bI bt) ++ (GW cJ g gA (nI n) (nI ec) ns ++ (LW cI cJ lb aR aV aH aD aP rk vb rc hs D Pp ++ (OW cJ ou (vp_updL of 0 ((vb r).toInt64)) ++ X))))) A) 0 0 A := by
  refine va_MetW (cc := cL_hub) (maxL := 5) (ret := (some .int)) (hh := [(0, 10, 13, 25), (0, 10, 17, 13)]) (by decide) rfl ?_
  intro p e s m args below meth c s₁ B9 hml hv
  obtain ⟨rfl, hP, hK, hD⟩ := hv
  have hx := B9.exec
  have hb := B9.bytes
  have hr := B9.returns
  have hts := atoms_spec (ws := wsL_hub) B9.pre
  have hown : s.vm.findClass RL = some m.cls := findClass_of_methodNamed B9.named
  have hlocks := B9.notSynchronized
  have hS : va_S A s.heap s.heap [] := va_S.rf
  have hl := lv_entry ([.ref xo, .int (nI u), .int (nI v), .ref ou]) (n := 5) (Nat.le_of_ble_eq_true rfl)
  rw [lg_entry_eq]
  generalize (lg_sl ([.ref xo, .int (nI u), .int (nI v), .ref ou]) ++ List.replicate (5 - (lg_sl ([.ref xo, .int (nI u), .int (nI v), .ref ou])).length) Slot.unset).toArray = ls at hl ⊢
  have hl : lv_has ls 5 [(0, .ref xo), (1, .int (nI u)), (2, .int (nI v)), (3, .ref ou)] := hl
  refine lv_aload_n hx hb dL_hub_0 rfl (lv_at hl 3 rfl) ?_
  refine lv_iconst (v := (nI 0)) hx hb dL_hub_1 (by decide) ?_
  refine lv_aload_n hx hb dL_hub_2 rfl (lv_at hl 0 rfl) ?_
  refine lv_iload_n hx hb dL_hub_3 rfl (lv_at hl 1 rfl) ?_
  refine lv_iload_n hx hb dL_hub_4 rfl (lv_at hl 2 rfl) ?_
  have hPc := hP.sub (ws' := (XW xo g lb se tl ts (bI bt) ++ (GW cJ g gA (nI n) (nI ec) ns ++ (LW cI cJ lb aR aV aH aD aP rk vb rc hs D Pp)))) [0, 1, 2, 3, 4, 5, 6, 7, 8] rfl
  refine x_ri (W.runV (As := [.int (nI u), .int (nI v)]) (rest := [.int (nI 0), .ref ou]) ⟨hx, hb, hml, hown, hts⟩ (c_hub l dG cI cJ xo tl ts bt se g gA n ec ns lb aR aV aH aD aP rk vb rc hs D Pp hn L P hR hB u v hu hv hbt r hr0 hm) (cwV 2 hts gL_hub_X3_hub rfl rfl rfl (by decide +kernel) ⟨Nat.le_of_ble_eq_true rfl, Nat.le_of_ble_eq_true rfl⟩) (RPc.pre hPc hK (va_recv hK.1 hPc (ci := 3) (q0 := 0) rfl rfl)) rfl rfl hl.1 rfl (lv_room (Nat.le_of_ble_eq_true rfl)) dL_hub_5 ⟨Nat.zero_le _, Nat.zero_le _⟩) ?_
  refine lv_i2l (v := (vb r).toInt64) hx hb dL_hub_8 rfl ?_
  refine x_last (f := of) hx hb hK hP hD hS 9 rfl (by omega) (by decide) dL_hub_9 (fun H locs hP hD hS => ?_)
  have hP : va_P dG vwCl (XW xo g lb se tl ts (bI bt) ++ (GW cJ g gA (nI n) (nI ec) ns ++ (LW cI cJ lb aR aV aH aD aP rk vb rc hs D Pp ++ (OW cJ ou (vp_updL of 0 ((vb r).toInt64)) ++ X)))) H := hP
  have hD : va_D A (XW xo g lb se tl ts (bI bt) ++ (GW cJ g gA (nI n) (nI ec) ns ++ (LW cI cJ lb aR aV aH aD aP rk vb rc hs D Pp ++ (OW cJ ou (vp_updL of 0 ((vb r).toInt64)) ++ X)))) := hD
  refine lv_goto (tgt := 21) hx hb dL_hub_10 (by decide) ?_
  refine lv_iconst (v := (nI 0)) hx hb dL_hub_21 (by decide) ?_
  exact W.iret (v := (nI 0)) hx hb hr (fun t ht hW => ⟨⟨_, (), rfl, rfl, by rw [ht]; exact hP, hD⟩, hS.F ht⟩) hS.2.2 dL_hub_22

set_option maxHeartbeats 4000000 in
set_option maxRecDepth 100000 in
theorem h_pathVertexN (l : Launch) (dG : va_G) (cI cJ : ClassId) (A : Nat → Prop) (xo tl ts : Nat) (bt : Bool) (se : Nat) (g gA n ec : Nat) (ns : Nat → Int64) (lb aR aV aH aD aP : Nat) (rk vb : Nat → Int32) (rc : Int32) (hs : Nat → Int64) (D Pp : Nat → Int32) (ou : Nat) (of : Nat → Int64) (hn : n ≤ 48) (L P : Nat → Nat → Option Nat) (hR : RepL L P hs D Pp) (hB : LBd L (2 ^ 30)) (u v : Nat) (hu : u < n) (hv : v < n) (hbt : bt = true) (pl : Nat) (hpl : pl < 2 ^ 31) (hm : mr L u v 48 = none) (X : va_W) : Met l yL_pathVertex wsL_pathVertex ({ frames := 6, cells := 0, slots := 0, locals := 140 } : Room) (WPc dG cI cJ [.ref xo, .int (nI u), .int (nI v), .int (nI pl), .ref ou] (XW xo g lb se tl ts (bI bt) ++ (GW cJ g gA (nI n) (nI ec) ns ++ (LW cI cJ lb aR aV aH aD aP rk vb rc hs D Pp ++ (OW cJ ou of ++ X)))) A) (va_Qi (S := Unit) (fun r _ => r = nI 0) (fun _ => WB dG A (XW xo g lb se tl ts (bI bt) ++ (GW cJ g gA (nI n) (nI ec) ns ++ (LW cI cJ lb aR aV aH aD aP rk vb rc hs D Pp ++ (OW cJ ou (vp_updL of 0 ((-1).toInt64)) ++ X))))) A) 0 0 A := by
  refine va_MetW (cc := cL_pathVertex) (maxL := 6) (ret := (some .int)) (hh := [(0, 12, 15, 25), (0, 12, 19, 13), (0, 12, 23, 19)]) (by decide) rfl ?_
  intro p e s m args below meth c s₁ B9 hml hv
  obtain ⟨rfl, hP, hK, hD⟩ := hv
  have hx := B9.exec
  have hb := B9.bytes
  have hr := B9.returns
  have hts := atoms_spec (ws := wsL_pathVertex) B9.pre
  have hown : s.vm.findClass RL = some m.cls := findClass_of_methodNamed B9.named
  have hlocks := B9.notSynchronized
  have hS : va_S A s.heap s.heap [] := va_S.rf
  have hl := lv_entry ([.ref xo, .int (nI u), .int (nI v), .int (nI pl), .ref ou]) (n := 6) (Nat.le_of_ble_eq_true rfl)
  rw [lg_entry_eq]
  generalize (lg_sl ([.ref xo, .int (nI u), .int (nI v), .int (nI pl), .ref ou]) ++ List.replicate (6 - (lg_sl ([.ref xo, .int (nI u), .int (nI v), .int (nI pl), .ref ou])).length) Slot.unset).toArray = ls at hl ⊢
  have hl : lv_has ls 6 [(0, .ref xo), (1, .int (nI u)), (2, .int (nI v)), (3, .int (nI pl)), (4, .ref ou)] := hl
  refine lv_aload hx hb dL_pathVertex_0 (lv_at hl 4 rfl) ?_
  refine lv_iconst (v := (nI 0)) hx hb dL_pathVertex_2 (by decide) ?_
  refine lv_aload_n hx hb dL_pathVertex_3 rfl (lv_at hl 0 rfl) ?_
  refine lv_iload_n hx hb dL_pathVertex_4 rfl (lv_at hl 1 rfl) ?_
  refine lv_iload_n hx hb dL_pathVertex_5 rfl (lv_at hl 2 rfl) ?_
  refine lv_iload_n hx hb dL_pathVertex_6 rfl (lv_at hl 3 rfl) ?_
  have hPc := hP.sub (ws' := (XW xo g lb se tl ts (bI bt) ++ (GW cJ g gA (nI n) (nI ec) ns ++ (LW cI cJ lb aR aV aH aD aP rk vb rc hs D Pp)))) [0, 1, 2, 3, 4, 5, 6, 7, 8] rfl
  refine x_ri (W.runV (As := [.int (nI u), .int (nI v), .int (nI pl)]) (rest := [.int (nI 0), .ref ou]) ⟨hx, hb, hml, hown, hts⟩ (c_pathVertexN l dG cI cJ xo tl ts bt se g gA n ec ns lb aR aV aH aD aP rk vb rc hs D Pp hn L P hR hB u v hu hv hbt pl hpl hm) (cwV 3 hts gL_pathVertex_X3_pathVertex rfl rfl rfl (by decide +kernel) ⟨Nat.le_of_ble_eq_true rfl, Nat.le_of_ble_eq_true rfl⟩) (RPc.pre hPc hK (va_recv hK.1 hPc (ci := 3) (q0 := 0) rfl rfl)) rfl rfl hl.1 rfl (lv_room (Nat.le_of_ble_eq_true rfl)) dL_pathVertex_7 ⟨Nat.zero_le _, Nat.zero_le _⟩) ?_
  refine lv_i2l (v := (-1).toInt64) hx hb dL_pathVertex_10 rfl ?_
  refine x_last (f := of) hx hb hK hP hD hS 9 rfl (by omega) (by decide) dL_pathVertex_11 (fun H locs hP hD hS => ?_)
  have hP : va_P dG vwCl (XW xo g lb se tl ts (bI bt) ++ (GW cJ g gA (nI n) (nI ec) ns ++ (LW cI cJ lb aR aV aH aD aP rk vb rc hs D Pp ++ (OW cJ ou (vp_updL of 0 ((-1).toInt64)) ++ X)))) H := hP
  have hD : va_D A (XW xo g lb se tl ts (bI bt) ++ (GW cJ g gA (nI n) (nI ec) ns ++ (LW cI cJ lb aR aV aH aD aP rk vb rc hs D Pp ++ (OW cJ ou (vp_updL of 0 ((-1).toInt64)) ++ X)))) := hD
  refine lv_goto (tgt := 27) hx hb dL_pathVertex_12 (by decide) ?_
  refine lv_iconst (v := (nI 0)) hx hb dL_pathVertex_27 (by decide) ?_
  exact W.iret (v := (nI 0)) hx hb hr (fun t ht hW => ⟨⟨_, (), rfl, rfl, by rw [ht]; exact hP, hD⟩, hS.F ht⟩) hS.2.2 dL_pathVertex_28

set_option maxHeartbeats 4000000 in
set_option maxRecDepth 100000 in
theorem h_pathVertex (l : Launch) (dG : va_G) (cI cJ : ClassId) (A : Nat → Prop) (xo tl ts : Nat) (bt : Bool) (se : Nat) (g gA n ec : Nat) (ns : Nat → Int64) (lb aR aV aH aD aP : Nat) (rk vb : Nat → Int32) (rc : Int32) (hs : Nat → Int64) (D Pp : Nat → Int32) (ou : Nat) (of : Nat → Int64) (hn : n ≤ 48) (L P : Nat → Nat → Option Nat) (hR : RepL L P hs D Pp) (hB : LBd L (2 ^ 30)) (u v : Nat) (hu : u < n) (hv : v < n) (hbt : bt = true) (pl : Nat) (hpl : pl < 2 ^ 31) (r h tu tv : Nat) (hm : mr L u v 48 = some r) (hr0 : r < 48) (hh : h < 48) (eh : vb r = nI h) (htu : tu < 48) (htv : tv < 48) (hCu : Chain L P r h u tu) (hCv : Chain L P r h v tv) (X : va_W) : Met l yL_pathVertex wsL_pathVertex ({ frames := 6, cells := 0, slots := 0, locals := 140 } : Room) (WPc dG cI cJ [.ref xo, .int (nI u), .int (nI v), .int (nI pl), .ref ou] (XW xo g lb se tl ts (bI bt) ++ (GW cJ g gA (nI n) (nI ec) ns ++ (LW cI cJ lb aR aV aH aD aP rk vb rc hs D Pp ++ (OW cJ ou of ++ X)))) A) (va_Qi (S := Unit) (fun r _ => r = nI 0) (fun _ => WB dG A (XW xo g lb se tl ts (bI bt) ++ (GW cJ g gA (nI n) (nI ec) ns ++ (LW cI cJ lb aR aV aH aD aP rk vb rc hs D Pp ++ (OW cJ ou (vp_updL of 0 ((if tu + tv < pl then -1 else if pl ≤ tu then nI (cl P r u pl) else nI (cl P r v (tu + tv - pl))).toInt64)) ++ X))))) A) 0 0 A := by
  refine va_MetW (cc := cL_pathVertex) (maxL := 6) (ret := (some .int)) (hh := [(0, 12, 15, 25), (0, 12, 19, 13), (0, 12, 23, 19)]) (by decide) rfl ?_
  intro p e s m args below meth c s₁ B9 hml hv
  obtain ⟨rfl, hP, hK, hD⟩ := hv
  have hx := B9.exec
  have hb := B9.bytes
  have hr := B9.returns
  have hts := atoms_spec (ws := wsL_pathVertex) B9.pre
  have hown : s.vm.findClass RL = some m.cls := findClass_of_methodNamed B9.named
  have hlocks := B9.notSynchronized
  have hS : va_S A s.heap s.heap [] := va_S.rf
  have hl := lv_entry ([.ref xo, .int (nI u), .int (nI v), .int (nI pl), .ref ou]) (n := 6) (Nat.le_of_ble_eq_true rfl)
  rw [lg_entry_eq]
  generalize (lg_sl ([.ref xo, .int (nI u), .int (nI v), .int (nI pl), .ref ou]) ++ List.replicate (6 - (lg_sl ([.ref xo, .int (nI u), .int (nI v), .int (nI pl), .ref ou])).length) Slot.unset).toArray = ls at hl ⊢
  have hl : lv_has ls 6 [(0, .ref xo), (1, .int (nI u)), (2, .int (nI v)), (3, .int (nI pl)), (4, .ref ou)] := hl
  refine lv_aload hx hb dL_pathVertex_0 (lv_at hl 4 rfl) ?_
  refine lv_iconst (v := (nI 0)) hx hb dL_pathVertex_2 (by decide) ?_
  refine lv_aload_n hx hb dL_pathVertex_3 rfl (lv_at hl 0 rfl) ?_
  refine lv_iload_n hx hb dL_pathVertex_4 rfl (lv_at hl 1 rfl) ?_
  refine lv_iload_n hx hb dL_pathVertex_5 rfl (lv_at hl 2 rfl) ?_
  refine lv_iload_n hx hb dL_pathVertex_6 rfl (lv_at hl 3 rfl) ?_
  have hPc := hP.sub (ws' := (XW xo g lb se tl ts (bI bt) ++ (GW cJ g gA (nI n) (nI ec) ns ++ (LW cI cJ lb aR aV aH aD aP rk vb rc hs D Pp)))) [0, 1, 2, 3, 4, 5, 6, 7, 8] rfl
  refine x_ri (W.runV (As := [.int (nI u), .int (nI v), .int (nI pl)]) (rest := [.int (nI 0), .ref ou]) ⟨hx, hb, hml, hown, hts⟩ (c_pathVertex l dG cI cJ xo tl ts bt se g gA n ec ns lb aR aV aH aD aP rk vb rc hs D Pp hn L P hR hB u v hu hv hbt pl hpl r h tu tv hm hr0 hh eh htu htv hCu hCv) (cwV 3 hts gL_pathVertex_X3_pathVertex rfl rfl rfl (by decide +kernel) ⟨Nat.le_of_ble_eq_true rfl, Nat.le_of_ble_eq_true rfl⟩) (RPc.pre hPc hK (va_recv hK.1 hPc (ci := 3) (q0 := 0) rfl rfl)) rfl rfl hl.1 rfl (lv_room (Nat.le_of_ble_eq_true rfl)) dL_pathVertex_7 ⟨Nat.zero_le _, Nat.zero_le _⟩) ?_
  refine lv_i2l (v := (if tu + tv < pl then -1 else if pl ≤ tu then nI (cl P r u pl) else nI (cl P r v (tu + tv - pl))).toInt64) hx hb dL_pathVertex_10 rfl ?_
  refine x_last (f := of) hx hb hK hP hD hS 9 rfl (by omega) (by decide) dL_pathVertex_11 (fun H locs hP hD hS => ?_)
  have hP : va_P dG vwCl (XW xo g lb se tl ts (bI bt) ++ (GW cJ g gA (nI n) (nI ec) ns ++ (LW cI cJ lb aR aV aH aD aP rk vb rc hs D Pp ++ (OW cJ ou (vp_updL of 0 ((if tu + tv < pl then -1 else if pl ≤ tu then nI (cl P r u pl) else nI (cl P r v (tu + tv - pl))).toInt64)) ++ X)))) H := hP
  have hD : va_D A (XW xo g lb se tl ts (bI bt) ++ (GW cJ g gA (nI n) (nI ec) ns ++ (LW cI cJ lb aR aV aH aD aP rk vb rc hs D Pp ++ (OW cJ ou (vp_updL of 0 ((if tu + tv < pl then -1 else if pl ≤ tu then nI (cl P r u pl) else nI (cl P r v (tu + tv - pl))).toInt64)) ++ X)))) := hD
  refine lv_goto (tgt := 27) hx hb dL_pathVertex_12 (by decide) ?_
  refine lv_iconst (v := (nI 0)) hx hb dL_pathVertex_27 (by decide) ?_
  exact W.iret (v := (nI 0)) hx hb hr (fun t ht hW => ⟨⟨_, (), rfl, rfl, by rw [ht]; exact hP, hD⟩, hS.F ht⟩) hS.2.2 dL_pathVertex_28

set_option maxHeartbeats 4000000 in
set_option maxRecDepth 100000 in
theorem h_within (l : Launch) (dG : va_G) (cI cJ : ClassId) (A : Nat → Prop) (xo tl ts : Nat) (bt : Bool) (se : Nat) (g gA n ec : Nat) (ns : Nat → Int64) (lb aR aV aH aD aP : Nat) (rk vb : Nat → Int32) (rc : Int32) (hs : Nat → Int64) (D Pp : Nat → Int32) (ou : Nat) (of : Nat → Int64) (hn : n ≤ 48) (L P : Nat → Nat → Option Nat) (hR : RepL L P hs D Pp) (hB : LBd L (2 ^ 30)) (u : Nat) (hu : u < n) (hbt : bt = true) (d : Nat) (hd : d < 48) (X : va_W) : Met l yL_within wsL_within ({ frames := 5, cells := 0, slots := 0, locals := 118 } : Room) (WPc dG cI cJ [.ref xo, .int (nI u), .int (nI d), .ref ou] (XW xo g lb se tl ts (bI bt) ++ (GW cJ g gA (nI n) (nI ec) ns ++ (LW cI cJ lb aR aV aH aD aP rk vb rc hs D Pp ++ (OW cJ ou of ++ X)))) A) (va_Qi (S := Unit) (fun r _ => r = nI 0) (fun _ => WB dG A (XW xo g lb se tl ts (bI bt) ++ (GW cJ g gA (nI n) (nI ec) ns ++ (LW cI cJ lb aR aV aH aD aP rk vb rc hs D Pp ++ (OW cJ ou (vp_updL of 0 (wi L u 48 d n)) ++ X))))) A) 0 0 A := by
  refine va_MetW (cc := cL_within) (maxL := 5) (ret := (some .int)) (hh := [(0, 9, 12, 25), (0, 9, 16, 13), (0, 9, 20, 19)]) (by decide) rfl ?_
  intro p e s m args below meth c s₁ B9 hml hv
  obtain ⟨rfl, hP, hK, hD⟩ := hv
  have hx := B9.exec
  have hb := B9.bytes
  have hr := B9.returns
  have hts := atoms_spec (ws := wsL_within) B9.pre
  have hown : s.vm.findClass RL = some m.cls := findClass_of_methodNamed B9.named
  have hlocks := B9.notSynchronized
  have hS : va_S A s.heap s.heap [] := va_S.rf
  have hl := lv_entry ([.ref xo, .int (nI u), .int (nI d), .ref ou]) (n := 5) (Nat.le_of_ble_eq_true rfl)
  rw [lg_entry_eq]
  generalize (lg_sl ([.ref xo, .int (nI u), .int (nI d), .ref ou]) ++ List.replicate (5 - (lg_sl ([.ref xo, .int (nI u), .int (nI d), .ref ou])).length) Slot.unset).toArray = ls at hl ⊢
  have hl : lv_has ls 5 [(0, .ref xo), (1, .int (nI u)), (2, .int (nI d)), (3, .ref ou)] := hl
  refine lv_aload_n hx hb dL_within_0 rfl (lv_at hl 3 rfl) ?_
  refine lv_iconst (v := (nI 0)) hx hb dL_within_1 (by decide) ?_
  refine lv_aload_n hx hb dL_within_2 rfl (lv_at hl 0 rfl) ?_
  refine lv_iload_n hx hb dL_within_3 rfl (lv_at hl 1 rfl) ?_
  refine lv_iload_n hx hb dL_within_4 rfl (lv_at hl 2 rfl) ?_
  have hPc := hP.sub (ws' := (XW xo g lb se tl ts (bI bt) ++ (GW cJ g gA (nI n) (nI ec) ns ++ (LW cI cJ lb aR aV aH aD aP rk vb rc hs D Pp)))) [0, 1, 2, 3, 4, 5, 6, 7, 8] rfl
  refine x_rl (W.runV (As := [.int (nI u), .int (nI d)]) (rest := [.int (nI 0), .ref ou]) ⟨hx, hb, hml, hown, hts⟩ (c_within l dG cI cJ xo tl ts bt se g gA n ec ns lb aR aV aH aD aP rk vb rc hs D Pp hn L P hR hB u hu hbt d hd) (cwV 2 hts gL_within_X3_within rfl rfl rfl (by decide +kernel) ⟨Nat.le_of_ble_eq_true rfl, Nat.le_of_ble_eq_true rfl⟩) (RPc.pre hPc hK (va_recv hK.1 hPc (ci := 3) (q0 := 0) rfl rfl)) rfl rfl hl.1 rfl (lv_room (Nat.le_of_ble_eq_true rfl)) dL_within_5 ⟨Nat.zero_le _, Nat.zero_le _⟩) ?_
  refine x_last (f := of) hx hb hK hP hD hS 9 rfl (by omega) (by decide) dL_within_8 (fun H locs hP hD hS => ?_)
  have hP : va_P dG vwCl (XW xo g lb se tl ts (bI bt) ++ (GW cJ g gA (nI n) (nI ec) ns ++ (LW cI cJ lb aR aV aH aD aP rk vb rc hs D Pp ++ (OW cJ ou (vp_updL of 0 (wi L u 48 d n)) ++ X)))) H := hP
  have hD : va_D A (XW xo g lb se tl ts (bI bt) ++ (GW cJ g gA (nI n) (nI ec) ns ++ (LW cI cJ lb aR aV aH aD aP rk vb rc hs D Pp ++ (OW cJ ou (vp_updL of 0 (wi L u 48 d n)) ++ X)))) := hD
  refine lv_goto (tgt := 24) hx hb dL_within_9 (by decide) ?_
  refine lv_iconst (v := (nI 0)) hx hb dL_within_24 (by decide) ?_
  exact W.iret (v := (nI 0)) hx hb hr (fun t ht hW => ⟨⟨_, (), rfl, rfl, by rw [ht]; exact hP, hD⟩, hS.F ht⟩) hS.2.2 dL_within_25

set_option maxHeartbeats 4000000 in
set_option maxRecDepth 100000 in
theorem h_eccentricity (l : Launch) (dG : va_G) (cI cJ : ClassId) (A : Nat → Prop) (xo tl ts : Nat) (bt : Bool) (se : Nat) (g gA n ec : Nat) (ns : Nat → Int64) (lb aR aV aH aD aP : Nat) (rk vb : Nat → Int32) (rc : Int32) (hs : Nat → Int64) (D Pp : Nat → Int32) (ou : Nat) (of : Nat → Int64) (hn : n ≤ 48) (L P : Nat → Nat → Option Nat) (hR : RepL L P hs D Pp) (hB : LBd L (2 ^ 30)) (u : Nat) (hu : u < n) (hbt : bt = true) (X : va_W) : Met l yL_eccentricity wsL_eccentricity ({ frames := 5, cells := 0, slots := 0, locals := 115 } : Room) (WPc dG cI cJ [.ref xo, .int (nI u), .ref ou] (XW xo g lb se tl ts (bI bt) ++ (GW cJ g gA (nI n) (nI ec) ns ++ (LW cI cJ lb aR aV aH aD aP rk vb rc hs D Pp ++ (OW cJ ou of ++ X)))) A) (va_Qi (S := Unit) (fun r _ => r = nI 0) (fun _ => WB dG A (XW xo g lb se tl ts (bI bt) ++ (GW cJ g gA (nI n) (nI ec) ns ++ (LW cI cJ lb aR aV aH aD aP rk vb rc hs D Pp ++ (OW cJ ou (vp_updL of 0 ((nI (ecc L u 48 n)).toInt64)) ++ X))))) A) 0 0 A := by
  refine va_MetW (cc := cL_eccentricity) (maxL := 4) (ret := (some .int)) (hh := [(0, 9, 12, 25), (0, 9, 15, 13)]) (by decide) rfl ?_
  intro p e s m args below meth c s₁ B9 hml hv
  obtain ⟨rfl, hP, hK, hD⟩ := hv
  have hx := B9.exec
  have hb := B9.bytes
  have hr := B9.returns
  have hts := atoms_spec (ws := wsL_eccentricity) B9.pre
  have hown : s.vm.findClass RL = some m.cls := findClass_of_methodNamed B9.named
  have hlocks := B9.notSynchronized
  have hS : va_S A s.heap s.heap [] := va_S.rf
  have hl := lv_entry ([.ref xo, .int (nI u), .ref ou]) (n := 4) (Nat.le_of_ble_eq_true rfl)
  rw [lg_entry_eq]
  generalize (lg_sl ([.ref xo, .int (nI u), .ref ou]) ++ List.replicate (4 - (lg_sl ([.ref xo, .int (nI u), .ref ou])).length) Slot.unset).toArray = ls at hl ⊢
  have hl : lv_has ls 4 [(0, .ref xo), (1, .int (nI u)), (2, .ref ou)] := hl
  refine lv_aload_n hx hb dL_eccentricity_0 rfl (lv_at hl 2 rfl) ?_
  refine lv_iconst (v := (nI 0)) hx hb dL_eccentricity_1 (by decide) ?_
  refine lv_aload_n hx hb dL_eccentricity_2 rfl (lv_at hl 0 rfl) ?_
  refine lv_iload_n hx hb dL_eccentricity_3 rfl (lv_at hl 1 rfl) ?_
  have hPc := hP.sub (ws' := (XW xo g lb se tl ts (bI bt) ++ (GW cJ g gA (nI n) (nI ec) ns ++ (LW cI cJ lb aR aV aH aD aP rk vb rc hs D Pp)))) [0, 1, 2, 3, 4, 5, 6, 7, 8] rfl
  refine x_ri (W.runV (As := [.int (nI u)]) (rest := [.int (nI 0), .ref ou]) ⟨hx, hb, hml, hown, hts⟩ (c_eccentricity l dG cI cJ xo tl ts bt se g gA n ec ns lb aR aV aH aD aP rk vb rc hs D Pp hn L P hR hB u hu hbt) (cwV 1 hts gL_eccentricity_X3_eccentricity rfl rfl rfl (by decide +kernel) ⟨Nat.le_of_ble_eq_true rfl, Nat.le_of_ble_eq_true rfl⟩) (RPc.pre hPc hK (va_recv hK.1 hPc (ci := 3) (q0 := 0) rfl rfl)) rfl rfl hl.1 rfl (lv_room (Nat.le_of_ble_eq_true rfl)) dL_eccentricity_4 ⟨Nat.zero_le _, Nat.zero_le _⟩) ?_
  refine lv_i2l (v := (nI (ecc L u 48 n)).toInt64) hx hb dL_eccentricity_7 rfl ?_
  refine x_last (f := of) hx hb hK hP hD hS 9 rfl (by omega) (by decide) dL_eccentricity_8 (fun H locs hP hD hS => ?_)
  have hP : va_P dG vwCl (XW xo g lb se tl ts (bI bt) ++ (GW cJ g gA (nI n) (nI ec) ns ++ (LW cI cJ lb aR aV aH aD aP rk vb rc hs D Pp ++ (OW cJ ou (vp_updL of 0 ((nI (ecc L u 48 n)).toInt64)) ++ X)))) H := hP
  have hD : va_D A (XW xo g lb se tl ts (bI bt) ++ (GW cJ g gA (nI n) (nI ec) ns ++ (LW cI cJ lb aR aV aH aD aP rk vb rc hs D Pp ++ (OW cJ ou (vp_updL of 0 ((nI (ecc L u 48 n)).toInt64)) ++ X)))) := hD
  refine lv_goto (tgt := 18) hx hb dL_eccentricity_9 (by decide) ?_
  refine lv_iconst (v := (nI 0)) hx hb dL_eccentricity_18 (by decide) ?_
  exact W.iret (v := (nI 0)) hx hb hr (fun t ht hW => ⟨⟨_, (), rfl, rfl, by rw [ht]; exact hP, hD⟩, hS.F ht⟩) hS.2.2 dL_eccentricity_19

set_option maxHeartbeats 4000000 in
set_option maxRecDepth 100000 in
theorem h_addVertexU (l : Launch) (dG : va_G) (cI cJ : ClassId) (A : Nat → Prop) (xo tl ts : Nat) (bt : Bool) (se : Nat) (g gA n ec : Nat) (ns : Nat → Int64) (lb aR aV aH aD aP : Nat) (rk vb : Nat → Int32) (rc : Int32) (hs : Nat → Int64) (D Pp : Nat → Int32) (ou : Nat) (of : Nat → Int64) (hn : n < 48) (hbt : bt = false) (X : va_W) : Met l yL_addVertex wsL_addVertex ({ frames := 3, cells := 0, slots := 0, locals := 62 } : Room) (WPc dG cI cJ [.ref xo, .ref ou] (XW xo g lb se tl ts (bI bt) ++ (GW cJ g gA (nI n) (nI ec) ns ++ (LW cI cJ lb aR aV aH aD aP rk vb rc hs D Pp ++ (OW cJ ou of ++ X)))) A) (va_Qi (S := Unit) (fun r _ => r = nI 0) (fun _ => WB dG A (XW xo g lb se tl ts (bI bt) ++ (GW cJ g gA (nI (n + 1)) (nI ec) ns ++ (LW cI cJ lb aR aV aH aD aP rk vb rc hs D Pp ++ (OW cJ ou (vp_updL of 0 (nI n).toInt64) ++ X))))) A) 0 0 A := by
  refine va_MetW (cc := cL_addVertex) (maxL := 3) (ret := (some .int)) (hh := [(0, 8, 11, 13)]) (by decide) rfl ?_
  intro p e s m args below meth c s₁ B9 hml hv
  obtain ⟨rfl, hP, hK, hD⟩ := hv
  have hx := B9.exec
  have hb := B9.bytes
  have hr := B9.returns
  have hts := atoms_spec (ws := wsL_addVertex) B9.pre
  have hown : s.vm.findClass RL = some m.cls := findClass_of_methodNamed B9.named
  have hlocks := B9.notSynchronized
  have hS : va_S A s.heap s.heap [] := va_S.rf
  have hl := lv_entry ([.ref xo, .ref ou]) (n := 3) (Nat.le_of_ble_eq_true rfl)
  rw [lg_entry_eq]
  generalize (lg_sl ([.ref xo, .ref ou]) ++ List.replicate (3 - (lg_sl ([.ref xo, .ref ou])).length) Slot.unset).toArray = ls at hl ⊢
  have hl : lv_has ls 3 [(0, .ref xo), (1, .ref ou)] := hl
  refine lv_aload_n hx hb dL_addVertex_0 rfl (lv_at hl 1 rfl) ?_
  refine lv_iconst (v := (nI 0)) hx hb dL_addVertex_1 (by decide) ?_
  refine lv_aload_n hx hb dL_addVertex_2 rfl (lv_at hl 0 rfl) ?_
  have hPc : va_P dG vwCl (XW xo g lb se tl ts (bI bt) ++ (GW cJ g gA (nI n) (nI ec) ns ++ (LW cI cJ lb aR aV aH aD aP rk vb rc hs D Pp ++ (OW cJ ou of ++ X)))) s.heap := hP
  have hDc : va_D A (XW xo g lb se tl ts (bI bt) ++ (GW cJ g gA (nI n) (nI ec) ns ++ (LW cI cJ lb aR aV aH aD aP rk vb rc hs D Pp ++ (OW cJ ou of ++ X)))) := hD
  refine va_calli (va_runV (As := []) (rest := [.int (nI 0), .ref ou]) ⟨hx, hb, hml, hown, hts⟩ (c_addVertexU l dG cI cJ A xo tl ts bt se g gA n ec ns lb aR aV aH aD aP rk vb rc hs D Pp hn hbt _) (cwV 0 hts gL_addVertex_X3_addVertex rfl rfl rfl (by decide +kernel) ⟨Nat.le_of_ble_eq_true rfl, Nat.le_of_ble_eq_true rfl⟩) (WPc.pre hPc hDc hK (va_recv hK.1 hPc (ci := 3) (q0 := 0) rfl rfl)) rfl rfl hl.1 rfl (lv_room (Nat.le_of_ble_eq_true rfl)) dL_addVertex_3 ⟨Nat.zero_le _, Nat.zero_le _⟩) hS (fun q _ h => h) (fun q h => h) (fun r9 u9 t H locs ht hvm hw hB hz1 hk1 hS => ?_)
  obtain ⟨hP, hD⟩ := hB
  rw [ht] at hP
  have hP : va_P dG vwCl (XW xo g lb se tl ts (bI bt) ++ (GW cJ g gA (nI (n + 1)) (nI ec) ns ++ (LW cI cJ lb aR aV aH aD aP rk vb rc hs D Pp ++ (OW cJ ou of ++ X)))) H := hP
  have hD : va_D A (XW xo g lb se tl ts (bI bt) ++ (GW cJ g gA (nI (n + 1)) (nI ec) ns ++ (LW cI cJ lb aR aV aH aD aP rk vb rc hs D Pp ++ (OW cJ ou of ++ X)))) := hD
  rw [show r9 = nI n from hw]
  refine lv_i2l (v := (nI n).toInt64) hx hb dL_addVertex_6 rfl ?_
  refine x_last (f := of) hx hb hK hP hD hS 9 rfl (by omega) (by decide) dL_addVertex_7 (fun H locs hP hD hS => ?_)
  have hP : va_P dG vwCl (XW xo g lb se tl ts (bI bt) ++ (GW cJ g gA (nI (n + 1)) (nI ec) ns ++ (LW cI cJ lb aR aV aH aD aP rk vb rc hs D Pp ++ (OW cJ ou (vp_updL of 0 ((nI n).toInt64)) ++ X)))) H := hP
  have hD : va_D A (XW xo g lb se tl ts (bI bt) ++ (GW cJ g gA (nI (n + 1)) (nI ec) ns ++ (LW cI cJ lb aR aV aH aD aP rk vb rc hs D Pp ++ (OW cJ ou (vp_updL of 0 ((nI n).toInt64)) ++ X)))) := hD
  refine lv_goto (tgt := 14) hx hb dL_addVertex_8 (by decide) ?_
  refine lv_iconst (v := (nI 0)) hx hb dL_addVertex_14 (by decide) ?_
  exact W.iret (v := (nI 0)) hx hb hr (fun t ht hW => ⟨⟨_, (), rfl, rfl, by rw [ht]; exact hP, hD⟩, hS.F ht⟩) hS.2.2 dL_addVertex_15

set_option maxHeartbeats 4000000 in
set_option maxRecDepth 100000 in
theorem h_addVertexB (l : Launch) (dG : va_G) (cI cJ : ClassId) (A : Nat → Prop) (xo tl ts : Nat) (bt : Bool) (se : Nat) (g gA n ec : Nat) (ns : Nat → Int64) (lb aR aV aH aD aP : Nat) (rk vb : Nat → Int32) (rc : Int32) (hs : Nat → Int64) (D Pp : Nat → Int32) (ou : Nat) (of : Nat → Int64) (hn : n < 48) (L P : Nat → Nat → Option Nat) (hR : RepL L P hs D Pp) (hbt : bt = true) (hrc : rc = nI n) (X : va_W) : Met l yL_addVertex wsL_addVertex ({ frames := 4, cells := 0, slots := 0, locals := 85 } : Room) (WPc dG cI cJ [.ref xo, .ref ou] (XW xo g lb se tl ts (bI bt) ++ (GW cJ g gA (nI n) (nI ec) ns ++ (LW cI cJ lb aR aV aH aD aP rk vb rc hs D Pp ++ (OW cJ ou of ++ X)))) A) (va_Qi (S := (Nat → Int64) × (Nat → Int32) × (Nat → Int32)) (fun r u => r = nI 0 ∧ RepL (up2 L n n (some 0)) (up2 P n n none) u.1 u.2.1 u.2.2) (fun u => WB dG A (XW xo g lb se tl ts (bI bt) ++ (GW cJ g gA (nI (n + 1)) (nI ec) ns ++ (LW cI cJ lb aR aV aH aD aP (upd rk n (nI n)) (upd vb n (nI n)) (nI (n + 1)) u.1 u.2.1 u.2.2 ++ (OW cJ ou (vp_updL of 0 (nI n).toInt64) ++ X))))) A) 0 0 A := by
  refine va_MetW (cc := cL_addVertex) (maxL := 3) (ret := (some .int)) (hh := [(0, 8, 11, 13)]) (by decide) rfl ?_
  intro p e s m args below meth c s₁ B9 hml hv
  obtain ⟨rfl, hP, hK, hD⟩ := hv
  have hx := B9.exec
  have hb := B9.bytes
  have hr := B9.returns
  have hts := atoms_spec (ws := wsL_addVertex) B9.pre
  have hown : s.vm.findClass RL = some m.cls := findClass_of_methodNamed B9.named
  have hlocks := B9.notSynchronized
  have hS : va_S A s.heap s.heap [] := va_S.rf
  have hl := lv_entry ([.ref xo, .ref ou]) (n := 3) (Nat.le_of_ble_eq_true rfl)
  rw [lg_entry_eq]
  generalize (lg_sl ([.ref xo, .ref ou]) ++ List.replicate (3 - (lg_sl ([.ref xo, .ref ou])).length) Slot.unset).toArray = ls at hl ⊢
  have hl : lv_has ls 3 [(0, .ref xo), (1, .ref ou)] := hl
  refine lv_aload_n hx hb dL_addVertex_0 rfl (lv_at hl 1 rfl) ?_
  refine lv_iconst (v := (nI 0)) hx hb dL_addVertex_1 (by decide) ?_
  refine lv_aload_n hx hb dL_addVertex_2 rfl (lv_at hl 0 rfl) ?_
  have hPc : va_P dG vwCl (XW xo g lb se tl ts (bI bt) ++ (GW cJ g gA (nI n) (nI ec) ns ++ (LW cI cJ lb aR aV aH aD aP rk vb rc hs D Pp ++ (OW cJ ou of ++ X)))) s.heap := hP
  have hDc : va_D A (XW xo g lb se tl ts (bI bt) ++ (GW cJ g gA (nI n) (nI ec) ns ++ (LW cI cJ lb aR aV aH aD aP rk vb rc hs D Pp ++ (OW cJ ou of ++ X)))) := hD
  refine va_calli (va_runV (As := []) (rest := [.int (nI 0), .ref ou]) ⟨hx, hb, hml, hown, hts⟩ (c_addVertexB l dG cI cJ A xo tl ts bt se g gA n ec ns lb aR aV aH aD aP rk vb rc hs D Pp hn L P hR hbt hrc _) (cwV 0 hts gL_addVertex_X3_addVertex rfl rfl rfl (by decide +kernel) ⟨Nat.le_of_ble_eq_true rfl, Nat.le_of_ble_eq_true rfl⟩) (WPc.pre hPc hDc hK (va_recv hK.1 hPc (ci := 3) (q0 := 0) rfl rfl)) rfl rfl hl.1 rfl (lv_room (Nat.le_of_ble_eq_true rfl)) dL_addVertex_3 ⟨Nat.zero_le _, Nat.zero_le _⟩) hS (fun q _ h => h) (fun q h => h) (fun r9 u t H locs ht hvm hw hB hz1 hk1 hS => ?_)
  obtain ⟨hs1, D1, Pp1⟩ := u
  obtain ⟨hP, hD⟩ := hB
  rw [ht] at hP
  have hP : va_P dG vwCl (XW xo g lb se tl ts (bI bt) ++ (GW cJ g gA (nI (n + 1)) (nI ec) ns ++ (LW cI cJ lb aR aV aH aD aP (upd rk n (nI n)) (upd vb n (nI n)) (nI (n + 1)) hs1 D1 Pp1 ++ (OW cJ ou of ++ X)))) H := hP
  have hD : va_D A (XW xo g lb se tl ts (bI bt) ++ (GW cJ g gA (nI (n + 1)) (nI ec) ns ++ (LW cI cJ lb aR aV aH aD aP (upd rk n (nI n)) (upd vb n (nI n)) (nI (n + 1)) hs1 D1 Pp1 ++ (OW cJ ou of ++ X)))) := hD
  rw [show r9 = nI n from hw.1]
  refine lv_i2l (v := (nI n).toInt64) hx hb dL_addVertex_6 rfl ?_
  refine x_last (f := of) hx hb hK hP hD hS 9 rfl (by omega) (by decide) dL_addVertex_7 (fun H locs hP hD hS => ?_)
  have hP : va_P dG vwCl (XW xo g lb se tl ts (bI bt) ++ (GW cJ g gA (nI (n + 1)) (nI ec) ns ++ (LW cI cJ lb aR aV aH aD aP (upd rk n (nI n)) (upd vb n (nI n)) (nI (n + 1)) hs1 D1 Pp1 ++ (OW cJ ou (vp_updL of 0 ((nI n).toInt64)) ++ X)))) H := hP
  have hD : va_D A (XW xo g lb se tl ts (bI bt) ++ (GW cJ g gA (nI (n + 1)) (nI ec) ns ++ (LW cI cJ lb aR aV aH aD aP (upd rk n (nI n)) (upd vb n (nI n)) (nI (n + 1)) hs1 D1 Pp1 ++ (OW cJ ou (vp_updL of 0 ((nI n).toInt64)) ++ X)))) := hD
  refine lv_goto (tgt := 14) hx hb dL_addVertex_8 (by decide) ?_
  refine lv_iconst (v := (nI 0)) hx hb dL_addVertex_14 (by decide) ?_
  exact W.iret (v := (nI 0)) hx hb hr (fun t ht hW => ⟨⟨_, (hs1, D1, Pp1), rfl, ⟨rfl, hw.2⟩, by rw [ht]; exact hP, hD⟩, hS.F ht⟩) hS.2.2 dL_addVertex_15

set_option maxHeartbeats 4000000 in
set_option maxRecDepth 100000 in
theorem h_addVerticesU (l : Launch) (dG : va_G) (cI cJ : ClassId) (A : Nat → Prop) (xo tl ts : Nat) (bt : Bool) (se : Nat) (g gA n ec : Nat) (ns : Nat → Int64) (lb aR aV aH aD aP : Nat) (rk vb : Nat → Int32) (rc : Int32) (hs : Nat → Int64) (D Pp : Nat → Int32) (ou : Nat) (of : Nat → Int64) (c0 : Nat) (hc1 : 1 ≤ c0) (hc2 : n + c0 ≤ 48) (hbt : bt = false) (X : va_W) : Met l yL_addVertices wsL_addVertices ({ frames := 3, cells := 0, slots := 0, locals := 64 } : Room) (WPc dG cI cJ [.ref xo, .int (nI c0), .ref ou] (XW xo g lb se tl ts (bI bt) ++ (GW cJ g gA (nI n) (nI ec) ns ++ (LW cI cJ lb aR aV aH aD aP rk vb rc hs D Pp ++ (OW cJ ou of ++ X)))) A) (va_Qi (S := Unit) (fun r _ => r = nI 0) (fun _ => WB dG A (XW xo g lb se tl ts (bI bt) ++ (GW cJ g gA (nI (n + c0)) (nI ec) ns ++ (LW cI cJ lb aR aV aH aD aP rk vb rc hs D Pp ++ (OW cJ ou (vp_updL of 0 (nI (n + c0)).toInt64) ++ X))))) A) 0 0 A := by
  refine va_MetW (cc := cL_addVertices) (maxL := 4) (ret := (some .int)) (hh := [(0, 9, 12, 19), (0, 9, 15, 13)]) (by decide) rfl ?_
  intro p e s m args below meth c s₁ B9 hml hv
  obtain ⟨rfl, hP, hK, hD⟩ := hv
  have hx := B9.exec
  have hb := B9.bytes
  have hr := B9.returns
  have hts := atoms_spec (ws := wsL_addVertices) B9.pre
  have hown : s.vm.findClass RL = some m.cls := findClass_of_methodNamed B9.named
  have hlocks := B9.notSynchronized
  have hS : va_S A s.heap s.heap [] := va_S.rf
  have hl := lv_entry ([.ref xo, .int (nI c0), .ref ou]) (n := 4) (Nat.le_of_ble_eq_true rfl)
  rw [lg_entry_eq]
  generalize (lg_sl ([.ref xo, .int (nI c0), .ref ou]) ++ List.replicate (4 - (lg_sl ([.ref xo, .int (nI c0), .ref ou])).length) Slot.unset).toArray = ls at hl ⊢
  have hl : lv_has ls 4 [(0, .ref xo), (1, .int (nI c0)), (2, .ref ou)] := hl
  refine lv_aload_n hx hb dL_addVertices_0 rfl (lv_at hl 2 rfl) ?_
  refine lv_iconst (v := (nI 0)) hx hb dL_addVertices_1 (by decide) ?_
  refine lv_aload_n hx hb dL_addVertices_2 rfl (lv_at hl 0 rfl) ?_
  refine lv_iload_n hx hb dL_addVertices_3 rfl (lv_at hl 1 rfl) ?_
  have hPc : va_P dG vwCl (XW xo g lb se tl ts (bI bt) ++ (GW cJ g gA (nI n) (nI ec) ns ++ (LW cI cJ lb aR aV aH aD aP rk vb rc hs D Pp ++ (OW cJ ou of ++ X)))) s.heap := hP
  have hDc : va_D A (XW xo g lb se tl ts (bI bt) ++ (GW cJ g gA (nI n) (nI ec) ns ++ (LW cI cJ lb aR aV aH aD aP rk vb rc hs D Pp ++ (OW cJ ou of ++ X)))) := hD
  refine va_calli (va_runV (As := [.int (nI c0)]) (rest := [.int (nI 0), .ref ou]) ⟨hx, hb, hml, hown, hts⟩ (c_addVerticesU l dG cI cJ A xo tl ts bt se g gA n ec ns lb aR aV aH aD aP rk vb rc hs D Pp c0 hc1 hc2 hbt _) (cwV 1 hts gL_addVertices_X3_addVertices rfl rfl rfl (by decide +kernel) ⟨Nat.le_of_ble_eq_true rfl, Nat.le_of_ble_eq_true rfl⟩) (WPc.pre hPc hDc hK (va_recv hK.1 hPc (ci := 3) (q0 := 0) rfl rfl)) rfl rfl hl.1 rfl (lv_room (Nat.le_of_ble_eq_true rfl)) dL_addVertices_4 ⟨Nat.zero_le _, Nat.zero_le _⟩) hS (fun q _ h => h) (fun q h => h) (fun r9 u9 t H locs ht hvm hw hB hz1 hk1 hS => ?_)
  obtain ⟨hP, hD⟩ := hB
  rw [ht] at hP
  have hP : va_P dG vwCl (XW xo g lb se tl ts (bI bt) ++ (GW cJ g gA (nI (n + c0)) (nI ec) ns ++ (LW cI cJ lb aR aV aH aD aP rk vb rc hs D Pp ++ (OW cJ ou of ++ X)))) H := hP
  have hD : va_D A (XW xo g lb se tl ts (bI bt) ++ (GW cJ g gA (nI (n + c0)) (nI ec) ns ++ (LW cI cJ lb aR aV aH aD aP rk vb rc hs D Pp ++ (OW cJ ou of ++ X)))) := hD
  rw [show r9 = nI (n + c0) from hw]
  refine lv_i2l (v := (nI (n + c0)).toInt64) hx hb dL_addVertices_7 rfl ?_
  refine x_last (f := of) hx hb hK hP hD hS 9 rfl (by omega) (by decide) dL_addVertices_8 (fun H locs hP hD hS => ?_)
  have hP : va_P dG vwCl (XW xo g lb se tl ts (bI bt) ++ (GW cJ g gA (nI (n + c0)) (nI ec) ns ++ (LW cI cJ lb aR aV aH aD aP rk vb rc hs D Pp ++ (OW cJ ou (vp_updL of 0 ((nI (n + c0)).toInt64)) ++ X)))) H := hP
  have hD : va_D A (XW xo g lb se tl ts (bI bt) ++ (GW cJ g gA (nI (n + c0)) (nI ec) ns ++ (LW cI cJ lb aR aV aH aD aP rk vb rc hs D Pp ++ (OW cJ ou (vp_updL of 0 ((nI (n + c0)).toInt64)) ++ X)))) := hD
  refine lv_goto (tgt := 18) hx hb dL_addVertices_9 (by decide) ?_
  refine lv_iconst (v := (nI 0)) hx hb dL_addVertices_18 (by decide) ?_
  exact W.iret (v := (nI 0)) hx hb hr (fun t ht hW => ⟨⟨_, (), rfl, rfl, by rw [ht]; exact hP, hD⟩, hS.F ht⟩) hS.2.2 dL_addVertices_19

set_option maxHeartbeats 4000000 in
set_option maxRecDepth 100000 in
theorem h_addVerticesB (l : Launch) (dG : va_G) (cI cJ : ClassId) (A : Nat → Prop) (xo tl ts : Nat) (bt : Bool) (se : Nat) (g gA n ec : Nat) (ns : Nat → Int64) (lb aR aV aH aD aP : Nat) (rk vb : Nat → Int32) (rc : Int32) (hs : Nat → Int64) (D Pp : Nat → Int32) (ou : Nat) (of : Nat → Int64) (L P : Nat → Nat → Option Nat) (hR : RepL L P hs D Pp) (c0 : Nat) (hc1 : 1 ≤ c0) (hc2 : n + c0 ≤ 48) (hbt : bt = true) (hrc : rc = nI n) (X : va_W) : Met l yL_addVertices wsL_addVertices ({ frames := 4, cells := 0, slots := 0, locals := 87 } : Room) (WPc dG cI cJ [.ref xo, .int (nI c0), .ref ou] (XW xo g lb se tl ts (bI bt) ++ (GW cJ g gA (nI n) (nI ec) ns ++ (LW cI cJ lb aR aV aH aD aP rk vb rc hs D Pp ++ (OW cJ ou of ++ X)))) A) (va_Qi (S := (Nat → Int64) × (Nat → Int32) × (Nat → Int32)) (fun r u => r = nI 0 ∧ RepL (adL L n c0) (adP P n c0) u.1 u.2.1 u.2.2) (fun u => WB dG A (XW xo g lb se tl ts (bI bt) ++ (GW cJ g gA (nI (n + c0)) (nI ec) ns ++ (LW cI cJ lb aR aV aH aD aP (adH rk n c0) (adH vb n c0) (nI (n + c0)) u.1 u.2.1 u.2.2 ++ (OW cJ ou (vp_updL of 0 (nI (n + c0)).toInt64) ++ X))))) A) 0 0 A := by
  refine va_MetW (cc := cL_addVertices) (maxL := 4) (ret := (some .int)) (hh := [(0, 9, 12, 19), (0, 9, 15, 13)]) (by decide) rfl ?_
  intro p e s m args below meth c s₁ B9 hml hv
  obtain ⟨rfl, hP, hK, hD⟩ := hv
  have hx := B9.exec
  have hb := B9.bytes
  have hr := B9.returns
  have hts := atoms_spec (ws := wsL_addVertices) B9.pre
  have hown : s.vm.findClass RL = some m.cls := findClass_of_methodNamed B9.named
  have hlocks := B9.notSynchronized
  have hS : va_S A s.heap s.heap [] := va_S.rf
  have hl := lv_entry ([.ref xo, .int (nI c0), .ref ou]) (n := 4) (Nat.le_of_ble_eq_true rfl)
  rw [lg_entry_eq]
  generalize (lg_sl ([.ref xo, .int (nI c0), .ref ou]) ++ List.replicate (4 - (lg_sl ([.ref xo, .int (nI c0), .ref ou])).length) Slot.unset).toArray = ls at hl ⊢
  have hl : lv_has ls 4 [(0, .ref xo), (1, .int (nI c0)), (2, .ref ou)] := hl
  refine lv_aload_n hx hb dL_addVertices_0 rfl (lv_at hl 2 rfl) ?_
  refine lv_iconst (v := (nI 0)) hx hb dL_addVertices_1 (by decide) ?_
  refine lv_aload_n hx hb dL_addVertices_2 rfl (lv_at hl 0 rfl) ?_
  refine lv_iload_n hx hb dL_addVertices_3 rfl (lv_at hl 1 rfl) ?_
  have hPc : va_P dG vwCl (XW xo g lb se tl ts (bI bt) ++ (GW cJ g gA (nI n) (nI ec) ns ++ (LW cI cJ lb aR aV aH aD aP rk vb rc hs D Pp ++ (OW cJ ou of ++ X)))) s.heap := hP
  have hDc : va_D A (XW xo g lb se tl ts (bI bt) ++ (GW cJ g gA (nI n) (nI ec) ns ++ (LW cI cJ lb aR aV aH aD aP rk vb rc hs D Pp ++ (OW cJ ou of ++ X)))) := hD
  refine va_calli (va_runV (As := [.int (nI c0)]) (rest := [.int (nI 0), .ref ou]) ⟨hx, hb, hml, hown, hts⟩ (c_addVerticesB l dG cI cJ A xo tl ts bt se g gA n ec ns lb aR aV aH aD aP rk vb rc hs D Pp L P hR c0 hc1 hc2 hbt hrc _) (cwV 1 hts gL_addVertices_X3_addVertices rfl rfl rfl (by decide +kernel) ⟨Nat.le_of_ble_eq_true rfl, Nat.le_of_ble_eq_true rfl⟩) (WPc.pre hPc hDc hK (va_recv hK.1 hPc (ci := 3) (q0 := 0) rfl rfl)) rfl rfl hl.1 rfl (lv_room (Nat.le_of_ble_eq_true rfl)) dL_addVertices_4 ⟨Nat.zero_le _, Nat.zero_le _⟩) hS (fun q _ h => h) (fun q h => h) (fun r9 u t H locs ht hvm hw hB hz1 hk1 hS => ?_)
  obtain ⟨hs1, D1, Pp1⟩ := u
  obtain ⟨hP, hD⟩ := hB
  rw [ht] at hP
  have hP : va_P dG vwCl (XW xo g lb se tl ts (bI bt) ++ (GW cJ g gA (nI (n + c0)) (nI ec) ns ++ (LW cI cJ lb aR aV aH aD aP (adH rk n c0) (adH vb n c0) (nI (n + c0)) hs1 D1 Pp1 ++ (OW cJ ou of ++ X)))) H := hP
  have hD : va_D A (XW xo g lb se tl ts (bI bt) ++ (GW cJ g gA (nI (n + c0)) (nI ec) ns ++ (LW cI cJ lb aR aV aH aD aP (adH rk n c0) (adH vb n c0) (nI (n + c0)) hs1 D1 Pp1 ++ (OW cJ ou of ++ X)))) := hD
  rw [show r9 = nI (n + c0) from hw.1]
  refine lv_i2l (v := (nI (n + c0)).toInt64) hx hb dL_addVertices_7 rfl ?_
  refine x_last (f := of) hx hb hK hP hD hS 9 rfl (by omega) (by decide) dL_addVertices_8 (fun H locs hP hD hS => ?_)
  have hP : va_P dG vwCl (XW xo g lb se tl ts (bI bt) ++ (GW cJ g gA (nI (n + c0)) (nI ec) ns ++ (LW cI cJ lb aR aV aH aD aP (adH rk n c0) (adH vb n c0) (nI (n + c0)) hs1 D1 Pp1 ++ (OW cJ ou (vp_updL of 0 ((nI (n + c0)).toInt64)) ++ X)))) H := hP
  have hD : va_D A (XW xo g lb se tl ts (bI bt) ++ (GW cJ g gA (nI (n + c0)) (nI ec) ns ++ (LW cI cJ lb aR aV aH aD aP (adH rk n c0) (adH vb n c0) (nI (n + c0)) hs1 D1 Pp1 ++ (OW cJ ou (vp_updL of 0 ((nI (n + c0)).toInt64)) ++ X)))) := hD
  refine lv_goto (tgt := 18) hx hb dL_addVertices_9 (by decide) ?_
  refine lv_iconst (v := (nI 0)) hx hb dL_addVertices_18 (by decide) ?_
  exact W.iret (v := (nI 0)) hx hb hr (fun t ht hW => ⟨⟨_, (hs1, D1, Pp1), rfl, ⟨rfl, hw.2⟩, by rw [ht]; exact hP, hD⟩, hS.F ht⟩) hS.2.2 dL_addVertices_19

set_option maxHeartbeats 4000000 in
set_option maxRecDepth 100000 in
theorem h_addEdgeU (l : Launch) (dG : va_G) (cI cJ : ClassId) (A : Nat → Prop) (xo tl ts : Nat) (bt : Bool) (se : Nat) (g gA n ec : Nat) (ns : Nat → Int64) (lb aR aV aH aD aP : Nat) (rk vb : Nat → Int32) (rc : Int32) (hs : Nat → Int64) (D Pp : Nat → Int32) (ou : Nat) (of : Nat → Int64) (hn : n ≤ 48) (a b : Nat) (ha : a < n) (hb0n : b < n) (hne2 : a ≠ b) (hed : gb (ns a) b = false) (hbt : bt = false) (X : va_W) : Met l yL_addEdge wsL_addEdge ({ frames := 7, cells := 0, slots := 0, locals := 169 } : Room) (WPc dG cI cJ [.ref xo, .int (nI a), .int (nI b), .ref ou] (XW xo g lb se tl ts (bI bt) ++ (GW cJ g gA (nI n) (nI ec) ns ++ (LW cI cJ lb aR aV aH aD aP rk vb rc hs D Pp ++ (OW cJ ou of ++ X)))) A) (va_Qi (S := Unit) (fun r _ => r = nI 0) (fun _ => WB dG A (XW xo g lb se tl ts (bI bt) ++ (GW cJ g gA (nI n) (nI (ec + 1)) (jn ns a b) ++ (LW cI cJ lb aR aV aH aD aP rk vb rc hs D Pp ++ (OW cJ ou (vp_updL of 0 (nI 0).toInt64) ++ X))))) A) 0 0 A := by
  refine va_MetW (cc := cL_addEdge) (maxL := 5) (ret := (some .int)) (hh := [(0, 10, 13, 25), (0, 10, 17, 13)]) (by decide) rfl ?_
  intro p e s m args below meth c s₁ B9 hml hv
  obtain ⟨rfl, hP, hK, hD⟩ := hv
  have hx := B9.exec
  have hb := B9.bytes
  have hr := B9.returns
  have hts := atoms_spec (ws := wsL_addEdge) B9.pre
  have hown : s.vm.findClass RL = some m.cls := findClass_of_methodNamed B9.named
  have hlocks := B9.notSynchronized
  have hS : va_S A s.heap s.heap [] := va_S.rf
  have hl := lv_entry ([.ref xo, .int (nI a), .int (nI b), .ref ou]) (n := 5) (Nat.le_of_ble_eq_true rfl)
  rw [lg_entry_eq]
  generalize (lg_sl ([.ref xo, .int (nI a), .int (nI b), .ref ou]) ++ List.replicate (5 - (lg_sl ([.ref xo, .int (nI a), .int (nI b), .ref ou])).length) Slot.unset).toArray = ls at hl ⊢
  have hl : lv_has ls 5 [(0, .ref xo), (1, .int (nI a)), (2, .int (nI b)), (3, .ref ou)] := hl
  refine lv_aload_n hx hb dL_addEdge_0 rfl (lv_at hl 3 rfl) ?_
  refine lv_iconst (v := (nI 0)) hx hb dL_addEdge_1 (by decide) ?_
  refine lv_aload_n hx hb dL_addEdge_2 rfl (lv_at hl 0 rfl) ?_
  refine lv_iload_n hx hb dL_addEdge_3 rfl (lv_at hl 1 rfl) ?_
  refine lv_iload_n hx hb dL_addEdge_4 rfl (lv_at hl 2 rfl) ?_
  have hPc : va_P dG vwCl (XW xo g lb se tl ts (bI bt) ++ (GW cJ g gA (nI n) (nI ec) ns ++ (LW cI cJ lb aR aV aH aD aP rk vb rc hs D Pp ++ (OW cJ ou of ++ X)))) s.heap := hP
  have hDc : va_D A (XW xo g lb se tl ts (bI bt) ++ (GW cJ g gA (nI n) (nI ec) ns ++ (LW cI cJ lb aR aV aH aD aP rk vb rc hs D Pp ++ (OW cJ ou of ++ X)))) := hD
  refine va_calli (va_runV (As := [.int (nI a), .int (nI b)]) (rest := [.int (nI 0), .ref ou]) ⟨hx, hb, hml, hown, hts⟩ (c_addEdgeU l dG cI cJ A xo tl ts bt se g gA n ec ns lb aR aV aH aD aP rk vb rc hs D Pp hn a b ha hb0n hne2 hed hbt _) (cwV 2 hts gL_addEdge_X3_addEdge rfl rfl rfl (by decide +kernel) ⟨Nat.le_of_ble_eq_true rfl, Nat.le_of_ble_eq_true rfl⟩) (WPc.pre hPc hDc hK (va_recv hK.1 hPc (ci := 3) (q0 := 0) rfl rfl)) rfl rfl hl.1 rfl (lv_room (Nat.le_of_ble_eq_true rfl)) dL_addEdge_5 ⟨Nat.zero_le _, Nat.zero_le _⟩) hS (fun q _ h => h) (fun q h => h) (fun r9 u9 t H locs ht hvm hw hB hz1 hk1 hS => ?_)
  obtain ⟨hP, hD⟩ := hB
  rw [ht] at hP
  have hP : va_P dG vwCl (XW xo g lb se tl ts (bI bt) ++ (GW cJ g gA (nI n) (nI (ec + 1)) (jn ns a b) ++ (LW cI cJ lb aR aV aH aD aP rk vb rc hs D Pp ++ (OW cJ ou of ++ X)))) H := hP
  have hD : va_D A (XW xo g lb se tl ts (bI bt) ++ (GW cJ g gA (nI n) (nI (ec + 1)) (jn ns a b) ++ (LW cI cJ lb aR aV aH aD aP rk vb rc hs D Pp ++ (OW cJ ou of ++ X)))) := hD
  rw [show r9 = nI 0 from hw]
  refine lv_i2l (v := (nI 0).toInt64) hx hb dL_addEdge_8 rfl ?_
  refine x_last (f := of) hx hb hK hP hD hS 9 rfl (by omega) (by decide) dL_addEdge_9 (fun H locs hP hD hS => ?_)
  have hP : va_P dG vwCl (XW xo g lb se tl ts (bI bt) ++ (GW cJ g gA (nI n) (nI (ec + 1)) (jn ns a b) ++ (LW cI cJ lb aR aV aH aD aP rk vb rc hs D Pp ++ (OW cJ ou (vp_updL of 0 ((nI 0).toInt64)) ++ X)))) H := hP
  have hD : va_D A (XW xo g lb se tl ts (bI bt) ++ (GW cJ g gA (nI n) (nI (ec + 1)) (jn ns a b) ++ (LW cI cJ lb aR aV aH aD aP rk vb rc hs D Pp ++ (OW cJ ou (vp_updL of 0 ((nI 0).toInt64)) ++ X)))) := hD
  refine lv_goto (tgt := 21) hx hb dL_addEdge_10 (by decide) ?_
  refine lv_iconst (v := (nI 0)) hx hb dL_addEdge_21 (by decide) ?_
  exact W.iret (v := (nI 0)) hx hb hr (fun t ht hW => ⟨⟨_, (), rfl, rfl, by rw [ht]; exact hP, hD⟩, hS.F ht⟩) hS.2.2 dL_addEdge_22

set_option maxHeartbeats 4000000 in
set_option maxRecDepth 100000 in
theorem h_addEdgeB (l : Launch) (dG : va_G) (cI cJ : ClassId) (A : Nat → Prop) (qa qb qc : Nat) (qv qd qp : Nat → Int32) (ql : Int32) (qs : Int64) (vi pr wr : Int32) (xo tl ts : Nat) (bt : Bool) (se : Nat) (g gA n ec : Nat) (ns : Nat → Int64) (lb aR aV aH aD aP : Nat) (rk vb : Nat → Int32) (rc : Int32) (hs : Nat → Int64) (D Pp : Nat → Int32) (ou : Nat) (of : Nat → Int64) (hn : n ≤ 48) (L P : Nat → Nat → Option Nat) (hR : RepL L P hs D Pp) (a b : Nat) (ha : a < n) (hb0n : b < n) (hne2 : a ≠ b) (hed : gb (ns a) b = false) (hbt : bt = true) (B : Nat) (hL : LBd L B) (hB3 : B + 4704 ≤ 2 ^ 30) (hb0 : Nat → Nat) (hhb : ∀ k, k < n → hb0 k < n ∧ vb k = nI (hb0 k)) (F : BT) (hF : ex (jn ns a b) n hb0 a b L P n = F) (X : va_W) : Met l yL_addEdge wsL_addEdge ({ frames := 7, cells := 0, slots := 0, locals := 169 } : Room) (WPc dG cI cJ [.ref xo, .int (nI a), .int (nI b), .ref ou] (XW xo g lb se tl ts (bI bt) ++ (SW cI g lb se qa qb qc qv qd qp ql qs vi pr wr ++ (GW cJ g gA (nI n) (nI ec) ns ++ (LW cI cJ lb aR aV aH aD aP rk vb rc hs D Pp ++ (OW cJ ou of ++ X))))) A) (va_Qi (S := Int32 × Int64 × (Nat → Int32) × (Nat → Int32) × (Nat → Int32) × (Nat → Int64) × (Nat → Int32) × (Nat → Int32)) (fun r u => r = nI 0 ∧ RepL F.1 F.2.1 u.2.2.2.2.2.1 u.2.2.2.2.2.2.1 u.2.2.2.2.2.2.2) (fun u => WB dG A (XW xo g lb se tl ts (bI bt) ++ (SW cI g lb se qa qb qc u.2.2.1 u.2.2.2.1 u.2.2.2.2.1 u.1 u.2.1 (nI F.2.2.1) (nI F.2.2.2.1) (nI F.2.2.2.2) ++ (GW cJ g gA (nI n) (nI (ec + 1)) (jn ns a b) ++ (LW cI cJ lb aR aV aH aD aP rk vb rc u.2.2.2.2.2.1 u.2.2.2.2.2.2.1 u.2.2.2.2.2.2.2 ++ (OW cJ ou (vp_updL of 0 (nI F.2.2.1).toInt64) ++ X)))))) A) 0 0 A := by
  refine va_MetW (cc := cL_addEdge) (maxL := 5) (ret := (some .int)) (hh := [(0, 10, 13, 25), (0, 10, 17, 13)]) (by decide) rfl ?_
  intro p e s m args below meth c s₁ B9 hml hv
  obtain ⟨rfl, hP, hK, hD⟩ := hv
  have hx := B9.exec
  have hb := B9.bytes
  have hr := B9.returns
  have hts := atoms_spec (ws := wsL_addEdge) B9.pre
  have hown : s.vm.findClass RL = some m.cls := findClass_of_methodNamed B9.named
  have hlocks := B9.notSynchronized
  have hS : va_S A s.heap s.heap [] := va_S.rf
  have hl := lv_entry ([.ref xo, .int (nI a), .int (nI b), .ref ou]) (n := 5) (Nat.le_of_ble_eq_true rfl)
  rw [lg_entry_eq]
  generalize (lg_sl ([.ref xo, .int (nI a), .int (nI b), .ref ou]) ++ List.replicate (5 - (lg_sl ([.ref xo, .int (nI a), .int (nI b), .ref ou])).length) Slot.unset).toArray = ls at hl ⊢
  have hl : lv_has ls 5 [(0, .ref xo), (1, .int (nI a)), (2, .int (nI b)), (3, .ref ou)] := hl
  refine lv_aload_n hx hb dL_addEdge_0 rfl (lv_at hl 3 rfl) ?_
  refine lv_iconst (v := (nI 0)) hx hb dL_addEdge_1 (by decide) ?_
  refine lv_aload_n hx hb dL_addEdge_2 rfl (lv_at hl 0 rfl) ?_
  refine lv_iload_n hx hb dL_addEdge_3 rfl (lv_at hl 1 rfl) ?_
  refine lv_iload_n hx hb dL_addEdge_4 rfl (lv_at hl 2 rfl) ?_
  have hPc : va_P dG vwCl (XW xo g lb se tl ts (bI bt) ++ (SW cI g lb se qa qb qc qv qd qp ql qs vi pr wr ++ (GW cJ g gA (nI n) (nI ec) ns ++ (LW cI cJ lb aR aV aH aD aP rk vb rc hs D Pp ++ (OW cJ ou of ++ X))))) s.heap := hP
  have hDc : va_D A (XW xo g lb se tl ts (bI bt) ++ (SW cI g lb se qa qb qc qv qd qp ql qs vi pr wr ++ (GW cJ g gA (nI n) (nI ec) ns ++ (LW cI cJ lb aR aV aH aD aP rk vb rc hs D Pp ++ (OW cJ ou of ++ X))))) := hD
  refine va_calli (va_runV (As := [.int (nI a), .int (nI b)]) (rest := [.int (nI 0), .ref ou]) ⟨hx, hb, hml, hown, hts⟩ (c_addEdgeB l dG cI cJ A qa qb qc qv qd qp ql qs vi pr wr xo tl ts bt se g gA n ec ns lb aR aV aH aD aP rk vb rc hs D Pp hn L P hR a b ha hb0n hne2 hed hbt B hL hB3 hb0 hhb F hF _) (cwV 2 hts gL_addEdge_X3_addEdge rfl rfl rfl (by decide +kernel) ⟨Nat.le_of_ble_eq_true rfl, Nat.le_of_ble_eq_true rfl⟩) (WPc.pre hPc hDc hK (va_recv hK.1 hPc (ci := 3) (q0 := 0) rfl rfl)) rfl rfl hl.1 rfl (lv_room (Nat.le_of_ble_eq_true rfl)) dL_addEdge_5 ⟨Nat.zero_le _, Nat.zero_le _⟩) hS (fun q _ h => h) (fun q h => h) (fun r9 u t H locs ht hvm hw hB hz1 hk1 hS => ?_)
  obtain ⟨ql, qs, qv, qd, qp, hs, D, Pp⟩ := u
  obtain ⟨hP, hD⟩ := hB
  rw [ht] at hP
  have hP : va_P dG vwCl (XW xo g lb se tl ts (bI bt) ++ (SW cI g lb se qa qb qc qv qd qp ql qs (nI F.2.2.1) (nI F.2.2.2.1) (nI F.2.2.2.2) ++ (GW cJ g gA (nI n) (nI (ec + 1)) (jn ns a b) ++ (LW cI cJ lb aR aV aH aD aP rk vb rc hs D Pp ++ (OW cJ ou of ++ X))))) H := hP
  have hD : va_D A (XW xo g lb se tl ts (bI bt) ++ (SW cI g lb se qa qb qc qv qd qp ql qs (nI F.2.2.1) (nI F.2.2.2.1) (nI F.2.2.2.2) ++ (GW cJ g gA (nI n) (nI (ec + 1)) (jn ns a b) ++ (LW cI cJ lb aR aV aH aD aP rk vb rc hs D Pp ++ (OW cJ ou of ++ X))))) := hD
  rw [show r9 = nI F.2.2.1 from hw.1]
  refine lv_i2l (v := (nI F.2.2.1).toInt64) hx hb dL_addEdge_8 rfl ?_
  refine x_last (f := of) hx hb hK hP hD hS 13 rfl (by omega) (by decide) dL_addEdge_9 (fun H locs hP hD hS => ?_)
  have hP : va_P dG vwCl (XW xo g lb se tl ts (bI bt) ++ (SW cI g lb se qa qb qc qv qd qp ql qs (nI F.2.2.1) (nI F.2.2.2.1) (nI F.2.2.2.2) ++ (GW cJ g gA (nI n) (nI (ec + 1)) (jn ns a b) ++ (LW cI cJ lb aR aV aH aD aP rk vb rc hs D Pp ++ (OW cJ ou (vp_updL of 0 ((nI F.2.2.1).toInt64)) ++ X))))) H := hP
  have hD : va_D A (XW xo g lb se tl ts (bI bt) ++ (SW cI g lb se qa qb qc qv qd qp ql qs (nI F.2.2.1) (nI F.2.2.2.1) (nI F.2.2.2.2) ++ (GW cJ g gA (nI n) (nI (ec + 1)) (jn ns a b) ++ (LW cI cJ lb aR aV aH aD aP rk vb rc hs D Pp ++ (OW cJ ou (vp_updL of 0 ((nI F.2.2.1).toInt64)) ++ X))))) := hD
  refine lv_goto (tgt := 21) hx hb dL_addEdge_10 (by decide) ?_
  refine lv_iconst (v := (nI 0)) hx hb dL_addEdge_21 (by decide) ?_
  exact W.iret (v := (nI 0)) hx hb hr (fun t ht hW => ⟨⟨_, (ql, qs, qv, qd, qp, hs, D, Pp), rfl, ⟨rfl, hw.2⟩, by rw [ht]; exact hP, hD⟩, hS.F ht⟩) hS.2.2 dL_addEdge_22

set_option maxHeartbeats 4000000 in
set_option maxRecDepth 100000 in
theorem h_rank_1 (l : Launch) (hlt : l.stackTraces = false) (dG : va_G) (cI cJ : ClassId) (A : Nat → Prop) (xo tl ts : Nat) (bt : Bool) (se lb : Nat) (g gA n ec : Nat) (ns : Nat → Int64) (hn : n ≤ 48) (ou : Nat) (of : Nat → Int64) (x : Int32) (hw : wr x x n bt = 1) (X : va_W) : Met l yL_rank wsL_rank ({ frames := 10, cells := 1, slots := 6, locals := 176 } : Room) (XPc dG cI cJ [.ref xo, .int x, .ref ou] (XW xo g lb se tl ts (bI bt) ++ (GW cJ g gA (nI n) (nI ec) ns ++ (OW cJ ou of ++ X))) A) (va_Qi (S := Unit) (fun r _ => r = nI 1) (fun _ => WB dG A (XW xo g lb se tl ts (bI bt) ++ (GW cJ g gA (nI n) (nI ec) ns ++ (OW cJ ou of ++ X)))) A) 1 6 A := by
  refine va_MetW (cc := cL_rank) (maxL := 4) (ret := (some .int)) (hh := [(0, 9, 12, 25), (0, 9, 15, 13)]) (by decide) rfl ?_
  intro p e s m args below meth c s₁ B9 hml hv
  obtain ⟨rfl, hP, hK, hD, hTK, hTH⟩ := hv
  have hx := B9.exec
  have hb := B9.bytes
  have hr := B9.returns
  have hts := atoms_spec (ws := wsL_rank) B9.pre
  have hown : s.vm.findClass RL = some m.cls := findClass_of_methodNamed B9.named
  have hlocks := B9.notSynchronized
  have hS : va_S A s.heap s.heap [] := va_S.rf
  have hl := lv_entry ([.ref xo, .int x, .ref ou]) (n := 4) (Nat.le_of_ble_eq_true rfl)
  rw [lg_entry_eq]
  generalize (lg_sl ([.ref xo, .int x, .ref ou]) ++ List.replicate (4 - (lg_sl ([.ref xo, .int x, .ref ou])).length) Slot.unset).toArray = ls at hl ⊢
  have hl : lv_has ls 4 [(0, .ref xo), (1, .int x), (2, .ref ou)] := hl
  have htab := vx_table (x := yL_rank) B9 (hts (.codeWith yL_rank cL_rank 4 (some .int) [(0, 9, 12, 25), (0, 9, 15, 13)]) (by decide +kernel))
  refine lv_aload_n hx hb dL_rank_0 rfl (lv_at hl 2 rfl) ?_
  refine lv_iconst (v := (nI 0)) hx hb dL_rank_1 (by decide) ?_
  refine lv_aload_n hx hb dL_rank_2 rfl (lv_at hl 0 rfl) ?_
  refine lv_iload_n hx hb dL_rank_3 rfl (lv_at hl 1 rfl) ?_
  refine vx_calli (vx_runV (As := [.int x]) (rest := [.int (nI 0), .ref ou]) ⟨hx, hb, hml, hown, hts⟩ (x_rank l hlt dG cI cJ A xo tl ts bt se lb g gA n ec ns hn x 1 hw (by decide) _) (cwV 1 hts gL_rank_X3_rank rfl rfl rfl (by decide +kernel) ⟨Nat.le_of_ble_eq_true rfl, Nat.le_of_ble_eq_true rfl⟩) (XPc.pre hP hD hK hTK hTH (va_recv hK.1 hP (ci := 3) (q0 := 0) rfl rfl)) rfl rfl hl.1 rfl (lv_room (Nat.le_of_ble_eq_true rfl)) dL_rank_4 ⟨Nat.le_of_ble_eq_true rfl, Nat.le_of_ble_eq_true rfl⟩) hS (fun q _ h => h) (fun q h => h) (fun q _ h => h.elim) (fun E ce q9 u9 t H locs ht hvm _ hB hz1 hk1 hS hce hcv hcl => ?_) (fun _r9 u9 t H1 locs1 ht hvm hf _ _ _ _ => hf.elim)
  obtain ⟨hE, hP⟩ := hB
  have hE : E = "java/lang/IndexOutOfBoundsException" := hE
  subst hE
  rw [ht] at hP
  refine vx_catch (own := RL) (name := "java/lang/IndexOutOfBoundsException") (pc := 4) hown [] ⟨0, 9, 12, 25⟩ [⟨0, 9, 15, 13⟩] (htab.trans rfl) (fun z h => nomatch h) (by decide) (by decide) (hts (.classLink RL 25 "java/lang/IndexOutOfBoundsException") (by decide +kernel)) (va_Nw.use rfl (hTK.2.1 "java/lang/IndexOutOfBoundsException" (by decide))) hce hcv hcl ?_
  refine lv_astore_n (lv' := [(3, .ref q9), (0, .ref xo), (1, .int x), (2, .ref ou)]) hx hb dL_rank_12 rfl hl (by decide) rfl (fun ls hl => ?_)
  refine lv_iconst (v := (nI 1)) hx hb dL_rank_13 (by decide) ?_
  exact W.iret (v := (nI 1)) hx hb hr (fun t ht hW => ⟨⟨_, (), rfl, rfl, by rw [ht]; exact hP, hD⟩, hS.F ht⟩) hS.2.2 dL_rank_14

set_option maxHeartbeats 4000000 in
set_option maxRecDepth 100000 in
theorem h_rank_2 (l : Launch) (hlt : l.stackTraces = false) (dG : va_G) (cI cJ : ClassId) (A : Nat → Prop) (xo tl ts : Nat) (bt : Bool) (se lb : Nat) (g gA n ec : Nat) (ns : Nat → Int64) (hn : n ≤ 48) (ou : Nat) (of : Nat → Int64) (x : Int32) (hw : wr x x n bt = 2) (X : va_W) : Met l yL_rank wsL_rank ({ frames := 10, cells := 1, slots := 6, locals := 176 } : Room) (XPc dG cI cJ [.ref xo, .int x, .ref ou] (XW xo g lb se tl ts (bI bt) ++ (GW cJ g gA (nI n) (nI ec) ns ++ (OW cJ ou of ++ X))) A) (va_Qi (S := Unit) (fun r _ => r = nI 2) (fun _ => WB dG A (XW xo g lb se tl ts (bI bt) ++ (GW cJ g gA (nI n) (nI ec) ns ++ (OW cJ ou of ++ X)))) A) 1 6 A := by
  refine va_MetW (cc := cL_rank) (maxL := 4) (ret := (some .int)) (hh := [(0, 9, 12, 25), (0, 9, 15, 13)]) (by decide) rfl ?_
  intro p e s m args below meth c s₁ B9 hml hv
  obtain ⟨rfl, hP, hK, hD, hTK, hTH⟩ := hv
  have hx := B9.exec
  have hb := B9.bytes
  have hr := B9.returns
  have hts := atoms_spec (ws := wsL_rank) B9.pre
  have hown : s.vm.findClass RL = some m.cls := findClass_of_methodNamed B9.named
  have hlocks := B9.notSynchronized
  have hS : va_S A s.heap s.heap [] := va_S.rf
  have hl := lv_entry ([.ref xo, .int x, .ref ou]) (n := 4) (Nat.le_of_ble_eq_true rfl)
  rw [lg_entry_eq]
  generalize (lg_sl ([.ref xo, .int x, .ref ou]) ++ List.replicate (4 - (lg_sl ([.ref xo, .int x, .ref ou])).length) Slot.unset).toArray = ls at hl ⊢
  have hl : lv_has ls 4 [(0, .ref xo), (1, .int x), (2, .ref ou)] := hl
  have htab := vx_table (x := yL_rank) B9 (hts (.codeWith yL_rank cL_rank 4 (some .int) [(0, 9, 12, 25), (0, 9, 15, 13)]) (by decide +kernel))
  refine lv_aload_n hx hb dL_rank_0 rfl (lv_at hl 2 rfl) ?_
  refine lv_iconst (v := (nI 0)) hx hb dL_rank_1 (by decide) ?_
  refine lv_aload_n hx hb dL_rank_2 rfl (lv_at hl 0 rfl) ?_
  refine lv_iload_n hx hb dL_rank_3 rfl (lv_at hl 1 rfl) ?_
  refine vx_calli (vx_runV (As := [.int x]) (rest := [.int (nI 0), .ref ou]) ⟨hx, hb, hml, hown, hts⟩ (x_rank l hlt dG cI cJ A xo tl ts bt se lb g gA n ec ns hn x 2 hw (by decide) _) (cwV 1 hts gL_rank_X3_rank rfl rfl rfl (by decide +kernel) ⟨Nat.le_of_ble_eq_true rfl, Nat.le_of_ble_eq_true rfl⟩) (XPc.pre hP hD hK hTK hTH (va_recv hK.1 hP (ci := 3) (q0 := 0) rfl rfl)) rfl rfl hl.1 rfl (lv_room (Nat.le_of_ble_eq_true rfl)) dL_rank_4 ⟨Nat.le_of_ble_eq_true rfl, Nat.le_of_ble_eq_true rfl⟩) hS (fun q _ h => h) (fun q h => h) (fun q _ h => h.elim) (fun E ce q9 u9 t H locs ht hvm _ hB hz1 hk1 hS hce hcv hcl => ?_) (fun _r9 u9 t H1 locs1 ht hvm hf _ _ _ _ => hf.elim)
  obtain ⟨hE, hP⟩ := hB
  have hE : E = "java/lang/IllegalStateException" := hE
  subst hE
  rw [ht] at hP
  refine vx_catch (own := RL) (name := "java/lang/IllegalStateException") (pc := 4) hown [⟨0, 9, 12, 25⟩] ⟨0, 9, 15, 13⟩ [] (htab.trans rfl) (List.forall_mem_cons.mpr ⟨Or.inr ⟨by decide, "java/lang/IndexOutOfBoundsException", hts (.classLink RL 25 "java/lang/IndexOutOfBoundsException") (by decide +kernel), hTK.2.2.1 "java/lang/IllegalStateException" (by decide) "java/lang/IndexOutOfBoundsException" (by decide) (by decide)⟩, fun z h => nomatch h⟩) (by decide) (by decide) (hts (.classLink RL 13 "java/lang/IllegalStateException") (by decide +kernel)) (va_Nw.use rfl (hTK.2.1 "java/lang/IllegalStateException" (by decide))) hce hcv hcl ?_
  refine lv_astore_n (lv' := [(3, .ref q9), (0, .ref xo), (1, .int x), (2, .ref ou)]) hx hb dL_rank_15 rfl hl (by decide) rfl (fun ls hl => ?_)
  refine lv_iconst (v := (nI 2)) hx hb dL_rank_16 (by decide) ?_
  exact W.iret (v := (nI 2)) hx hb hr (fun t ht hW => ⟨⟨_, (), rfl, rfl, by rw [ht]; exact hP, hD⟩, hS.F ht⟩) hS.2.2 dL_rank_17

set_option maxHeartbeats 4000000 in
set_option maxRecDepth 100000 in
theorem h_labelSize_1 (l : Launch) (hlt : l.stackTraces = false) (dG : va_G) (cI cJ : ClassId) (A : Nat → Prop) (xo tl ts : Nat) (bt : Bool) (se lb : Nat) (g gA n ec : Nat) (ns : Nat → Int64) (hn : n ≤ 48) (ou : Nat) (of : Nat → Int64) (x : Int32) (hw : wr x x n bt = 1) (X : va_W) : Met l yL_labelSize wsL_labelSize ({ frames := 10, cells := 1, slots := 6, locals := 176 } : Room) (XPc dG cI cJ [.ref xo, .int x, .ref ou] (XW xo g lb se tl ts (bI bt) ++ (GW cJ g gA (nI n) (nI ec) ns ++ (OW cJ ou of ++ X))) A) (va_Qi (S := Unit) (fun r _ => r = nI 1) (fun _ => WB dG A (XW xo g lb se tl ts (bI bt) ++ (GW cJ g gA (nI n) (nI ec) ns ++ (OW cJ ou of ++ X)))) A) 1 6 A := by
  refine va_MetW (cc := cL_labelSize) (maxL := 4) (ret := (some .int)) (hh := [(0, 9, 12, 25), (0, 9, 15, 13)]) (by decide) rfl ?_
  intro p e s m args below meth c s₁ B9 hml hv
  obtain ⟨rfl, hP, hK, hD, hTK, hTH⟩ := hv
  have hx := B9.exec
  have hb := B9.bytes
  have hr := B9.returns
  have hts := atoms_spec (ws := wsL_labelSize) B9.pre
  have hown : s.vm.findClass RL = some m.cls := findClass_of_methodNamed B9.named
  have hlocks := B9.notSynchronized
  have hS : va_S A s.heap s.heap [] := va_S.rf
  have hl := lv_entry ([.ref xo, .int x, .ref ou]) (n := 4) (Nat.le_of_ble_eq_true rfl)
  rw [lg_entry_eq]
  generalize (lg_sl ([.ref xo, .int x, .ref ou]) ++ List.replicate (4 - (lg_sl ([.ref xo, .int x, .ref ou])).length) Slot.unset).toArray = ls at hl ⊢
  have hl : lv_has ls 4 [(0, .ref xo), (1, .int x), (2, .ref ou)] := hl
  have htab := vx_table (x := yL_labelSize) B9 (hts (.codeWith yL_labelSize cL_labelSize 4 (some .int) [(0, 9, 12, 25), (0, 9, 15, 13)]) (by decide +kernel))
  refine lv_aload_n hx hb dL_labelSize_0 rfl (lv_at hl 2 rfl) ?_
  refine lv_iconst (v := (nI 0)) hx hb dL_labelSize_1 (by decide) ?_
  refine lv_aload_n hx hb dL_labelSize_2 rfl (lv_at hl 0 rfl) ?_
  refine lv_iload_n hx hb dL_labelSize_3 rfl (lv_at hl 1 rfl) ?_
  refine vx_calli (vx_runV (As := [.int x]) (rest := [.int (nI 0), .ref ou]) ⟨hx, hb, hml, hown, hts⟩ (x_labelSize l hlt dG cI cJ A xo tl ts bt se lb g gA n ec ns hn x 1 hw (by decide) _) (cwV 1 hts gL_labelSize_X3_labelSize rfl rfl rfl (by decide +kernel) ⟨Nat.le_of_ble_eq_true rfl, Nat.le_of_ble_eq_true rfl⟩) (XPc.pre hP hD hK hTK hTH (va_recv hK.1 hP (ci := 3) (q0 := 0) rfl rfl)) rfl rfl hl.1 rfl (lv_room (Nat.le_of_ble_eq_true rfl)) dL_labelSize_4 ⟨Nat.le_of_ble_eq_true rfl, Nat.le_of_ble_eq_true rfl⟩) hS (fun q _ h => h) (fun q h => h) (fun q _ h => h.elim) (fun E ce q9 u9 t H locs ht hvm _ hB hz1 hk1 hS hce hcv hcl => ?_) (fun _r9 u9 t H1 locs1 ht hvm hf _ _ _ _ => hf.elim)
  obtain ⟨hE, hP⟩ := hB
  have hE : E = "java/lang/IndexOutOfBoundsException" := hE
  subst hE
  rw [ht] at hP
  refine vx_catch (own := RL) (name := "java/lang/IndexOutOfBoundsException") (pc := 4) hown [] ⟨0, 9, 12, 25⟩ [⟨0, 9, 15, 13⟩] (htab.trans rfl) (fun z h => nomatch h) (by decide) (by decide) (hts (.classLink RL 25 "java/lang/IndexOutOfBoundsException") (by decide +kernel)) (va_Nw.use rfl (hTK.2.1 "java/lang/IndexOutOfBoundsException" (by decide))) hce hcv hcl ?_
  refine lv_astore_n (lv' := [(3, .ref q9), (0, .ref xo), (1, .int x), (2, .ref ou)]) hx hb dL_labelSize_12 rfl hl (by decide) rfl (fun ls hl => ?_)
  refine lv_iconst (v := (nI 1)) hx hb dL_labelSize_13 (by decide) ?_
  exact W.iret (v := (nI 1)) hx hb hr (fun t ht hW => ⟨⟨_, (), rfl, rfl, by rw [ht]; exact hP, hD⟩, hS.F ht⟩) hS.2.2 dL_labelSize_14

set_option maxHeartbeats 4000000 in
set_option maxRecDepth 100000 in
theorem h_labelSize_2 (l : Launch) (hlt : l.stackTraces = false) (dG : va_G) (cI cJ : ClassId) (A : Nat → Prop) (xo tl ts : Nat) (bt : Bool) (se lb : Nat) (g gA n ec : Nat) (ns : Nat → Int64) (hn : n ≤ 48) (ou : Nat) (of : Nat → Int64) (x : Int32) (hw : wr x x n bt = 2) (X : va_W) : Met l yL_labelSize wsL_labelSize ({ frames := 10, cells := 1, slots := 6, locals := 176 } : Room) (XPc dG cI cJ [.ref xo, .int x, .ref ou] (XW xo g lb se tl ts (bI bt) ++ (GW cJ g gA (nI n) (nI ec) ns ++ (OW cJ ou of ++ X))) A) (va_Qi (S := Unit) (fun r _ => r = nI 2) (fun _ => WB dG A (XW xo g lb se tl ts (bI bt) ++ (GW cJ g gA (nI n) (nI ec) ns ++ (OW cJ ou of ++ X)))) A) 1 6 A := by
  refine va_MetW (cc := cL_labelSize) (maxL := 4) (ret := (some .int)) (hh := [(0, 9, 12, 25), (0, 9, 15, 13)]) (by decide) rfl ?_
  intro p e s m args below meth c s₁ B9 hml hv
  obtain ⟨rfl, hP, hK, hD, hTK, hTH⟩ := hv
  have hx := B9.exec
  have hb := B9.bytes
  have hr := B9.returns
  have hts := atoms_spec (ws := wsL_labelSize) B9.pre
  have hown : s.vm.findClass RL = some m.cls := findClass_of_methodNamed B9.named
  have hlocks := B9.notSynchronized
  have hS : va_S A s.heap s.heap [] := va_S.rf
  have hl := lv_entry ([.ref xo, .int x, .ref ou]) (n := 4) (Nat.le_of_ble_eq_true rfl)
  rw [lg_entry_eq]
  generalize (lg_sl ([.ref xo, .int x, .ref ou]) ++ List.replicate (4 - (lg_sl ([.ref xo, .int x, .ref ou])).length) Slot.unset).toArray = ls at hl ⊢
  have hl : lv_has ls 4 [(0, .ref xo), (1, .int x), (2, .ref ou)] := hl
  have htab := vx_table (x := yL_labelSize) B9 (hts (.codeWith yL_labelSize cL_labelSize 4 (some .int) [(0, 9, 12, 25), (0, 9, 15, 13)]) (by decide +kernel))
  refine lv_aload_n hx hb dL_labelSize_0 rfl (lv_at hl 2 rfl) ?_
  refine lv_iconst (v := (nI 0)) hx hb dL_labelSize_1 (by decide) ?_
  refine lv_aload_n hx hb dL_labelSize_2 rfl (lv_at hl 0 rfl) ?_
  refine lv_iload_n hx hb dL_labelSize_3 rfl (lv_at hl 1 rfl) ?_
  refine vx_calli (vx_runV (As := [.int x]) (rest := [.int (nI 0), .ref ou]) ⟨hx, hb, hml, hown, hts⟩ (x_labelSize l hlt dG cI cJ A xo tl ts bt se lb g gA n ec ns hn x 2 hw (by decide) _) (cwV 1 hts gL_labelSize_X3_labelSize rfl rfl rfl (by decide +kernel) ⟨Nat.le_of_ble_eq_true rfl, Nat.le_of_ble_eq_true rfl⟩) (XPc.pre hP hD hK hTK hTH (va_recv hK.1 hP (ci := 3) (q0 := 0) rfl rfl)) rfl rfl hl.1 rfl (lv_room (Nat.le_of_ble_eq_true rfl)) dL_labelSize_4 ⟨Nat.le_of_ble_eq_true rfl, Nat.le_of_ble_eq_true rfl⟩) hS (fun q _ h => h) (fun q h => h) (fun q _ h => h.elim) (fun E ce q9 u9 t H locs ht hvm _ hB hz1 hk1 hS hce hcv hcl => ?_) (fun _r9 u9 t H1 locs1 ht hvm hf _ _ _ _ => hf.elim)
  obtain ⟨hE, hP⟩ := hB
  have hE : E = "java/lang/IllegalStateException" := hE
  subst hE
  rw [ht] at hP
  refine vx_catch (own := RL) (name := "java/lang/IllegalStateException") (pc := 4) hown [⟨0, 9, 12, 25⟩] ⟨0, 9, 15, 13⟩ [] (htab.trans rfl) (List.forall_mem_cons.mpr ⟨Or.inr ⟨by decide, "java/lang/IndexOutOfBoundsException", hts (.classLink RL 25 "java/lang/IndexOutOfBoundsException") (by decide +kernel), hTK.2.2.1 "java/lang/IllegalStateException" (by decide) "java/lang/IndexOutOfBoundsException" (by decide) (by decide)⟩, fun z h => nomatch h⟩) (by decide) (by decide) (hts (.classLink RL 13 "java/lang/IllegalStateException") (by decide +kernel)) (va_Nw.use rfl (hTK.2.1 "java/lang/IllegalStateException" (by decide))) hce hcv hcl ?_
  refine lv_astore_n (lv' := [(3, .ref q9), (0, .ref xo), (1, .int x), (2, .ref ou)]) hx hb dL_labelSize_15 rfl hl (by decide) rfl (fun ls hl => ?_)
  refine lv_iconst (v := (nI 2)) hx hb dL_labelSize_16 (by decide) ?_
  exact W.iret (v := (nI 2)) hx hb hr (fun t ht hW => ⟨⟨_, (), rfl, rfl, by rw [ht]; exact hP, hD⟩, hS.F ht⟩) hS.2.2 dL_labelSize_17

set_option maxHeartbeats 4000000 in
set_option maxRecDepth 100000 in
theorem h_entryHub_1 (l : Launch) (hlt : l.stackTraces = false) (dG : va_G) (cI cJ : ClassId) (A : Nat → Prop) (xo tl ts : Nat) (bt : Bool) (se lb : Nat) (g gA n ec : Nat) (ns : Nat → Int64) (hn : n ≤ 48) (ou : Nat) (of : Nat → Int64) (x z : Int32) (hw : wr x x n bt = 1) (X : va_W) : Met l yL_entryHub wsL_entryHub ({ frames := 10, cells := 1, slots := 6, locals := 177 } : Room) (XPc dG cI cJ [.ref xo, .int x, .int z, .ref ou] (XW xo g lb se tl ts (bI bt) ++ (GW cJ g gA (nI n) (nI ec) ns ++ (OW cJ ou of ++ X))) A) (va_Qi (S := Unit) (fun r _ => r = nI 1) (fun _ => WB dG A (XW xo g lb se tl ts (bI bt) ++ (GW cJ g gA (nI n) (nI ec) ns ++ (OW cJ ou of ++ X)))) A) 1 6 A := by
  refine va_MetW (cc := cL_entryHub) (maxL := 5) (ret := (some .int)) (hh := [(0, 10, 13, 25), (0, 10, 17, 13), (0, 10, 21, 19)]) (by decide) rfl ?_
  intro p e s m args below meth c s₁ B9 hml hv
  obtain ⟨rfl, hP, hK, hD, hTK, hTH⟩ := hv
  have hx := B9.exec
  have hb := B9.bytes
  have hr := B9.returns
  have hts := atoms_spec (ws := wsL_entryHub) B9.pre
  have hown : s.vm.findClass RL = some m.cls := findClass_of_methodNamed B9.named
  have hlocks := B9.notSynchronized
  have hS : va_S A s.heap s.heap [] := va_S.rf
  have hl := lv_entry ([.ref xo, .int x, .int z, .ref ou]) (n := 5) (Nat.le_of_ble_eq_true rfl)
  rw [lg_entry_eq]
  generalize (lg_sl ([.ref xo, .int x, .int z, .ref ou]) ++ List.replicate (5 - (lg_sl ([.ref xo, .int x, .int z, .ref ou])).length) Slot.unset).toArray = ls at hl ⊢
  have hl : lv_has ls 5 [(0, .ref xo), (1, .int x), (2, .int z), (3, .ref ou)] := hl
  have htab := vx_table (x := yL_entryHub) B9 (hts (.codeWith yL_entryHub cL_entryHub 5 (some .int) [(0, 10, 13, 25), (0, 10, 17, 13), (0, 10, 21, 19)]) (by decide +kernel))
  refine lv_aload_n hx hb dL_entryHub_0 rfl (lv_at hl 3 rfl) ?_
  refine lv_iconst (v := (nI 0)) hx hb dL_entryHub_1 (by decide) ?_
  refine lv_aload_n hx hb dL_entryHub_2 rfl (lv_at hl 0 rfl) ?_
  refine lv_iload_n hx hb dL_entryHub_3 rfl (lv_at hl 1 rfl) ?_
  refine lv_iload_n hx hb dL_entryHub_4 rfl (lv_at hl 2 rfl) ?_
  refine vx_calli (vx_runV (As := [.int x, .int z]) (rest := [.int (nI 0), .ref ou]) ⟨hx, hb, hml, hown, hts⟩ (x_entryHub l hlt dG cI cJ A xo tl ts bt se lb g gA n ec ns hn x z 1 hw (by decide) _) (cwV 2 hts gL_entryHub_X3_entryHub rfl rfl rfl (by decide +kernel) ⟨Nat.le_of_ble_eq_true rfl, Nat.le_of_ble_eq_true rfl⟩) (XPc.pre hP hD hK hTK hTH (va_recv hK.1 hP (ci := 3) (q0 := 0) rfl rfl)) rfl rfl hl.1 rfl (lv_room (Nat.le_of_ble_eq_true rfl)) dL_entryHub_5 ⟨Nat.le_of_ble_eq_true rfl, Nat.le_of_ble_eq_true rfl⟩) hS (fun q _ h => h) (fun q h => h) (fun q _ h => h.elim) (fun E ce q9 u9 t H locs ht hvm _ hB hz1 hk1 hS hce hcv hcl => ?_) (fun _r9 u9 t H1 locs1 ht hvm hf _ _ _ _ => hf.elim)
  obtain ⟨hE, hP⟩ := hB
  have hE : E = "java/lang/IndexOutOfBoundsException" := hE
  subst hE
  rw [ht] at hP
  refine vx_catch (own := RL) (name := "java/lang/IndexOutOfBoundsException") (pc := 5) hown [] ⟨0, 10, 13, 25⟩ [⟨0, 10, 17, 13⟩, ⟨0, 10, 21, 19⟩] (htab.trans rfl) (fun z h => nomatch h) (by decide) (by decide) (hts (.classLink RL 25 "java/lang/IndexOutOfBoundsException") (by decide +kernel)) (va_Nw.use rfl (hTK.2.1 "java/lang/IndexOutOfBoundsException" (by decide))) hce hcv hcl ?_
  refine lv_astore (lv' := [(4, .ref q9), (0, .ref xo), (1, .int x), (2, .int z), (3, .ref ou)]) hx hb dL_entryHub_13 hl (by decide) rfl (fun ls hl => ?_)
  refine lv_iconst (v := (nI 1)) hx hb dL_entryHub_15 (by decide) ?_
  exact W.iret (v := (nI 1)) hx hb hr (fun t ht hW => ⟨⟨_, (), rfl, rfl, by rw [ht]; exact hP, hD⟩, hS.F ht⟩) hS.2.2 dL_entryHub_16

set_option maxHeartbeats 4000000 in
set_option maxRecDepth 100000 in
theorem h_entryHub_2 (l : Launch) (hlt : l.stackTraces = false) (dG : va_G) (cI cJ : ClassId) (A : Nat → Prop) (xo tl ts : Nat) (bt : Bool) (se lb : Nat) (g gA n ec : Nat) (ns : Nat → Int64) (hn : n ≤ 48) (ou : Nat) (of : Nat → Int64) (x z : Int32) (hw : wr x x n bt = 2) (X : va_W) : Met l yL_entryHub wsL_entryHub ({ frames := 10, cells := 1, slots := 6, locals := 177 } : Room) (XPc dG cI cJ [.ref xo, .int x, .int z, .ref ou] (XW xo g lb se tl ts (bI bt) ++ (GW cJ g gA (nI n) (nI ec) ns ++ (OW cJ ou of ++ X))) A) (va_Qi (S := Unit) (fun r _ => r = nI 2) (fun _ => WB dG A (XW xo g lb se tl ts (bI bt) ++ (GW cJ g gA (nI n) (nI ec) ns ++ (OW cJ ou of ++ X)))) A) 1 6 A := by
  refine va_MetW (cc := cL_entryHub) (maxL := 5) (ret := (some .int)) (hh := [(0, 10, 13, 25), (0, 10, 17, 13), (0, 10, 21, 19)]) (by decide) rfl ?_
  intro p e s m args below meth c s₁ B9 hml hv
  obtain ⟨rfl, hP, hK, hD, hTK, hTH⟩ := hv
  have hx := B9.exec
  have hb := B9.bytes
  have hr := B9.returns
  have hts := atoms_spec (ws := wsL_entryHub) B9.pre
  have hown : s.vm.findClass RL = some m.cls := findClass_of_methodNamed B9.named
  have hlocks := B9.notSynchronized
  have hS : va_S A s.heap s.heap [] := va_S.rf
  have hl := lv_entry ([.ref xo, .int x, .int z, .ref ou]) (n := 5) (Nat.le_of_ble_eq_true rfl)
  rw [lg_entry_eq]
  generalize (lg_sl ([.ref xo, .int x, .int z, .ref ou]) ++ List.replicate (5 - (lg_sl ([.ref xo, .int x, .int z, .ref ou])).length) Slot.unset).toArray = ls at hl ⊢
  have hl : lv_has ls 5 [(0, .ref xo), (1, .int x), (2, .int z), (3, .ref ou)] := hl
  have htab := vx_table (x := yL_entryHub) B9 (hts (.codeWith yL_entryHub cL_entryHub 5 (some .int) [(0, 10, 13, 25), (0, 10, 17, 13), (0, 10, 21, 19)]) (by decide +kernel))
  refine lv_aload_n hx hb dL_entryHub_0 rfl (lv_at hl 3 rfl) ?_
  refine lv_iconst (v := (nI 0)) hx hb dL_entryHub_1 (by decide) ?_
  refine lv_aload_n hx hb dL_entryHub_2 rfl (lv_at hl 0 rfl) ?_
  refine lv_iload_n hx hb dL_entryHub_3 rfl (lv_at hl 1 rfl) ?_
  refine lv_iload_n hx hb dL_entryHub_4 rfl (lv_at hl 2 rfl) ?_
  refine vx_calli (vx_runV (As := [.int x, .int z]) (rest := [.int (nI 0), .ref ou]) ⟨hx, hb, hml, hown, hts⟩ (x_entryHub l hlt dG cI cJ A xo tl ts bt se lb g gA n ec ns hn x z 2 hw (by decide) _) (cwV 2 hts gL_entryHub_X3_entryHub rfl rfl rfl (by decide +kernel) ⟨Nat.le_of_ble_eq_true rfl, Nat.le_of_ble_eq_true rfl⟩) (XPc.pre hP hD hK hTK hTH (va_recv hK.1 hP (ci := 3) (q0 := 0) rfl rfl)) rfl rfl hl.1 rfl (lv_room (Nat.le_of_ble_eq_true rfl)) dL_entryHub_5 ⟨Nat.le_of_ble_eq_true rfl, Nat.le_of_ble_eq_true rfl⟩) hS (fun q _ h => h) (fun q h => h) (fun q _ h => h.elim) (fun E ce q9 u9 t H locs ht hvm _ hB hz1 hk1 hS hce hcv hcl => ?_) (fun _r9 u9 t H1 locs1 ht hvm hf _ _ _ _ => hf.elim)
  obtain ⟨hE, hP⟩ := hB
  have hE : E = "java/lang/IllegalStateException" := hE
  subst hE
  rw [ht] at hP
  refine vx_catch (own := RL) (name := "java/lang/IllegalStateException") (pc := 5) hown [⟨0, 10, 13, 25⟩] ⟨0, 10, 17, 13⟩ [⟨0, 10, 21, 19⟩] (htab.trans rfl) (List.forall_mem_cons.mpr ⟨Or.inr ⟨by decide, "java/lang/IndexOutOfBoundsException", hts (.classLink RL 25 "java/lang/IndexOutOfBoundsException") (by decide +kernel), hTK.2.2.1 "java/lang/IllegalStateException" (by decide) "java/lang/IndexOutOfBoundsException" (by decide) (by decide)⟩, fun z h => nomatch h⟩) (by decide) (by decide) (hts (.classLink RL 13 "java/lang/IllegalStateException") (by decide +kernel)) (va_Nw.use rfl (hTK.2.1 "java/lang/IllegalStateException" (by decide))) hce hcv hcl ?_
  refine lv_astore (lv' := [(4, .ref q9), (0, .ref xo), (1, .int x), (2, .int z), (3, .ref ou)]) hx hb dL_entryHub_17 hl (by decide) rfl (fun ls hl => ?_)
  refine lv_iconst (v := (nI 2)) hx hb dL_entryHub_19 (by decide) ?_
  exact W.iret (v := (nI 2)) hx hb hr (fun t ht hW => ⟨⟨_, (), rfl, rfl, by rw [ht]; exact hP, hD⟩, hS.F ht⟩) hS.2.2 dL_entryHub_20

set_option maxHeartbeats 4000000 in
set_option maxRecDepth 100000 in
theorem h_entryDistance_1 (l : Launch) (hlt : l.stackTraces = false) (dG : va_G) (cI cJ : ClassId) (A : Nat → Prop) (xo tl ts : Nat) (bt : Bool) (se lb : Nat) (g gA n ec : Nat) (ns : Nat → Int64) (hn : n ≤ 48) (ou : Nat) (of : Nat → Int64) (x z : Int32) (hw : wr x x n bt = 1) (X : va_W) : Met l yL_entryDistance wsL_entryDistance ({ frames := 10, cells := 1, slots := 6, locals := 177 } : Room) (XPc dG cI cJ [.ref xo, .int x, .int z, .ref ou] (XW xo g lb se tl ts (bI bt) ++ (GW cJ g gA (nI n) (nI ec) ns ++ (OW cJ ou of ++ X))) A) (va_Qi (S := Unit) (fun r _ => r = nI 1) (fun _ => WB dG A (XW xo g lb se tl ts (bI bt) ++ (GW cJ g gA (nI n) (nI ec) ns ++ (OW cJ ou of ++ X)))) A) 1 6 A := by
  refine va_MetW (cc := cL_entryDistance) (maxL := 5) (ret := (some .int)) (hh := [(0, 10, 13, 25), (0, 10, 17, 13), (0, 10, 21, 19)]) (by decide) rfl ?_
  intro p e s m args below meth c s₁ B9 hml hv
  obtain ⟨rfl, hP, hK, hD, hTK, hTH⟩ := hv
  have hx := B9.exec
  have hb := B9.bytes
  have hr := B9.returns
  have hts := atoms_spec (ws := wsL_entryDistance) B9.pre
  have hown : s.vm.findClass RL = some m.cls := findClass_of_methodNamed B9.named
  have hlocks := B9.notSynchronized
  have hS : va_S A s.heap s.heap [] := va_S.rf
  have hl := lv_entry ([.ref xo, .int x, .int z, .ref ou]) (n := 5) (Nat.le_of_ble_eq_true rfl)
  rw [lg_entry_eq]
  generalize (lg_sl ([.ref xo, .int x, .int z, .ref ou]) ++ List.replicate (5 - (lg_sl ([.ref xo, .int x, .int z, .ref ou])).length) Slot.unset).toArray = ls at hl ⊢
  have hl : lv_has ls 5 [(0, .ref xo), (1, .int x), (2, .int z), (3, .ref ou)] := hl
  have htab := vx_table (x := yL_entryDistance) B9 (hts (.codeWith yL_entryDistance cL_entryDistance 5 (some .int) [(0, 10, 13, 25), (0, 10, 17, 13), (0, 10, 21, 19)]) (by decide +kernel))
  refine lv_aload_n hx hb dL_entryDistance_0 rfl (lv_at hl 3 rfl) ?_
  refine lv_iconst (v := (nI 0)) hx hb dL_entryDistance_1 (by decide) ?_
  refine lv_aload_n hx hb dL_entryDistance_2 rfl (lv_at hl 0 rfl) ?_
  refine lv_iload_n hx hb dL_entryDistance_3 rfl (lv_at hl 1 rfl) ?_
  refine lv_iload_n hx hb dL_entryDistance_4 rfl (lv_at hl 2 rfl) ?_
  refine vx_calli (vx_runV (As := [.int x, .int z]) (rest := [.int (nI 0), .ref ou]) ⟨hx, hb, hml, hown, hts⟩ (x_entryDistance l hlt dG cI cJ A xo tl ts bt se lb g gA n ec ns hn x z 1 hw (by decide) _) (cwV 2 hts gL_entryDistance_X3_entryDistance rfl rfl rfl (by decide +kernel) ⟨Nat.le_of_ble_eq_true rfl, Nat.le_of_ble_eq_true rfl⟩) (XPc.pre hP hD hK hTK hTH (va_recv hK.1 hP (ci := 3) (q0 := 0) rfl rfl)) rfl rfl hl.1 rfl (lv_room (Nat.le_of_ble_eq_true rfl)) dL_entryDistance_5 ⟨Nat.le_of_ble_eq_true rfl, Nat.le_of_ble_eq_true rfl⟩) hS (fun q _ h => h) (fun q h => h) (fun q _ h => h.elim) (fun E ce q9 u9 t H locs ht hvm _ hB hz1 hk1 hS hce hcv hcl => ?_) (fun _r9 u9 t H1 locs1 ht hvm hf _ _ _ _ => hf.elim)
  obtain ⟨hE, hP⟩ := hB
  have hE : E = "java/lang/IndexOutOfBoundsException" := hE
  subst hE
  rw [ht] at hP
  refine vx_catch (own := RL) (name := "java/lang/IndexOutOfBoundsException") (pc := 5) hown [] ⟨0, 10, 13, 25⟩ [⟨0, 10, 17, 13⟩, ⟨0, 10, 21, 19⟩] (htab.trans rfl) (fun z h => nomatch h) (by decide) (by decide) (hts (.classLink RL 25 "java/lang/IndexOutOfBoundsException") (by decide +kernel)) (va_Nw.use rfl (hTK.2.1 "java/lang/IndexOutOfBoundsException" (by decide))) hce hcv hcl ?_
  refine lv_astore (lv' := [(4, .ref q9), (0, .ref xo), (1, .int x), (2, .int z), (3, .ref ou)]) hx hb dL_entryDistance_13 hl (by decide) rfl (fun ls hl => ?_)
  refine lv_iconst (v := (nI 1)) hx hb dL_entryDistance_15 (by decide) ?_
  exact W.iret (v := (nI 1)) hx hb hr (fun t ht hW => ⟨⟨_, (), rfl, rfl, by rw [ht]; exact hP, hD⟩, hS.F ht⟩) hS.2.2 dL_entryDistance_16

set_option maxHeartbeats 4000000 in
set_option maxRecDepth 100000 in
theorem h_entryDistance_2 (l : Launch) (hlt : l.stackTraces = false) (dG : va_G) (cI cJ : ClassId) (A : Nat → Prop) (xo tl ts : Nat) (bt : Bool) (se lb : Nat) (g gA n ec : Nat) (ns : Nat → Int64) (hn : n ≤ 48) (ou : Nat) (of : Nat → Int64) (x z : Int32) (hw : wr x x n bt = 2) (X : va_W) : Met l yL_entryDistance wsL_entryDistance ({ frames := 10, cells := 1, slots := 6, locals := 177 } : Room) (XPc dG cI cJ [.ref xo, .int x, .int z, .ref ou] (XW xo g lb se tl ts (bI bt) ++ (GW cJ g gA (nI n) (nI ec) ns ++ (OW cJ ou of ++ X))) A) (va_Qi (S := Unit) (fun r _ => r = nI 2) (fun _ => WB dG A (XW xo g lb se tl ts (bI bt) ++ (GW cJ g gA (nI n) (nI ec) ns ++ (OW cJ ou of ++ X)))) A) 1 6 A := by
  refine va_MetW (cc := cL_entryDistance) (maxL := 5) (ret := (some .int)) (hh := [(0, 10, 13, 25), (0, 10, 17, 13), (0, 10, 21, 19)]) (by decide) rfl ?_
  intro p e s m args below meth c s₁ B9 hml hv
  obtain ⟨rfl, hP, hK, hD, hTK, hTH⟩ := hv
  have hx := B9.exec
  have hb := B9.bytes
  have hr := B9.returns
  have hts := atoms_spec (ws := wsL_entryDistance) B9.pre
  have hown : s.vm.findClass RL = some m.cls := findClass_of_methodNamed B9.named
  have hlocks := B9.notSynchronized
  have hS : va_S A s.heap s.heap [] := va_S.rf
  have hl := lv_entry ([.ref xo, .int x, .int z, .ref ou]) (n := 5) (Nat.le_of_ble_eq_true rfl)
  rw [lg_entry_eq]
  generalize (lg_sl ([.ref xo, .int x, .int z, .ref ou]) ++ List.replicate (5 - (lg_sl ([.ref xo, .int x, .int z, .ref ou])).length) Slot.unset).toArray = ls at hl ⊢
  have hl : lv_has ls 5 [(0, .ref xo), (1, .int x), (2, .int z), (3, .ref ou)] := hl
  have htab := vx_table (x := yL_entryDistance) B9 (hts (.codeWith yL_entryDistance cL_entryDistance 5 (some .int) [(0, 10, 13, 25), (0, 10, 17, 13), (0, 10, 21, 19)]) (by decide +kernel))
  refine lv_aload_n hx hb dL_entryDistance_0 rfl (lv_at hl 3 rfl) ?_
  refine lv_iconst (v := (nI 0)) hx hb dL_entryDistance_1 (by decide) ?_
  refine lv_aload_n hx hb dL_entryDistance_2 rfl (lv_at hl 0 rfl) ?_
  refine lv_iload_n hx hb dL_entryDistance_3 rfl (lv_at hl 1 rfl) ?_
  refine lv_iload_n hx hb dL_entryDistance_4 rfl (lv_at hl 2 rfl) ?_
  refine vx_calli (vx_runV (As := [.int x, .int z]) (rest := [.int (nI 0), .ref ou]) ⟨hx, hb, hml, hown, hts⟩ (x_entryDistance l hlt dG cI cJ A xo tl ts bt se lb g gA n ec ns hn x z 2 hw (by decide) _) (cwV 2 hts gL_entryDistance_X3_entryDistance rfl rfl rfl (by decide +kernel) ⟨Nat.le_of_ble_eq_true rfl, Nat.le_of_ble_eq_true rfl⟩) (XPc.pre hP hD hK hTK hTH (va_recv hK.1 hP (ci := 3) (q0 := 0) rfl rfl)) rfl rfl hl.1 rfl (lv_room (Nat.le_of_ble_eq_true rfl)) dL_entryDistance_5 ⟨Nat.le_of_ble_eq_true rfl, Nat.le_of_ble_eq_true rfl⟩) hS (fun q _ h => h) (fun q h => h) (fun q _ h => h.elim) (fun E ce q9 u9 t H locs ht hvm _ hB hz1 hk1 hS hce hcv hcl => ?_) (fun _r9 u9 t H1 locs1 ht hvm hf _ _ _ _ => hf.elim)
  obtain ⟨hE, hP⟩ := hB
  have hE : E = "java/lang/IllegalStateException" := hE
  subst hE
  rw [ht] at hP
  refine vx_catch (own := RL) (name := "java/lang/IllegalStateException") (pc := 5) hown [⟨0, 10, 13, 25⟩] ⟨0, 10, 17, 13⟩ [⟨0, 10, 21, 19⟩] (htab.trans rfl) (List.forall_mem_cons.mpr ⟨Or.inr ⟨by decide, "java/lang/IndexOutOfBoundsException", hts (.classLink RL 25 "java/lang/IndexOutOfBoundsException") (by decide +kernel), hTK.2.2.1 "java/lang/IllegalStateException" (by decide) "java/lang/IndexOutOfBoundsException" (by decide) (by decide)⟩, fun z h => nomatch h⟩) (by decide) (by decide) (hts (.classLink RL 13 "java/lang/IllegalStateException") (by decide +kernel)) (va_Nw.use rfl (hTK.2.1 "java/lang/IllegalStateException" (by decide))) hce hcv hcl ?_
  refine lv_astore (lv' := [(4, .ref q9), (0, .ref xo), (1, .int x), (2, .int z), (3, .ref ou)]) hx hb dL_entryDistance_17 hl (by decide) rfl (fun ls hl => ?_)
  refine lv_iconst (v := (nI 2)) hx hb dL_entryDistance_19 (by decide) ?_
  exact W.iret (v := (nI 2)) hx hb hr (fun t ht hW => ⟨⟨_, (), rfl, rfl, by rw [ht]; exact hP, hD⟩, hS.F ht⟩) hS.2.2 dL_entryDistance_20

set_option maxHeartbeats 4000000 in
set_option maxRecDepth 100000 in
theorem h_entryParent_1 (l : Launch) (hlt : l.stackTraces = false) (dG : va_G) (cI cJ : ClassId) (A : Nat → Prop) (xo tl ts : Nat) (bt : Bool) (se lb : Nat) (g gA n ec : Nat) (ns : Nat → Int64) (hn : n ≤ 48) (ou : Nat) (of : Nat → Int64) (x z : Int32) (hw : wr x x n bt = 1) (X : va_W) : Met l yL_entryParent wsL_entryParent ({ frames := 10, cells := 1, slots := 6, locals := 177 } : Room) (XPc dG cI cJ [.ref xo, .int x, .int z, .ref ou] (XW xo g lb se tl ts (bI bt) ++ (GW cJ g gA (nI n) (nI ec) ns ++ (OW cJ ou of ++ X))) A) (va_Qi (S := Unit) (fun r _ => r = nI 1) (fun _ => WB dG A (XW xo g lb se tl ts (bI bt) ++ (GW cJ g gA (nI n) (nI ec) ns ++ (OW cJ ou of ++ X)))) A) 1 6 A := by
  refine va_MetW (cc := cL_entryParent) (maxL := 5) (ret := (some .int)) (hh := [(0, 10, 13, 25), (0, 10, 17, 13), (0, 10, 21, 19)]) (by decide) rfl ?_
  intro p e s m args below meth c s₁ B9 hml hv
  obtain ⟨rfl, hP, hK, hD, hTK, hTH⟩ := hv
  have hx := B9.exec
  have hb := B9.bytes
  have hr := B9.returns
  have hts := atoms_spec (ws := wsL_entryParent) B9.pre
  have hown : s.vm.findClass RL = some m.cls := findClass_of_methodNamed B9.named
  have hlocks := B9.notSynchronized
  have hS : va_S A s.heap s.heap [] := va_S.rf
  have hl := lv_entry ([.ref xo, .int x, .int z, .ref ou]) (n := 5) (Nat.le_of_ble_eq_true rfl)
  rw [lg_entry_eq]
  generalize (lg_sl ([.ref xo, .int x, .int z, .ref ou]) ++ List.replicate (5 - (lg_sl ([.ref xo, .int x, .int z, .ref ou])).length) Slot.unset).toArray = ls at hl ⊢
  have hl : lv_has ls 5 [(0, .ref xo), (1, .int x), (2, .int z), (3, .ref ou)] := hl
  have htab := vx_table (x := yL_entryParent) B9 (hts (.codeWith yL_entryParent cL_entryParent 5 (some .int) [(0, 10, 13, 25), (0, 10, 17, 13), (0, 10, 21, 19)]) (by decide +kernel))
  refine lv_aload_n hx hb dL_entryParent_0 rfl (lv_at hl 3 rfl) ?_
  refine lv_iconst (v := (nI 0)) hx hb dL_entryParent_1 (by decide) ?_
  refine lv_aload_n hx hb dL_entryParent_2 rfl (lv_at hl 0 rfl) ?_
  refine lv_iload_n hx hb dL_entryParent_3 rfl (lv_at hl 1 rfl) ?_
  refine lv_iload_n hx hb dL_entryParent_4 rfl (lv_at hl 2 rfl) ?_
  refine vx_calli (vx_runV (As := [.int x, .int z]) (rest := [.int (nI 0), .ref ou]) ⟨hx, hb, hml, hown, hts⟩ (x_entryParent l hlt dG cI cJ A xo tl ts bt se lb g gA n ec ns hn x z 1 hw (by decide) _) (cwV 2 hts gL_entryParent_X3_entryParent rfl rfl rfl (by decide +kernel) ⟨Nat.le_of_ble_eq_true rfl, Nat.le_of_ble_eq_true rfl⟩) (XPc.pre hP hD hK hTK hTH (va_recv hK.1 hP (ci := 3) (q0 := 0) rfl rfl)) rfl rfl hl.1 rfl (lv_room (Nat.le_of_ble_eq_true rfl)) dL_entryParent_5 ⟨Nat.le_of_ble_eq_true rfl, Nat.le_of_ble_eq_true rfl⟩) hS (fun q _ h => h) (fun q h => h) (fun q _ h => h.elim) (fun E ce q9 u9 t H locs ht hvm _ hB hz1 hk1 hS hce hcv hcl => ?_) (fun _r9 u9 t H1 locs1 ht hvm hf _ _ _ _ => hf.elim)
  obtain ⟨hE, hP⟩ := hB
  have hE : E = "java/lang/IndexOutOfBoundsException" := hE
  subst hE
  rw [ht] at hP
  refine vx_catch (own := RL) (name := "java/lang/IndexOutOfBoundsException") (pc := 5) hown [] ⟨0, 10, 13, 25⟩ [⟨0, 10, 17, 13⟩, ⟨0, 10, 21, 19⟩] (htab.trans rfl) (fun z h => nomatch h) (by decide) (by decide) (hts (.classLink RL 25 "java/lang/IndexOutOfBoundsException") (by decide +kernel)) (va_Nw.use rfl (hTK.2.1 "java/lang/IndexOutOfBoundsException" (by decide))) hce hcv hcl ?_
  refine lv_astore (lv' := [(4, .ref q9), (0, .ref xo), (1, .int x), (2, .int z), (3, .ref ou)]) hx hb dL_entryParent_13 hl (by decide) rfl (fun ls hl => ?_)
  refine lv_iconst (v := (nI 1)) hx hb dL_entryParent_15 (by decide) ?_
  exact W.iret (v := (nI 1)) hx hb hr (fun t ht hW => ⟨⟨_, (), rfl, rfl, by rw [ht]; exact hP, hD⟩, hS.F ht⟩) hS.2.2 dL_entryParent_16

set_option maxHeartbeats 4000000 in
set_option maxRecDepth 100000 in
theorem h_entryParent_2 (l : Launch) (hlt : l.stackTraces = false) (dG : va_G) (cI cJ : ClassId) (A : Nat → Prop) (xo tl ts : Nat) (bt : Bool) (se lb : Nat) (g gA n ec : Nat) (ns : Nat → Int64) (hn : n ≤ 48) (ou : Nat) (of : Nat → Int64) (x z : Int32) (hw : wr x x n bt = 2) (X : va_W) : Met l yL_entryParent wsL_entryParent ({ frames := 10, cells := 1, slots := 6, locals := 177 } : Room) (XPc dG cI cJ [.ref xo, .int x, .int z, .ref ou] (XW xo g lb se tl ts (bI bt) ++ (GW cJ g gA (nI n) (nI ec) ns ++ (OW cJ ou of ++ X))) A) (va_Qi (S := Unit) (fun r _ => r = nI 2) (fun _ => WB dG A (XW xo g lb se tl ts (bI bt) ++ (GW cJ g gA (nI n) (nI ec) ns ++ (OW cJ ou of ++ X)))) A) 1 6 A := by
  refine va_MetW (cc := cL_entryParent) (maxL := 5) (ret := (some .int)) (hh := [(0, 10, 13, 25), (0, 10, 17, 13), (0, 10, 21, 19)]) (by decide) rfl ?_
  intro p e s m args below meth c s₁ B9 hml hv
  obtain ⟨rfl, hP, hK, hD, hTK, hTH⟩ := hv
  have hx := B9.exec
  have hb := B9.bytes
  have hr := B9.returns
  have hts := atoms_spec (ws := wsL_entryParent) B9.pre
  have hown : s.vm.findClass RL = some m.cls := findClass_of_methodNamed B9.named
  have hlocks := B9.notSynchronized
  have hS : va_S A s.heap s.heap [] := va_S.rf
  have hl := lv_entry ([.ref xo, .int x, .int z, .ref ou]) (n := 5) (Nat.le_of_ble_eq_true rfl)
  rw [lg_entry_eq]
  generalize (lg_sl ([.ref xo, .int x, .int z, .ref ou]) ++ List.replicate (5 - (lg_sl ([.ref xo, .int x, .int z, .ref ou])).length) Slot.unset).toArray = ls at hl ⊢
  have hl : lv_has ls 5 [(0, .ref xo), (1, .int x), (2, .int z), (3, .ref ou)] := hl
  have htab := vx_table (x := yL_entryParent) B9 (hts (.codeWith yL_entryParent cL_entryParent 5 (some .int) [(0, 10, 13, 25), (0, 10, 17, 13), (0, 10, 21, 19)]) (by decide +kernel))
  refine lv_aload_n hx hb dL_entryParent_0 rfl (lv_at hl 3 rfl) ?_
  refine lv_iconst (v := (nI 0)) hx hb dL_entryParent_1 (by decide) ?_
  refine lv_aload_n hx hb dL_entryParent_2 rfl (lv_at hl 0 rfl) ?_
  refine lv_iload_n hx hb dL_entryParent_3 rfl (lv_at hl 1 rfl) ?_
  refine lv_iload_n hx hb dL_entryParent_4 rfl (lv_at hl 2 rfl) ?_
  refine vx_calli (vx_runV (As := [.int x, .int z]) (rest := [.int (nI 0), .ref ou]) ⟨hx, hb, hml, hown, hts⟩ (x_entryParent l hlt dG cI cJ A xo tl ts bt se lb g gA n ec ns hn x z 2 hw (by decide) _) (cwV 2 hts gL_entryParent_X3_entryParent rfl rfl rfl (by decide +kernel) ⟨Nat.le_of_ble_eq_true rfl, Nat.le_of_ble_eq_true rfl⟩) (XPc.pre hP hD hK hTK hTH (va_recv hK.1 hP (ci := 3) (q0 := 0) rfl rfl)) rfl rfl hl.1 rfl (lv_room (Nat.le_of_ble_eq_true rfl)) dL_entryParent_5 ⟨Nat.le_of_ble_eq_true rfl, Nat.le_of_ble_eq_true rfl⟩) hS (fun q _ h => h) (fun q h => h) (fun q _ h => h.elim) (fun E ce q9 u9 t H locs ht hvm _ hB hz1 hk1 hS hce hcv hcl => ?_) (fun _r9 u9 t H1 locs1 ht hvm hf _ _ _ _ => hf.elim)
  obtain ⟨hE, hP⟩ := hB
  have hE : E = "java/lang/IllegalStateException" := hE
  subst hE
  rw [ht] at hP
  refine vx_catch (own := RL) (name := "java/lang/IllegalStateException") (pc := 5) hown [⟨0, 10, 13, 25⟩] ⟨0, 10, 17, 13⟩ [⟨0, 10, 21, 19⟩] (htab.trans rfl) (List.forall_mem_cons.mpr ⟨Or.inr ⟨by decide, "java/lang/IndexOutOfBoundsException", hts (.classLink RL 25 "java/lang/IndexOutOfBoundsException") (by decide +kernel), hTK.2.2.1 "java/lang/IllegalStateException" (by decide) "java/lang/IndexOutOfBoundsException" (by decide) (by decide)⟩, fun z h => nomatch h⟩) (by decide) (by decide) (hts (.classLink RL 13 "java/lang/IllegalStateException") (by decide +kernel)) (va_Nw.use rfl (hTK.2.1 "java/lang/IllegalStateException" (by decide))) hce hcv hcl ?_
  refine lv_astore (lv' := [(4, .ref q9), (0, .ref xo), (1, .int x), (2, .int z), (3, .ref ou)]) hx hb dL_entryParent_17 hl (by decide) rfl (fun ls hl => ?_)
  refine lv_iconst (v := (nI 2)) hx hb dL_entryParent_19 (by decide) ?_
  exact W.iret (v := (nI 2)) hx hb hr (fun t ht hW => ⟨⟨_, (), rfl, rfl, by rw [ht]; exact hP, hD⟩, hS.F ht⟩) hS.2.2 dL_entryParent_20

set_option maxHeartbeats 4000000 in
set_option maxRecDepth 100000 in
theorem h_within_1 (l : Launch) (hlt : l.stackTraces = false) (dG : va_G) (cI cJ : ClassId) (A : Nat → Prop) (xo tl ts : Nat) (bt : Bool) (se lb : Nat) (g gA n ec : Nat) (ns : Nat → Int64) (hn : n ≤ 48) (ou : Nat) (of : Nat → Int64) (x z : Int32) (hw : wr x x n bt = 1) (X : va_W) : Met l yL_within wsL_within ({ frames := 10, cells := 1, slots := 6, locals := 181 } : Room) (XPc dG cI cJ [.ref xo, .int x, .int z, .ref ou] (XW xo g lb se tl ts (bI bt) ++ (GW cJ g gA (nI n) (nI ec) ns ++ (OW cJ ou of ++ X))) A) (va_Qi (S := Unit) (fun r _ => r = nI 1) (fun _ => WB dG A (XW xo g lb se tl ts (bI bt) ++ (GW cJ g gA (nI n) (nI ec) ns ++ (OW cJ ou of ++ X)))) A) 1 6 A := by
  refine va_MetW (cc := cL_within) (maxL := 5) (ret := (some .int)) (hh := [(0, 9, 12, 25), (0, 9, 16, 13), (0, 9, 20, 19)]) (by decide) rfl ?_
  intro p e s m args below meth c s₁ B9 hml hv
  obtain ⟨rfl, hP, hK, hD, hTK, hTH⟩ := hv
  have hx := B9.exec
  have hb := B9.bytes
  have hr := B9.returns
  have hts := atoms_spec (ws := wsL_within) B9.pre
  have hown : s.vm.findClass RL = some m.cls := findClass_of_methodNamed B9.named
  have hlocks := B9.notSynchronized
  have hS : va_S A s.heap s.heap [] := va_S.rf
  have hl := lv_entry ([.ref xo, .int x, .int z, .ref ou]) (n := 5) (Nat.le_of_ble_eq_true rfl)
  rw [lg_entry_eq]
  generalize (lg_sl ([.ref xo, .int x, .int z, .ref ou]) ++ List.replicate (5 - (lg_sl ([.ref xo, .int x, .int z, .ref ou])).length) Slot.unset).toArray = ls at hl ⊢
  have hl : lv_has ls 5 [(0, .ref xo), (1, .int x), (2, .int z), (3, .ref ou)] := hl
  have htab := vx_table (x := yL_within) B9 (hts (.codeWith yL_within cL_within 5 (some .int) [(0, 9, 12, 25), (0, 9, 16, 13), (0, 9, 20, 19)]) (by decide +kernel))
  refine lv_aload_n hx hb dL_within_0 rfl (lv_at hl 3 rfl) ?_
  refine lv_iconst (v := (nI 0)) hx hb dL_within_1 (by decide) ?_
  refine lv_aload_n hx hb dL_within_2 rfl (lv_at hl 0 rfl) ?_
  refine lv_iload_n hx hb dL_within_3 rfl (lv_at hl 1 rfl) ?_
  refine lv_iload_n hx hb dL_within_4 rfl (lv_at hl 2 rfl) ?_
  refine vx_calll (vx_runV (As := [.int x, .int z]) (rest := [.int (nI 0), .ref ou]) ⟨hx, hb, hml, hown, hts⟩ (x_within l hlt dG cI cJ A xo tl ts bt se lb g gA n ec ns hn x z 1 hw (by decide) _) (cwV 2 hts gL_within_X3_within rfl rfl rfl (by decide +kernel) ⟨Nat.le_of_ble_eq_true rfl, Nat.le_of_ble_eq_true rfl⟩) (XPc.pre hP hD hK hTK hTH (va_recv hK.1 hP (ci := 3) (q0 := 0) rfl rfl)) rfl rfl hl.1 rfl (lv_room (Nat.le_of_ble_eq_true rfl)) dL_within_5 ⟨Nat.le_of_ble_eq_true rfl, Nat.le_of_ble_eq_true rfl⟩) hS (fun q _ h => h) (fun q h => h) (fun q _ h => h.elim) (fun E ce q9 u9 t H locs ht hvm _ hB hz1 hk1 hS hce hcv hcl => ?_) (fun _r9 u9 t H1 locs1 ht hvm hf _ _ _ _ => hf.elim)
  obtain ⟨hE, hP⟩ := hB
  have hE : E = "java/lang/IndexOutOfBoundsException" := hE
  subst hE
  rw [ht] at hP
  refine vx_catch (own := RL) (name := "java/lang/IndexOutOfBoundsException") (pc := 5) hown [] ⟨0, 9, 12, 25⟩ [⟨0, 9, 16, 13⟩, ⟨0, 9, 20, 19⟩] (htab.trans rfl) (fun z h => nomatch h) (by decide) (by decide) (hts (.classLink RL 25 "java/lang/IndexOutOfBoundsException") (by decide +kernel)) (va_Nw.use rfl (hTK.2.1 "java/lang/IndexOutOfBoundsException" (by decide))) hce hcv hcl ?_
  refine lv_astore (lv' := [(4, .ref q9), (0, .ref xo), (1, .int x), (2, .int z), (3, .ref ou)]) hx hb dL_within_12 hl (by decide) rfl (fun ls hl => ?_)
  refine lv_iconst (v := (nI 1)) hx hb dL_within_14 (by decide) ?_
  exact W.iret (v := (nI 1)) hx hb hr (fun t ht hW => ⟨⟨_, (), rfl, rfl, by rw [ht]; exact hP, hD⟩, hS.F ht⟩) hS.2.2 dL_within_15

set_option maxHeartbeats 4000000 in
set_option maxRecDepth 100000 in
theorem h_within_2 (l : Launch) (hlt : l.stackTraces = false) (dG : va_G) (cI cJ : ClassId) (A : Nat → Prop) (xo tl ts : Nat) (bt : Bool) (se lb : Nat) (g gA n ec : Nat) (ns : Nat → Int64) (hn : n ≤ 48) (ou : Nat) (of : Nat → Int64) (x z : Int32) (hw : wr x x n bt = 2) (X : va_W) : Met l yL_within wsL_within ({ frames := 10, cells := 1, slots := 6, locals := 181 } : Room) (XPc dG cI cJ [.ref xo, .int x, .int z, .ref ou] (XW xo g lb se tl ts (bI bt) ++ (GW cJ g gA (nI n) (nI ec) ns ++ (OW cJ ou of ++ X))) A) (va_Qi (S := Unit) (fun r _ => r = nI 2) (fun _ => WB dG A (XW xo g lb se tl ts (bI bt) ++ (GW cJ g gA (nI n) (nI ec) ns ++ (OW cJ ou of ++ X)))) A) 1 6 A := by
  refine va_MetW (cc := cL_within) (maxL := 5) (ret := (some .int)) (hh := [(0, 9, 12, 25), (0, 9, 16, 13), (0, 9, 20, 19)]) (by decide) rfl ?_
  intro p e s m args below meth c s₁ B9 hml hv
  obtain ⟨rfl, hP, hK, hD, hTK, hTH⟩ := hv
  have hx := B9.exec
  have hb := B9.bytes
  have hr := B9.returns
  have hts := atoms_spec (ws := wsL_within) B9.pre
  have hown : s.vm.findClass RL = some m.cls := findClass_of_methodNamed B9.named
  have hlocks := B9.notSynchronized
  have hS : va_S A s.heap s.heap [] := va_S.rf
  have hl := lv_entry ([.ref xo, .int x, .int z, .ref ou]) (n := 5) (Nat.le_of_ble_eq_true rfl)
  rw [lg_entry_eq]
  generalize (lg_sl ([.ref xo, .int x, .int z, .ref ou]) ++ List.replicate (5 - (lg_sl ([.ref xo, .int x, .int z, .ref ou])).length) Slot.unset).toArray = ls at hl ⊢
  have hl : lv_has ls 5 [(0, .ref xo), (1, .int x), (2, .int z), (3, .ref ou)] := hl
  have htab := vx_table (x := yL_within) B9 (hts (.codeWith yL_within cL_within 5 (some .int) [(0, 9, 12, 25), (0, 9, 16, 13), (0, 9, 20, 19)]) (by decide +kernel))
  refine lv_aload_n hx hb dL_within_0 rfl (lv_at hl 3 rfl) ?_
  refine lv_iconst (v := (nI 0)) hx hb dL_within_1 (by decide) ?_
  refine lv_aload_n hx hb dL_within_2 rfl (lv_at hl 0 rfl) ?_
  refine lv_iload_n hx hb dL_within_3 rfl (lv_at hl 1 rfl) ?_
  refine lv_iload_n hx hb dL_within_4 rfl (lv_at hl 2 rfl) ?_
  refine vx_calll (vx_runV (As := [.int x, .int z]) (rest := [.int (nI 0), .ref ou]) ⟨hx, hb, hml, hown, hts⟩ (x_within l hlt dG cI cJ A xo tl ts bt se lb g gA n ec ns hn x z 2 hw (by decide) _) (cwV 2 hts gL_within_X3_within rfl rfl rfl (by decide +kernel) ⟨Nat.le_of_ble_eq_true rfl, Nat.le_of_ble_eq_true rfl⟩) (XPc.pre hP hD hK hTK hTH (va_recv hK.1 hP (ci := 3) (q0 := 0) rfl rfl)) rfl rfl hl.1 rfl (lv_room (Nat.le_of_ble_eq_true rfl)) dL_within_5 ⟨Nat.le_of_ble_eq_true rfl, Nat.le_of_ble_eq_true rfl⟩) hS (fun q _ h => h) (fun q h => h) (fun q _ h => h.elim) (fun E ce q9 u9 t H locs ht hvm _ hB hz1 hk1 hS hce hcv hcl => ?_) (fun _r9 u9 t H1 locs1 ht hvm hf _ _ _ _ => hf.elim)
  obtain ⟨hE, hP⟩ := hB
  have hE : E = "java/lang/IllegalStateException" := hE
  subst hE
  rw [ht] at hP
  refine vx_catch (own := RL) (name := "java/lang/IllegalStateException") (pc := 5) hown [⟨0, 9, 12, 25⟩] ⟨0, 9, 16, 13⟩ [⟨0, 9, 20, 19⟩] (htab.trans rfl) (List.forall_mem_cons.mpr ⟨Or.inr ⟨by decide, "java/lang/IndexOutOfBoundsException", hts (.classLink RL 25 "java/lang/IndexOutOfBoundsException") (by decide +kernel), hTK.2.2.1 "java/lang/IllegalStateException" (by decide) "java/lang/IndexOutOfBoundsException" (by decide) (by decide)⟩, fun z h => nomatch h⟩) (by decide) (by decide) (hts (.classLink RL 13 "java/lang/IllegalStateException") (by decide +kernel)) (va_Nw.use rfl (hTK.2.1 "java/lang/IllegalStateException" (by decide))) hce hcv hcl ?_
  refine lv_astore (lv' := [(4, .ref q9), (0, .ref xo), (1, .int x), (2, .int z), (3, .ref ou)]) hx hb dL_within_16 hl (by decide) rfl (fun ls hl => ?_)
  refine lv_iconst (v := (nI 2)) hx hb dL_within_18 (by decide) ?_
  exact W.iret (v := (nI 2)) hx hb hr (fun t ht hW => ⟨⟨_, (), rfl, rfl, by rw [ht]; exact hP, hD⟩, hS.F ht⟩) hS.2.2 dL_within_19

set_option maxHeartbeats 4000000 in
set_option maxRecDepth 100000 in
theorem h_eccentricity_1 (l : Launch) (hlt : l.stackTraces = false) (dG : va_G) (cI cJ : ClassId) (A : Nat → Prop) (xo tl ts : Nat) (bt : Bool) (se lb : Nat) (g gA n ec : Nat) (ns : Nat → Int64) (hn : n ≤ 48) (ou : Nat) (of : Nat → Int64) (x : Int32) (hw : wr x x n bt = 1) (X : va_W) : Met l yL_eccentricity wsL_eccentricity ({ frames := 10, cells := 1, slots := 6, locals := 178 } : Room) (XPc dG cI cJ [.ref xo, .int x, .ref ou] (XW xo g lb se tl ts (bI bt) ++ (GW cJ g gA (nI n) (nI ec) ns ++ (OW cJ ou of ++ X))) A) (va_Qi (S := Unit) (fun r _ => r = nI 1) (fun _ => WB dG A (XW xo g lb se tl ts (bI bt) ++ (GW cJ g gA (nI n) (nI ec) ns ++ (OW cJ ou of ++ X)))) A) 1 6 A := by
  refine va_MetW (cc := cL_eccentricity) (maxL := 4) (ret := (some .int)) (hh := [(0, 9, 12, 25), (0, 9, 15, 13)]) (by decide) rfl ?_
  intro p e s m args below meth c s₁ B9 hml hv
  obtain ⟨rfl, hP, hK, hD, hTK, hTH⟩ := hv
  have hx := B9.exec
  have hb := B9.bytes
  have hr := B9.returns
  have hts := atoms_spec (ws := wsL_eccentricity) B9.pre
  have hown : s.vm.findClass RL = some m.cls := findClass_of_methodNamed B9.named
  have hlocks := B9.notSynchronized
  have hS : va_S A s.heap s.heap [] := va_S.rf
  have hl := lv_entry ([.ref xo, .int x, .ref ou]) (n := 4) (Nat.le_of_ble_eq_true rfl)
  rw [lg_entry_eq]
  generalize (lg_sl ([.ref xo, .int x, .ref ou]) ++ List.replicate (4 - (lg_sl ([.ref xo, .int x, .ref ou])).length) Slot.unset).toArray = ls at hl ⊢
  have hl : lv_has ls 4 [(0, .ref xo), (1, .int x), (2, .ref ou)] := hl
  have htab := vx_table (x := yL_eccentricity) B9 (hts (.codeWith yL_eccentricity cL_eccentricity 4 (some .int) [(0, 9, 12, 25), (0, 9, 15, 13)]) (by decide +kernel))
  refine lv_aload_n hx hb dL_eccentricity_0 rfl (lv_at hl 2 rfl) ?_
  refine lv_iconst (v := (nI 0)) hx hb dL_eccentricity_1 (by decide) ?_
  refine lv_aload_n hx hb dL_eccentricity_2 rfl (lv_at hl 0 rfl) ?_
  refine lv_iload_n hx hb dL_eccentricity_3 rfl (lv_at hl 1 rfl) ?_
  refine vx_calli (vx_runV (As := [.int x]) (rest := [.int (nI 0), .ref ou]) ⟨hx, hb, hml, hown, hts⟩ (x_eccentricity l hlt dG cI cJ A xo tl ts bt se lb g gA n ec ns hn x 1 hw (by decide) _) (cwV 1 hts gL_eccentricity_X3_eccentricity rfl rfl rfl (by decide +kernel) ⟨Nat.le_of_ble_eq_true rfl, Nat.le_of_ble_eq_true rfl⟩) (XPc.pre hP hD hK hTK hTH (va_recv hK.1 hP (ci := 3) (q0 := 0) rfl rfl)) rfl rfl hl.1 rfl (lv_room (Nat.le_of_ble_eq_true rfl)) dL_eccentricity_4 ⟨Nat.le_of_ble_eq_true rfl, Nat.le_of_ble_eq_true rfl⟩) hS (fun q _ h => h) (fun q h => h) (fun q _ h => h.elim) (fun E ce q9 u9 t H locs ht hvm _ hB hz1 hk1 hS hce hcv hcl => ?_) (fun _r9 u9 t H1 locs1 ht hvm hf _ _ _ _ => hf.elim)
  obtain ⟨hE, hP⟩ := hB
  have hE : E = "java/lang/IndexOutOfBoundsException" := hE
  subst hE
  rw [ht] at hP
  refine vx_catch (own := RL) (name := "java/lang/IndexOutOfBoundsException") (pc := 4) hown [] ⟨0, 9, 12, 25⟩ [⟨0, 9, 15, 13⟩] (htab.trans rfl) (fun z h => nomatch h) (by decide) (by decide) (hts (.classLink RL 25 "java/lang/IndexOutOfBoundsException") (by decide +kernel)) (va_Nw.use rfl (hTK.2.1 "java/lang/IndexOutOfBoundsException" (by decide))) hce hcv hcl ?_
  refine lv_astore_n (lv' := [(3, .ref q9), (0, .ref xo), (1, .int x), (2, .ref ou)]) hx hb dL_eccentricity_12 rfl hl (by decide) rfl (fun ls hl => ?_)
  refine lv_iconst (v := (nI 1)) hx hb dL_eccentricity_13 (by decide) ?_
  exact W.iret (v := (nI 1)) hx hb hr (fun t ht hW => ⟨⟨_, (), rfl, rfl, by rw [ht]; exact hP, hD⟩, hS.F ht⟩) hS.2.2 dL_eccentricity_14

set_option maxHeartbeats 4000000 in
set_option maxRecDepth 100000 in
theorem h_eccentricity_2 (l : Launch) (hlt : l.stackTraces = false) (dG : va_G) (cI cJ : ClassId) (A : Nat → Prop) (xo tl ts : Nat) (bt : Bool) (se lb : Nat) (g gA n ec : Nat) (ns : Nat → Int64) (hn : n ≤ 48) (ou : Nat) (of : Nat → Int64) (x : Int32) (hw : wr x x n bt = 2) (X : va_W) : Met l yL_eccentricity wsL_eccentricity ({ frames := 10, cells := 1, slots := 6, locals := 178 } : Room) (XPc dG cI cJ [.ref xo, .int x, .ref ou] (XW xo g lb se tl ts (bI bt) ++ (GW cJ g gA (nI n) (nI ec) ns ++ (OW cJ ou of ++ X))) A) (va_Qi (S := Unit) (fun r _ => r = nI 2) (fun _ => WB dG A (XW xo g lb se tl ts (bI bt) ++ (GW cJ g gA (nI n) (nI ec) ns ++ (OW cJ ou of ++ X)))) A) 1 6 A := by
  refine va_MetW (cc := cL_eccentricity) (maxL := 4) (ret := (some .int)) (hh := [(0, 9, 12, 25), (0, 9, 15, 13)]) (by decide) rfl ?_
  intro p e s m args below meth c s₁ B9 hml hv
  obtain ⟨rfl, hP, hK, hD, hTK, hTH⟩ := hv
  have hx := B9.exec
  have hb := B9.bytes
  have hr := B9.returns
  have hts := atoms_spec (ws := wsL_eccentricity) B9.pre
  have hown : s.vm.findClass RL = some m.cls := findClass_of_methodNamed B9.named
  have hlocks := B9.notSynchronized
  have hS : va_S A s.heap s.heap [] := va_S.rf
  have hl := lv_entry ([.ref xo, .int x, .ref ou]) (n := 4) (Nat.le_of_ble_eq_true rfl)
  rw [lg_entry_eq]
  generalize (lg_sl ([.ref xo, .int x, .ref ou]) ++ List.replicate (4 - (lg_sl ([.ref xo, .int x, .ref ou])).length) Slot.unset).toArray = ls at hl ⊢
  have hl : lv_has ls 4 [(0, .ref xo), (1, .int x), (2, .ref ou)] := hl
  have htab := vx_table (x := yL_eccentricity) B9 (hts (.codeWith yL_eccentricity cL_eccentricity 4 (some .int) [(0, 9, 12, 25), (0, 9, 15, 13)]) (by decide +kernel))
  refine lv_aload_n hx hb dL_eccentricity_0 rfl (lv_at hl 2 rfl) ?_
  refine lv_iconst (v := (nI 0)) hx hb dL_eccentricity_1 (by decide) ?_
  refine lv_aload_n hx hb dL_eccentricity_2 rfl (lv_at hl 0 rfl) ?_
  refine lv_iload_n hx hb dL_eccentricity_3 rfl (lv_at hl 1 rfl) ?_
  refine vx_calli (vx_runV (As := [.int x]) (rest := [.int (nI 0), .ref ou]) ⟨hx, hb, hml, hown, hts⟩ (x_eccentricity l hlt dG cI cJ A xo tl ts bt se lb g gA n ec ns hn x 2 hw (by decide) _) (cwV 1 hts gL_eccentricity_X3_eccentricity rfl rfl rfl (by decide +kernel) ⟨Nat.le_of_ble_eq_true rfl, Nat.le_of_ble_eq_true rfl⟩) (XPc.pre hP hD hK hTK hTH (va_recv hK.1 hP (ci := 3) (q0 := 0) rfl rfl)) rfl rfl hl.1 rfl (lv_room (Nat.le_of_ble_eq_true rfl)) dL_eccentricity_4 ⟨Nat.le_of_ble_eq_true rfl, Nat.le_of_ble_eq_true rfl⟩) hS (fun q _ h => h) (fun q h => h) (fun q _ h => h.elim) (fun E ce q9 u9 t H locs ht hvm _ hB hz1 hk1 hS hce hcv hcl => ?_) (fun _r9 u9 t H1 locs1 ht hvm hf _ _ _ _ => hf.elim)
  obtain ⟨hE, hP⟩ := hB
  have hE : E = "java/lang/IllegalStateException" := hE
  subst hE
  rw [ht] at hP
  refine vx_catch (own := RL) (name := "java/lang/IllegalStateException") (pc := 4) hown [⟨0, 9, 12, 25⟩] ⟨0, 9, 15, 13⟩ [] (htab.trans rfl) (List.forall_mem_cons.mpr ⟨Or.inr ⟨by decide, "java/lang/IndexOutOfBoundsException", hts (.classLink RL 25 "java/lang/IndexOutOfBoundsException") (by decide +kernel), hTK.2.2.1 "java/lang/IllegalStateException" (by decide) "java/lang/IndexOutOfBoundsException" (by decide) (by decide)⟩, fun z h => nomatch h⟩) (by decide) (by decide) (hts (.classLink RL 13 "java/lang/IllegalStateException") (by decide +kernel)) (va_Nw.use rfl (hTK.2.1 "java/lang/IllegalStateException" (by decide))) hce hcv hcl ?_
  refine lv_astore_n (lv' := [(3, .ref q9), (0, .ref xo), (1, .int x), (2, .ref ou)]) hx hb dL_eccentricity_15 rfl hl (by decide) rfl (fun ls hl => ?_)
  refine lv_iconst (v := (nI 2)) hx hb dL_eccentricity_16 (by decide) ?_
  exact W.iret (v := (nI 2)) hx hb hr (fun t ht hW => ⟨⟨_, (), rfl, rfl, by rw [ht]; exact hP, hD⟩, hS.F ht⟩) hS.2.2 dL_eccentricity_17

set_option maxHeartbeats 4000000 in
set_option maxRecDepth 100000 in
theorem h_distance_1 (l : Launch) (hlt : l.stackTraces = false) (dG : va_G) (cI cJ : ClassId) (A : Nat → Prop) (xo tl ts : Nat) (bt : Bool) (se lb : Nat) (g gA n ec : Nat) (ns : Nat → Int64) (hn : n ≤ 48) (ou : Nat) (of : Nat → Int64) (x y : Int32) (hw : wr x y n bt = 1) (X : va_W) : Met l yL_distance wsL_distance ({ frames := 9, cells := 1, slots := 6, locals := 156 } : Room) (XPc dG cI cJ [.ref xo, .int x, .int y, .ref ou] (XW xo g lb se tl ts (bI bt) ++ (GW cJ g gA (nI n) (nI ec) ns ++ (OW cJ ou of ++ X))) A) (va_Qi (S := Unit) (fun r _ => r = nI 1) (fun _ => WB dG A (XW xo g lb se tl ts (bI bt) ++ (GW cJ g gA (nI n) (nI ec) ns ++ (OW cJ ou of ++ X)))) A) 1 6 A := by
  refine va_MetW (cc := cL_distance) (maxL := 5) (ret := (some .int)) (hh := [(0, 10, 13, 25), (0, 10, 17, 13)]) (by decide) rfl ?_
  intro p e s m args below meth c s₁ B9 hml hv
  obtain ⟨rfl, hP, hK, hD, hTK, hTH⟩ := hv
  have hx := B9.exec
  have hb := B9.bytes
  have hr := B9.returns
  have hts := atoms_spec (ws := wsL_distance) B9.pre
  have hown : s.vm.findClass RL = some m.cls := findClass_of_methodNamed B9.named
  have hlocks := B9.notSynchronized
  have hS : va_S A s.heap s.heap [] := va_S.rf
  have hl := lv_entry ([.ref xo, .int x, .int y, .ref ou]) (n := 5) (Nat.le_of_ble_eq_true rfl)
  rw [lg_entry_eq]
  generalize (lg_sl ([.ref xo, .int x, .int y, .ref ou]) ++ List.replicate (5 - (lg_sl ([.ref xo, .int x, .int y, .ref ou])).length) Slot.unset).toArray = ls at hl ⊢
  have hl : lv_has ls 5 [(0, .ref xo), (1, .int x), (2, .int y), (3, .ref ou)] := hl
  have htab := vx_table (x := yL_distance) B9 (hts (.codeWith yL_distance cL_distance 5 (some .int) [(0, 10, 13, 25), (0, 10, 17, 13)]) (by decide +kernel))
  refine lv_aload_n hx hb dL_distance_0 rfl (lv_at hl 3 rfl) ?_
  refine lv_iconst (v := (nI 0)) hx hb dL_distance_1 (by decide) ?_
  refine lv_aload_n hx hb dL_distance_2 rfl (lv_at hl 0 rfl) ?_
  refine lv_iload_n hx hb dL_distance_3 rfl (lv_at hl 1 rfl) ?_
  refine lv_iload_n hx hb dL_distance_4 rfl (lv_at hl 2 rfl) ?_
  refine vx_calli (vx_runV (As := [.int x, .int y]) (rest := [.int (nI 0), .ref ou]) ⟨hx, hb, hml, hown, hts⟩ (x_distance l hlt dG cI cJ A xo tl ts bt se lb g gA n ec ns hn x y 1 hw (by decide) _) (cwV 2 hts gL_distance_X3_distance rfl rfl rfl (by decide +kernel) ⟨Nat.le_of_ble_eq_true rfl, Nat.le_of_ble_eq_true rfl⟩) (XPc.pre hP hD hK hTK hTH (va_recv hK.1 hP (ci := 3) (q0 := 0) rfl rfl)) rfl rfl hl.1 rfl (lv_room (Nat.le_of_ble_eq_true rfl)) dL_distance_5 ⟨Nat.le_of_ble_eq_true rfl, Nat.le_of_ble_eq_true rfl⟩) hS (fun q _ h => h) (fun q h => h) (fun q _ h => h.elim) (fun E ce q9 u9 t H locs ht hvm _ hB hz1 hk1 hS hce hcv hcl => ?_) (fun _r9 u9 t H1 locs1 ht hvm hf _ _ _ _ => hf.elim)
  obtain ⟨hE, hP⟩ := hB
  have hE : E = "java/lang/IndexOutOfBoundsException" := hE
  subst hE
  rw [ht] at hP
  refine vx_catch (own := RL) (name := "java/lang/IndexOutOfBoundsException") (pc := 5) hown [] ⟨0, 10, 13, 25⟩ [⟨0, 10, 17, 13⟩] (htab.trans rfl) (fun z h => nomatch h) (by decide) (by decide) (hts (.classLink RL 25 "java/lang/IndexOutOfBoundsException") (by decide +kernel)) (va_Nw.use rfl (hTK.2.1 "java/lang/IndexOutOfBoundsException" (by decide))) hce hcv hcl ?_
  refine lv_astore (lv' := [(4, .ref q9), (0, .ref xo), (1, .int x), (2, .int y), (3, .ref ou)]) hx hb dL_distance_13 hl (by decide) rfl (fun ls hl => ?_)
  refine lv_iconst (v := (nI 1)) hx hb dL_distance_15 (by decide) ?_
  exact W.iret (v := (nI 1)) hx hb hr (fun t ht hW => ⟨⟨_, (), rfl, rfl, by rw [ht]; exact hP, hD⟩, hS.F ht⟩) hS.2.2 dL_distance_16

set_option maxHeartbeats 4000000 in
set_option maxRecDepth 100000 in
theorem h_distance_2 (l : Launch) (hlt : l.stackTraces = false) (dG : va_G) (cI cJ : ClassId) (A : Nat → Prop) (xo tl ts : Nat) (bt : Bool) (se lb : Nat) (g gA n ec : Nat) (ns : Nat → Int64) (hn : n ≤ 48) (ou : Nat) (of : Nat → Int64) (x y : Int32) (hw : wr x y n bt = 2) (X : va_W) : Met l yL_distance wsL_distance ({ frames := 9, cells := 1, slots := 6, locals := 156 } : Room) (XPc dG cI cJ [.ref xo, .int x, .int y, .ref ou] (XW xo g lb se tl ts (bI bt) ++ (GW cJ g gA (nI n) (nI ec) ns ++ (OW cJ ou of ++ X))) A) (va_Qi (S := Unit) (fun r _ => r = nI 2) (fun _ => WB dG A (XW xo g lb se tl ts (bI bt) ++ (GW cJ g gA (nI n) (nI ec) ns ++ (OW cJ ou of ++ X)))) A) 1 6 A := by
  refine va_MetW (cc := cL_distance) (maxL := 5) (ret := (some .int)) (hh := [(0, 10, 13, 25), (0, 10, 17, 13)]) (by decide) rfl ?_
  intro p e s m args below meth c s₁ B9 hml hv
  obtain ⟨rfl, hP, hK, hD, hTK, hTH⟩ := hv
  have hx := B9.exec
  have hb := B9.bytes
  have hr := B9.returns
  have hts := atoms_spec (ws := wsL_distance) B9.pre
  have hown : s.vm.findClass RL = some m.cls := findClass_of_methodNamed B9.named
  have hlocks := B9.notSynchronized
  have hS : va_S A s.heap s.heap [] := va_S.rf
  have hl := lv_entry ([.ref xo, .int x, .int y, .ref ou]) (n := 5) (Nat.le_of_ble_eq_true rfl)
  rw [lg_entry_eq]
  generalize (lg_sl ([.ref xo, .int x, .int y, .ref ou]) ++ List.replicate (5 - (lg_sl ([.ref xo, .int x, .int y, .ref ou])).length) Slot.unset).toArray = ls at hl ⊢
  have hl : lv_has ls 5 [(0, .ref xo), (1, .int x), (2, .int y), (3, .ref ou)] := hl
  have htab := vx_table (x := yL_distance) B9 (hts (.codeWith yL_distance cL_distance 5 (some .int) [(0, 10, 13, 25), (0, 10, 17, 13)]) (by decide +kernel))
  refine lv_aload_n hx hb dL_distance_0 rfl (lv_at hl 3 rfl) ?_
  refine lv_iconst (v := (nI 0)) hx hb dL_distance_1 (by decide) ?_
  refine lv_aload_n hx hb dL_distance_2 rfl (lv_at hl 0 rfl) ?_
  refine lv_iload_n hx hb dL_distance_3 rfl (lv_at hl 1 rfl) ?_
  refine lv_iload_n hx hb dL_distance_4 rfl (lv_at hl 2 rfl) ?_
  refine vx_calli (vx_runV (As := [.int x, .int y]) (rest := [.int (nI 0), .ref ou]) ⟨hx, hb, hml, hown, hts⟩ (x_distance l hlt dG cI cJ A xo tl ts bt se lb g gA n ec ns hn x y 2 hw (by decide) _) (cwV 2 hts gL_distance_X3_distance rfl rfl rfl (by decide +kernel) ⟨Nat.le_of_ble_eq_true rfl, Nat.le_of_ble_eq_true rfl⟩) (XPc.pre hP hD hK hTK hTH (va_recv hK.1 hP (ci := 3) (q0 := 0) rfl rfl)) rfl rfl hl.1 rfl (lv_room (Nat.le_of_ble_eq_true rfl)) dL_distance_5 ⟨Nat.le_of_ble_eq_true rfl, Nat.le_of_ble_eq_true rfl⟩) hS (fun q _ h => h) (fun q h => h) (fun q _ h => h.elim) (fun E ce q9 u9 t H locs ht hvm _ hB hz1 hk1 hS hce hcv hcl => ?_) (fun _r9 u9 t H1 locs1 ht hvm hf _ _ _ _ => hf.elim)
  obtain ⟨hE, hP⟩ := hB
  have hE : E = "java/lang/IllegalStateException" := hE
  subst hE
  rw [ht] at hP
  refine vx_catch (own := RL) (name := "java/lang/IllegalStateException") (pc := 5) hown [⟨0, 10, 13, 25⟩] ⟨0, 10, 17, 13⟩ [] (htab.trans rfl) (List.forall_mem_cons.mpr ⟨Or.inr ⟨by decide, "java/lang/IndexOutOfBoundsException", hts (.classLink RL 25 "java/lang/IndexOutOfBoundsException") (by decide +kernel), hTK.2.2.1 "java/lang/IllegalStateException" (by decide) "java/lang/IndexOutOfBoundsException" (by decide) (by decide)⟩, fun z h => nomatch h⟩) (by decide) (by decide) (hts (.classLink RL 13 "java/lang/IllegalStateException") (by decide +kernel)) (va_Nw.use rfl (hTK.2.1 "java/lang/IllegalStateException" (by decide))) hce hcv hcl ?_
  refine lv_astore (lv' := [(4, .ref q9), (0, .ref xo), (1, .int x), (2, .int y), (3, .ref ou)]) hx hb dL_distance_17 hl (by decide) rfl (fun ls hl => ?_)
  refine lv_iconst (v := (nI 2)) hx hb dL_distance_19 (by decide) ?_
  exact W.iret (v := (nI 2)) hx hb hr (fun t ht hW => ⟨⟨_, (), rfl, rfl, by rw [ht]; exact hP, hD⟩, hS.F ht⟩) hS.2.2 dL_distance_20

set_option maxHeartbeats 4000000 in
set_option maxRecDepth 100000 in
theorem h_hub_1 (l : Launch) (hlt : l.stackTraces = false) (dG : va_G) (cI cJ : ClassId) (A : Nat → Prop) (xo tl ts : Nat) (bt : Bool) (se lb : Nat) (g gA n ec : Nat) (ns : Nat → Int64) (hn : n ≤ 48) (ou : Nat) (of : Nat → Int64) (x y : Int32) (hw : wr x y n bt = 1) (X : va_W) : Met l yL_hub wsL_hub ({ frames := 9, cells := 1, slots := 6, locals := 156 } : Room) (XPc dG cI cJ [.ref xo, .int x, .int y, .ref ou] (XW xo g lb se tl ts (bI bt) ++ (GW cJ g gA (nI n) (nI ec) ns ++ (OW cJ ou of ++ X))) A) (va_Qi (S := Unit) (fun r _ => r = nI 1) (fun _ => WB dG A (XW xo g lb se tl ts (bI bt) ++ (GW cJ g gA (nI n) (nI ec) ns ++ (OW cJ ou of ++ X)))) A) 1 6 A := by
  refine va_MetW (cc := cL_hub) (maxL := 5) (ret := (some .int)) (hh := [(0, 10, 13, 25), (0, 10, 17, 13)]) (by decide) rfl ?_
  intro p e s m args below meth c s₁ B9 hml hv
  obtain ⟨rfl, hP, hK, hD, hTK, hTH⟩ := hv
  have hx := B9.exec
  have hb := B9.bytes
  have hr := B9.returns
  have hts := atoms_spec (ws := wsL_hub) B9.pre
  have hown : s.vm.findClass RL = some m.cls := findClass_of_methodNamed B9.named
  have hlocks := B9.notSynchronized
  have hS : va_S A s.heap s.heap [] := va_S.rf
  have hl := lv_entry ([.ref xo, .int x, .int y, .ref ou]) (n := 5) (Nat.le_of_ble_eq_true rfl)
  rw [lg_entry_eq]
  generalize (lg_sl ([.ref xo, .int x, .int y, .ref ou]) ++ List.replicate (5 - (lg_sl ([.ref xo, .int x, .int y, .ref ou])).length) Slot.unset).toArray = ls at hl ⊢
  have hl : lv_has ls 5 [(0, .ref xo), (1, .int x), (2, .int y), (3, .ref ou)] := hl
  have htab := vx_table (x := yL_hub) B9 (hts (.codeWith yL_hub cL_hub 5 (some .int) [(0, 10, 13, 25), (0, 10, 17, 13)]) (by decide +kernel))
  refine lv_aload_n hx hb dL_hub_0 rfl (lv_at hl 3 rfl) ?_
  refine lv_iconst (v := (nI 0)) hx hb dL_hub_1 (by decide) ?_
  refine lv_aload_n hx hb dL_hub_2 rfl (lv_at hl 0 rfl) ?_
  refine lv_iload_n hx hb dL_hub_3 rfl (lv_at hl 1 rfl) ?_
  refine lv_iload_n hx hb dL_hub_4 rfl (lv_at hl 2 rfl) ?_
  refine vx_calli (vx_runV (As := [.int x, .int y]) (rest := [.int (nI 0), .ref ou]) ⟨hx, hb, hml, hown, hts⟩ (x_hub l hlt dG cI cJ A xo tl ts bt se lb g gA n ec ns hn x y 1 hw (by decide) _) (cwV 2 hts gL_hub_X3_hub rfl rfl rfl (by decide +kernel) ⟨Nat.le_of_ble_eq_true rfl, Nat.le_of_ble_eq_true rfl⟩) (XPc.pre hP hD hK hTK hTH (va_recv hK.1 hP (ci := 3) (q0 := 0) rfl rfl)) rfl rfl hl.1 rfl (lv_room (Nat.le_of_ble_eq_true rfl)) dL_hub_5 ⟨Nat.le_of_ble_eq_true rfl, Nat.le_of_ble_eq_true rfl⟩) hS (fun q _ h => h) (fun q h => h) (fun q _ h => h.elim) (fun E ce q9 u9 t H locs ht hvm _ hB hz1 hk1 hS hce hcv hcl => ?_) (fun _r9 u9 t H1 locs1 ht hvm hf _ _ _ _ => hf.elim)
  obtain ⟨hE, hP⟩ := hB
  have hE : E = "java/lang/IndexOutOfBoundsException" := hE
  subst hE
  rw [ht] at hP
  refine vx_catch (own := RL) (name := "java/lang/IndexOutOfBoundsException") (pc := 5) hown [] ⟨0, 10, 13, 25⟩ [⟨0, 10, 17, 13⟩] (htab.trans rfl) (fun z h => nomatch h) (by decide) (by decide) (hts (.classLink RL 25 "java/lang/IndexOutOfBoundsException") (by decide +kernel)) (va_Nw.use rfl (hTK.2.1 "java/lang/IndexOutOfBoundsException" (by decide))) hce hcv hcl ?_
  refine lv_astore (lv' := [(4, .ref q9), (0, .ref xo), (1, .int x), (2, .int y), (3, .ref ou)]) hx hb dL_hub_13 hl (by decide) rfl (fun ls hl => ?_)
  refine lv_iconst (v := (nI 1)) hx hb dL_hub_15 (by decide) ?_
  exact W.iret (v := (nI 1)) hx hb hr (fun t ht hW => ⟨⟨_, (), rfl, rfl, by rw [ht]; exact hP, hD⟩, hS.F ht⟩) hS.2.2 dL_hub_16

set_option maxHeartbeats 4000000 in
set_option maxRecDepth 100000 in
theorem h_hub_2 (l : Launch) (hlt : l.stackTraces = false) (dG : va_G) (cI cJ : ClassId) (A : Nat → Prop) (xo tl ts : Nat) (bt : Bool) (se lb : Nat) (g gA n ec : Nat) (ns : Nat → Int64) (hn : n ≤ 48) (ou : Nat) (of : Nat → Int64) (x y : Int32) (hw : wr x y n bt = 2) (X : va_W) : Met l yL_hub wsL_hub ({ frames := 9, cells := 1, slots := 6, locals := 156 } : Room) (XPc dG cI cJ [.ref xo, .int x, .int y, .ref ou] (XW xo g lb se tl ts (bI bt) ++ (GW cJ g gA (nI n) (nI ec) ns ++ (OW cJ ou of ++ X))) A) (va_Qi (S := Unit) (fun r _ => r = nI 2) (fun _ => WB dG A (XW xo g lb se tl ts (bI bt) ++ (GW cJ g gA (nI n) (nI ec) ns ++ (OW cJ ou of ++ X)))) A) 1 6 A := by
  refine va_MetW (cc := cL_hub) (maxL := 5) (ret := (some .int)) (hh := [(0, 10, 13, 25), (0, 10, 17, 13)]) (by decide) rfl ?_
  intro p e s m args below meth c s₁ B9 hml hv
  obtain ⟨rfl, hP, hK, hD, hTK, hTH⟩ := hv
  have hx := B9.exec
  have hb := B9.bytes
  have hr := B9.returns
  have hts := atoms_spec (ws := wsL_hub) B9.pre
  have hown : s.vm.findClass RL = some m.cls := findClass_of_methodNamed B9.named
  have hlocks := B9.notSynchronized
  have hS : va_S A s.heap s.heap [] := va_S.rf
  have hl := lv_entry ([.ref xo, .int x, .int y, .ref ou]) (n := 5) (Nat.le_of_ble_eq_true rfl)
  rw [lg_entry_eq]
  generalize (lg_sl ([.ref xo, .int x, .int y, .ref ou]) ++ List.replicate (5 - (lg_sl ([.ref xo, .int x, .int y, .ref ou])).length) Slot.unset).toArray = ls at hl ⊢
  have hl : lv_has ls 5 [(0, .ref xo), (1, .int x), (2, .int y), (3, .ref ou)] := hl
  have htab := vx_table (x := yL_hub) B9 (hts (.codeWith yL_hub cL_hub 5 (some .int) [(0, 10, 13, 25), (0, 10, 17, 13)]) (by decide +kernel))
  refine lv_aload_n hx hb dL_hub_0 rfl (lv_at hl 3 rfl) ?_
  refine lv_iconst (v := (nI 0)) hx hb dL_hub_1 (by decide) ?_
  refine lv_aload_n hx hb dL_hub_2 rfl (lv_at hl 0 rfl) ?_
  refine lv_iload_n hx hb dL_hub_3 rfl (lv_at hl 1 rfl) ?_
  refine lv_iload_n hx hb dL_hub_4 rfl (lv_at hl 2 rfl) ?_
  refine vx_calli (vx_runV (As := [.int x, .int y]) (rest := [.int (nI 0), .ref ou]) ⟨hx, hb, hml, hown, hts⟩ (x_hub l hlt dG cI cJ A xo tl ts bt se lb g gA n ec ns hn x y 2 hw (by decide) _) (cwV 2 hts gL_hub_X3_hub rfl rfl rfl (by decide +kernel) ⟨Nat.le_of_ble_eq_true rfl, Nat.le_of_ble_eq_true rfl⟩) (XPc.pre hP hD hK hTK hTH (va_recv hK.1 hP (ci := 3) (q0 := 0) rfl rfl)) rfl rfl hl.1 rfl (lv_room (Nat.le_of_ble_eq_true rfl)) dL_hub_5 ⟨Nat.le_of_ble_eq_true rfl, Nat.le_of_ble_eq_true rfl⟩) hS (fun q _ h => h) (fun q h => h) (fun q _ h => h.elim) (fun E ce q9 u9 t H locs ht hvm _ hB hz1 hk1 hS hce hcv hcl => ?_) (fun _r9 u9 t H1 locs1 ht hvm hf _ _ _ _ => hf.elim)
  obtain ⟨hE, hP⟩ := hB
  have hE : E = "java/lang/IllegalStateException" := hE
  subst hE
  rw [ht] at hP
  refine vx_catch (own := RL) (name := "java/lang/IllegalStateException") (pc := 5) hown [⟨0, 10, 13, 25⟩] ⟨0, 10, 17, 13⟩ [] (htab.trans rfl) (List.forall_mem_cons.mpr ⟨Or.inr ⟨by decide, "java/lang/IndexOutOfBoundsException", hts (.classLink RL 25 "java/lang/IndexOutOfBoundsException") (by decide +kernel), hTK.2.2.1 "java/lang/IllegalStateException" (by decide) "java/lang/IndexOutOfBoundsException" (by decide) (by decide)⟩, fun z h => nomatch h⟩) (by decide) (by decide) (hts (.classLink RL 13 "java/lang/IllegalStateException") (by decide +kernel)) (va_Nw.use rfl (hTK.2.1 "java/lang/IllegalStateException" (by decide))) hce hcv hcl ?_
  refine lv_astore (lv' := [(4, .ref q9), (0, .ref xo), (1, .int x), (2, .int y), (3, .ref ou)]) hx hb dL_hub_17 hl (by decide) rfl (fun ls hl => ?_)
  refine lv_iconst (v := (nI 2)) hx hb dL_hub_19 (by decide) ?_
  exact W.iret (v := (nI 2)) hx hb hr (fun t ht hW => ⟨⟨_, (), rfl, rfl, by rw [ht]; exact hP, hD⟩, hS.F ht⟩) hS.2.2 dL_hub_20

set_option maxHeartbeats 4000000 in
set_option maxRecDepth 100000 in
theorem h_pathVertex_1 (l : Launch) (hlt : l.stackTraces = false) (dG : va_G) (cI cJ : ClassId) (A : Nat → Prop) (xo tl ts : Nat) (bt : Bool) (se lb : Nat) (g gA n ec : Nat) (ns : Nat → Int64) (hn : n ≤ 48) (ou : Nat) (of : Nat → Int64) (x y z : Int32) (hw : wr x y n bt = 1) (X : va_W) : Met l yL_pathVertex wsL_pathVertex ({ frames := 9, cells := 1, slots := 6, locals := 157 } : Room) (XPc dG cI cJ [.ref xo, .int x, .int y, .int z, .ref ou] (XW xo g lb se tl ts (bI bt) ++ (GW cJ g gA (nI n) (nI ec) ns ++ (OW cJ ou of ++ X))) A) (va_Qi (S := Unit) (fun r _ => r = nI 1) (fun _ => WB dG A (XW xo g lb se tl ts (bI bt) ++ (GW cJ g gA (nI n) (nI ec) ns ++ (OW cJ ou of ++ X)))) A) 1 6 A := by
  refine va_MetW (cc := cL_pathVertex) (maxL := 6) (ret := (some .int)) (hh := [(0, 12, 15, 25), (0, 12, 19, 13), (0, 12, 23, 19)]) (by decide) rfl ?_
  intro p e s m args below meth c s₁ B9 hml hv
  obtain ⟨rfl, hP, hK, hD, hTK, hTH⟩ := hv
  have hx := B9.exec
  have hb := B9.bytes
  have hr := B9.returns
  have hts := atoms_spec (ws := wsL_pathVertex) B9.pre
  have hown : s.vm.findClass RL = some m.cls := findClass_of_methodNamed B9.named
  have hlocks := B9.notSynchronized
  have hS : va_S A s.heap s.heap [] := va_S.rf
  have hl := lv_entry ([.ref xo, .int x, .int y, .int z, .ref ou]) (n := 6) (Nat.le_of_ble_eq_true rfl)
  rw [lg_entry_eq]
  generalize (lg_sl ([.ref xo, .int x, .int y, .int z, .ref ou]) ++ List.replicate (6 - (lg_sl ([.ref xo, .int x, .int y, .int z, .ref ou])).length) Slot.unset).toArray = ls at hl ⊢
  have hl : lv_has ls 6 [(0, .ref xo), (1, .int x), (2, .int y), (3, .int z), (4, .ref ou)] := hl
  have htab := vx_table (x := yL_pathVertex) B9 (hts (.codeWith yL_pathVertex cL_pathVertex 6 (some .int) [(0, 12, 15, 25), (0, 12, 19, 13), (0, 12, 23, 19)]) (by decide +kernel))
  refine lv_aload hx hb dL_pathVertex_0 (lv_at hl 4 rfl) ?_
  refine lv_iconst (v := (nI 0)) hx hb dL_pathVertex_2 (by decide) ?_
  refine lv_aload_n hx hb dL_pathVertex_3 rfl (lv_at hl 0 rfl) ?_
  refine lv_iload_n hx hb dL_pathVertex_4 rfl (lv_at hl 1 rfl) ?_
  refine lv_iload_n hx hb dL_pathVertex_5 rfl (lv_at hl 2 rfl) ?_
  refine lv_iload_n hx hb dL_pathVertex_6 rfl (lv_at hl 3 rfl) ?_
  refine vx_calli (vx_runV (As := [.int x, .int y, .int z]) (rest := [.int (nI 0), .ref ou]) ⟨hx, hb, hml, hown, hts⟩ (x_pathVertex l hlt dG cI cJ A xo tl ts bt se lb g gA n ec ns hn x y z 1 hw (by decide) _) (cwV 3 hts gL_pathVertex_X3_pathVertex rfl rfl rfl (by decide +kernel) ⟨Nat.le_of_ble_eq_true rfl, Nat.le_of_ble_eq_true rfl⟩) (XPc.pre hP hD hK hTK hTH (va_recv hK.1 hP (ci := 3) (q0 := 0) rfl rfl)) rfl rfl hl.1 rfl (lv_room (Nat.le_of_ble_eq_true rfl)) dL_pathVertex_7 ⟨Nat.le_of_ble_eq_true rfl, Nat.le_of_ble_eq_true rfl⟩) hS (fun q _ h => h) (fun q h => h) (fun q _ h => h.elim) (fun E ce q9 u9 t H locs ht hvm _ hB hz1 hk1 hS hce hcv hcl => ?_) (fun _r9 u9 t H1 locs1 ht hvm hf _ _ _ _ => hf.elim)
  obtain ⟨hE, hP⟩ := hB
  have hE : E = "java/lang/IndexOutOfBoundsException" := hE
  subst hE
  rw [ht] at hP
  refine vx_catch (own := RL) (name := "java/lang/IndexOutOfBoundsException") (pc := 7) hown [] ⟨0, 12, 15, 25⟩ [⟨0, 12, 19, 13⟩, ⟨0, 12, 23, 19⟩] (htab.trans rfl) (fun z h => nomatch h) (by decide) (by decide) (hts (.classLink RL 25 "java/lang/IndexOutOfBoundsException") (by decide +kernel)) (va_Nw.use rfl (hTK.2.1 "java/lang/IndexOutOfBoundsException" (by decide))) hce hcv hcl ?_
  refine lv_astore (lv' := [(5, .ref q9), (0, .ref xo), (1, .int x), (2, .int y), (3, .int z), (4, .ref ou)]) hx hb dL_pathVertex_15 hl (by decide) rfl (fun ls hl => ?_)
  refine lv_iconst (v := (nI 1)) hx hb dL_pathVertex_17 (by decide) ?_
  exact W.iret (v := (nI 1)) hx hb hr (fun t ht hW => ⟨⟨_, (), rfl, rfl, by rw [ht]; exact hP, hD⟩, hS.F ht⟩) hS.2.2 dL_pathVertex_18

set_option maxHeartbeats 4000000 in
set_option maxRecDepth 100000 in
theorem h_pathVertex_2 (l : Launch) (hlt : l.stackTraces = false) (dG : va_G) (cI cJ : ClassId) (A : Nat → Prop) (xo tl ts : Nat) (bt : Bool) (se lb : Nat) (g gA n ec : Nat) (ns : Nat → Int64) (hn : n ≤ 48) (ou : Nat) (of : Nat → Int64) (x y z : Int32) (hw : wr x y n bt = 2) (X : va_W) : Met l yL_pathVertex wsL_pathVertex ({ frames := 9, cells := 1, slots := 6, locals := 157 } : Room) (XPc dG cI cJ [.ref xo, .int x, .int y, .int z, .ref ou] (XW xo g lb se tl ts (bI bt) ++ (GW cJ g gA (nI n) (nI ec) ns ++ (OW cJ ou of ++ X))) A) (va_Qi (S := Unit) (fun r _ => r = nI 2) (fun _ => WB dG A (XW xo g lb se tl ts (bI bt) ++ (GW cJ g gA (nI n) (nI ec) ns ++ (OW cJ ou of ++ X)))) A) 1 6 A := by
  refine va_MetW (cc := cL_pathVertex) (maxL := 6) (ret := (some .int)) (hh := [(0, 12, 15, 25), (0, 12, 19, 13), (0, 12, 23, 19)]) (by decide) rfl ?_
  intro p e s m args below meth c s₁ B9 hml hv
  obtain ⟨rfl, hP, hK, hD, hTK, hTH⟩ := hv
  have hx := B9.exec
  have hb := B9.bytes
  have hr := B9.returns
  have hts := atoms_spec (ws := wsL_pathVertex) B9.pre
  have hown : s.vm.findClass RL = some m.cls := findClass_of_methodNamed B9.named
  have hlocks := B9.notSynchronized
  have hS : va_S A s.heap s.heap [] := va_S.rf
  have hl := lv_entry ([.ref xo, .int x, .int y, .int z, .ref ou]) (n := 6) (Nat.le_of_ble_eq_true rfl)
  rw [lg_entry_eq]
  generalize (lg_sl ([.ref xo, .int x, .int y, .int z, .ref ou]) ++ List.replicate (6 - (lg_sl ([.ref xo, .int x, .int y, .int z, .ref ou])).length) Slot.unset).toArray = ls at hl ⊢
  have hl : lv_has ls 6 [(0, .ref xo), (1, .int x), (2, .int y), (3, .int z), (4, .ref ou)] := hl
  have htab := vx_table (x := yL_pathVertex) B9 (hts (.codeWith yL_pathVertex cL_pathVertex 6 (some .int) [(0, 12, 15, 25), (0, 12, 19, 13), (0, 12, 23, 19)]) (by decide +kernel))
  refine lv_aload hx hb dL_pathVertex_0 (lv_at hl 4 rfl) ?_
  refine lv_iconst (v := (nI 0)) hx hb dL_pathVertex_2 (by decide) ?_
  refine lv_aload_n hx hb dL_pathVertex_3 rfl (lv_at hl 0 rfl) ?_
  refine lv_iload_n hx hb dL_pathVertex_4 rfl (lv_at hl 1 rfl) ?_
  refine lv_iload_n hx hb dL_pathVertex_5 rfl (lv_at hl 2 rfl) ?_
  refine lv_iload_n hx hb dL_pathVertex_6 rfl (lv_at hl 3 rfl) ?_
  refine vx_calli (vx_runV (As := [.int x, .int y, .int z]) (rest := [.int (nI 0), .ref ou]) ⟨hx, hb, hml, hown, hts⟩ (x_pathVertex l hlt dG cI cJ A xo tl ts bt se lb g gA n ec ns hn x y z 2 hw (by decide) _) (cwV 3 hts gL_pathVertex_X3_pathVertex rfl rfl rfl (by decide +kernel) ⟨Nat.le_of_ble_eq_true rfl, Nat.le_of_ble_eq_true rfl⟩) (XPc.pre hP hD hK hTK hTH (va_recv hK.1 hP (ci := 3) (q0 := 0) rfl rfl)) rfl rfl hl.1 rfl (lv_room (Nat.le_of_ble_eq_true rfl)) dL_pathVertex_7 ⟨Nat.le_of_ble_eq_true rfl, Nat.le_of_ble_eq_true rfl⟩) hS (fun q _ h => h) (fun q h => h) (fun q _ h => h.elim) (fun E ce q9 u9 t H locs ht hvm _ hB hz1 hk1 hS hce hcv hcl => ?_) (fun _r9 u9 t H1 locs1 ht hvm hf _ _ _ _ => hf.elim)
  obtain ⟨hE, hP⟩ := hB
  have hE : E = "java/lang/IllegalStateException" := hE
  subst hE
  rw [ht] at hP
  refine vx_catch (own := RL) (name := "java/lang/IllegalStateException") (pc := 7) hown [⟨0, 12, 15, 25⟩] ⟨0, 12, 19, 13⟩ [⟨0, 12, 23, 19⟩] (htab.trans rfl) (List.forall_mem_cons.mpr ⟨Or.inr ⟨by decide, "java/lang/IndexOutOfBoundsException", hts (.classLink RL 25 "java/lang/IndexOutOfBoundsException") (by decide +kernel), hTK.2.2.1 "java/lang/IllegalStateException" (by decide) "java/lang/IndexOutOfBoundsException" (by decide) (by decide)⟩, fun z h => nomatch h⟩) (by decide) (by decide) (hts (.classLink RL 13 "java/lang/IllegalStateException") (by decide +kernel)) (va_Nw.use rfl (hTK.2.1 "java/lang/IllegalStateException" (by decide))) hce hcv hcl ?_
  refine lv_astore (lv' := [(5, .ref q9), (0, .ref xo), (1, .int x), (2, .int y), (3, .int z), (4, .ref ou)]) hx hb dL_pathVertex_19 hl (by decide) rfl (fun ls hl => ?_)
  refine lv_iconst (v := (nI 2)) hx hb dL_pathVertex_21 (by decide) ?_
  exact W.iret (v := (nI 2)) hx hb hr (fun t ht hW => ⟨⟨_, (), rfl, rfl, by rw [ht]; exact hP, hD⟩, hS.F ht⟩) hS.2.2 dL_pathVertex_22

set_option maxHeartbeats 4000000 in
set_option maxRecDepth 100000 in
theorem h_neighbours_1 (l : Launch) (hlt : l.stackTraces = false) (dG : va_G) (cI cJ : ClassId) (A : Nat → Prop) (xo tl ts : Nat) (bt : Bool) (se lb : Nat) (g gA n ec : Nat) (ns : Nat → Int64) (hn : n ≤ 48) (ou : Nat) (of : Nat → Int64) (x : Int32) (hx9 : inV x n = false) (X : va_W) : Met l yL_neighbours wsL_neighbours ({ frames := 8, cells := 1, slots := 6, locals := 132 } : Room) (XPc dG cI cJ [.ref xo, .int x, .ref ou] (XW xo g lb se tl ts (bI bt) ++ (GW cJ g gA (nI n) (nI ec) ns ++ (OW cJ ou of ++ X))) A) (va_Qi (S := Unit) (fun r _ => r = nI 1) (fun _ => WB dG A (XW xo g lb se tl ts (bI bt) ++ (GW cJ g gA (nI n) (nI ec) ns ++ (OW cJ ou of ++ X)))) A) 1 6 A := by
  refine va_MetW (cc := cL_neighbours) (maxL := 4) (ret := (some .int)) (hh := [(0, 8, 11, 25)]) (by decide) rfl ?_
  intro p e s m args below meth c s₁ B9 hml hv
  obtain ⟨rfl, hP, hK, hD, hTK, hTH⟩ := hv
  have hx := B9.exec
  have hb := B9.bytes
  have hr := B9.returns
  have hts := atoms_spec (ws := wsL_neighbours) B9.pre
  have hown : s.vm.findClass RL = some m.cls := findClass_of_methodNamed B9.named
  have hlocks := B9.notSynchronized
  have hS : va_S A s.heap s.heap [] := va_S.rf
  have hl := lv_entry ([.ref xo, .int x, .ref ou]) (n := 4) (Nat.le_of_ble_eq_true rfl)
  rw [lg_entry_eq]
  generalize (lg_sl ([.ref xo, .int x, .ref ou]) ++ List.replicate (4 - (lg_sl ([.ref xo, .int x, .ref ou])).length) Slot.unset).toArray = ls at hl ⊢
  have hl : lv_has ls 4 [(0, .ref xo), (1, .int x), (2, .ref ou)] := hl
  have htab := vx_table (x := yL_neighbours) B9 (hts (.codeWith yL_neighbours cL_neighbours 4 (some .int) [(0, 8, 11, 25)]) (by decide +kernel))
  refine lv_aload_n hx hb dL_neighbours_0 rfl (lv_at hl 2 rfl) ?_
  refine lv_iconst (v := (nI 0)) hx hb dL_neighbours_1 (by decide) ?_
  refine lv_aload_n hx hb dL_neighbours_2 rfl (lv_at hl 0 rfl) ?_
  refine lv_iload_n hx hb dL_neighbours_3 rfl (lv_at hl 1 rfl) ?_
  refine vx_calll (vx_runV (As := [.int x]) (rest := [.int (nI 0), .ref ou]) ⟨hx, hb, hml, hown, hts⟩ (x_neighbours l hlt dG cI cJ A xo tl ts bt se lb g gA n ec ns hn x hx9 _) (cwV 1 hts gL_neighbours_X3_neighbours rfl rfl rfl (by decide +kernel) ⟨Nat.le_of_ble_eq_true rfl, Nat.le_of_ble_eq_true rfl⟩) (XPc.pre hP hD hK hTK hTH (va_recv hK.1 hP (ci := 3) (q0 := 0) rfl rfl)) rfl rfl hl.1 rfl (lv_room (Nat.le_of_ble_eq_true rfl)) dL_neighbours_4 ⟨Nat.le_of_ble_eq_true rfl, Nat.le_of_ble_eq_true rfl⟩) hS (fun q _ h => h) (fun q h => h) (fun q _ h => h.elim) (fun E ce q9 u9 t H locs ht hvm _ hB hz1 hk1 hS hce hcv hcl => ?_) (fun _r9 u9 t H1 locs1 ht hvm hf _ _ _ _ => hf.elim)
  obtain ⟨hE, hP⟩ := hB
  have hE : E = "java/lang/IndexOutOfBoundsException" := hE
  subst hE
  rw [ht] at hP
  refine vx_catch (own := RL) (name := "java/lang/IndexOutOfBoundsException") (pc := 4) hown [] ⟨0, 8, 11, 25⟩ [] (htab.trans rfl) (fun z h => nomatch h) (by decide) (by decide) (hts (.classLink RL 25 "java/lang/IndexOutOfBoundsException") (by decide +kernel)) (va_Nw.use rfl (hTK.2.1 "java/lang/IndexOutOfBoundsException" (by decide))) hce hcv hcl ?_
  refine lv_astore_n (lv' := [(3, .ref q9), (0, .ref xo), (1, .int x), (2, .ref ou)]) hx hb dL_neighbours_11 rfl hl (by decide) rfl (fun ls hl => ?_)
  refine lv_iconst (v := (nI 1)) hx hb dL_neighbours_12 (by decide) ?_
  exact W.iret (v := (nI 1)) hx hb hr (fun t ht hW => ⟨⟨_, (), rfl, rfl, by rw [ht]; exact hP, hD⟩, hS.F ht⟩) hS.2.2 dL_neighbours_13

set_option maxHeartbeats 4000000 in
set_option maxRecDepth 100000 in
theorem h_addVertex_1 (l : Launch) (hlt : l.stackTraces = false) (dG : va_G) (cI cJ : ClassId) (A : Nat → Prop) (xo tl ts : Nat) (bt : Bool) (se lb : Nat) (g gA n ec : Nat) (ns : Nat → Int64) (hn : n ≤ 48) (ou : Nat) (of : Nat → Int64) (hn9 : n = 48) (X : va_W) : Met l yL_addVertex wsL_addVertex ({ frames := 8, cells := 1, slots := 6, locals := 131 } : Room) (XPc dG cI cJ [.ref xo, .ref ou] (XW xo g lb se tl ts (bI bt) ++ (GW cJ g gA (nI n) (nI ec) ns ++ (OW cJ ou of ++ X))) A) (va_Qi (S := Unit) (fun r _ => r = nI 1) (fun _ => WB dG A (XW xo g lb se tl ts (bI bt) ++ (GW cJ g gA (nI n) (nI ec) ns ++ (OW cJ ou of ++ X)))) A) 1 6 A := by
  refine va_MetW (cc := cL_addVertex) (maxL := 3) (ret := (some .int)) (hh := [(0, 8, 11, 13)]) (by decide) rfl ?_
  intro p e s m args below meth c s₁ B9 hml hv
  obtain ⟨rfl, hP, hK, hD, hTK, hTH⟩ := hv
  have hx := B9.exec
  have hb := B9.bytes
  have hr := B9.returns
  have hts := atoms_spec (ws := wsL_addVertex) B9.pre
  have hown : s.vm.findClass RL = some m.cls := findClass_of_methodNamed B9.named
  have hlocks := B9.notSynchronized
  have hS : va_S A s.heap s.heap [] := va_S.rf
  have hl := lv_entry ([.ref xo, .ref ou]) (n := 3) (Nat.le_of_ble_eq_true rfl)
  rw [lg_entry_eq]
  generalize (lg_sl ([.ref xo, .ref ou]) ++ List.replicate (3 - (lg_sl ([.ref xo, .ref ou])).length) Slot.unset).toArray = ls at hl ⊢
  have hl : lv_has ls 3 [(0, .ref xo), (1, .ref ou)] := hl
  have htab := vx_table (x := yL_addVertex) B9 (hts (.codeWith yL_addVertex cL_addVertex 3 (some .int) [(0, 8, 11, 13)]) (by decide +kernel))
  refine lv_aload_n hx hb dL_addVertex_0 rfl (lv_at hl 1 rfl) ?_
  refine lv_iconst (v := (nI 0)) hx hb dL_addVertex_1 (by decide) ?_
  refine lv_aload_n hx hb dL_addVertex_2 rfl (lv_at hl 0 rfl) ?_
  refine vx_calli (vx_runV (As := []) (rest := [.int (nI 0), .ref ou]) ⟨hx, hb, hml, hown, hts⟩ (x_addVertex l hlt dG cI cJ A xo tl ts bt se lb g gA n ec ns hn hn9 _) (cwV 0 hts gL_addVertex_X3_addVertex rfl rfl rfl (by decide +kernel) ⟨Nat.le_of_ble_eq_true rfl, Nat.le_of_ble_eq_true rfl⟩) (XPc.pre hP hD hK hTK hTH (va_recv hK.1 hP (ci := 3) (q0 := 0) rfl rfl)) rfl rfl hl.1 rfl (lv_room (Nat.le_of_ble_eq_true rfl)) dL_addVertex_3 ⟨Nat.le_of_ble_eq_true rfl, Nat.le_of_ble_eq_true rfl⟩) hS (fun q _ h => h) (fun q h => h) (fun q _ h => h.elim) (fun E ce q9 u9 t H locs ht hvm _ hB hz1 hk1 hS hce hcv hcl => ?_) (fun _r9 u9 t H1 locs1 ht hvm hf _ _ _ _ => hf.elim)
  obtain ⟨hE, hP⟩ := hB
  have hE : E = "java/lang/IllegalStateException" := hE
  subst hE
  rw [ht] at hP
  refine vx_catch (own := RL) (name := "java/lang/IllegalStateException") (pc := 3) hown [] ⟨0, 8, 11, 13⟩ [] (htab.trans rfl) (fun z h => nomatch h) (by decide) (by decide) (hts (.classLink RL 13 "java/lang/IllegalStateException") (by decide +kernel)) (va_Nw.use rfl (hTK.2.1 "java/lang/IllegalStateException" (by decide))) hce hcv hcl ?_
  refine lv_astore_n (lv' := [(2, .ref q9), (0, .ref xo), (1, .ref ou)]) hx hb dL_addVertex_11 rfl hl (by decide) rfl (fun ls hl => ?_)
  refine lv_iconst (v := (nI 1)) hx hb dL_addVertex_12 (by decide) ?_
  exact W.iret (v := (nI 1)) hx hb hr (fun t ht hW => ⟨⟨_, (), rfl, rfl, by rw [ht]; exact hP, hD⟩, hS.F ht⟩) hS.2.2 dL_addVertex_13

set_option maxHeartbeats 4000000 in
set_option maxRecDepth 100000 in
theorem h_addVertices_1 (l : Launch) (hlt : l.stackTraces = false) (dG : va_G) (cI cJ : ClassId) (A : Nat → Prop) (xo tl ts : Nat) (bt : Bool) (se lb : Nat) (g gA n ec : Nat) (ns : Nat → Int64) (hn : n ≤ 48) (ou : Nat) (of : Nat → Int64) (x : Int32) (hx9 : x < nI 1 ∨ nI 48 < x) (X : va_W) : Met l yL_addVertices wsL_addVertices ({ frames := 7, cells := 1, slots := 6, locals := 112 } : Room) (XPc dG cI cJ [.ref xo, .int x, .ref ou] (XW xo g lb se tl ts (bI bt) ++ (GW cJ g gA (nI n) (nI ec) ns ++ (OW cJ ou of ++ X))) A) (va_Qi (S := Unit) (fun r _ => r = nI 1) (fun _ => WB dG A (XW xo g lb se tl ts (bI bt) ++ (GW cJ g gA (nI n) (nI ec) ns ++ (OW cJ ou of ++ X)))) A) 1 6 A := by
  refine va_MetW (cc := cL_addVertices) (maxL := 4) (ret := (some .int)) (hh := [(0, 9, 12, 19), (0, 9, 15, 13)]) (by decide) rfl ?_
  intro p e s m args below meth c s₁ B9 hml hv
  obtain ⟨rfl, hP, hK, hD, hTK, hTH⟩ := hv
  have hx := B9.exec
  have hb := B9.bytes
  have hr := B9.returns
  have hts := atoms_spec (ws := wsL_addVertices) B9.pre
  have hown : s.vm.findClass RL = some m.cls := findClass_of_methodNamed B9.named
  have hlocks := B9.notSynchronized
  have hS : va_S A s.heap s.heap [] := va_S.rf
  have hl := lv_entry ([.ref xo, .int x, .ref ou]) (n := 4) (Nat.le_of_ble_eq_true rfl)
  rw [lg_entry_eq]
  generalize (lg_sl ([.ref xo, .int x, .ref ou]) ++ List.replicate (4 - (lg_sl ([.ref xo, .int x, .ref ou])).length) Slot.unset).toArray = ls at hl ⊢
  have hl : lv_has ls 4 [(0, .ref xo), (1, .int x), (2, .ref ou)] := hl
  have htab := vx_table (x := yL_addVertices) B9 (hts (.codeWith yL_addVertices cL_addVertices 4 (some .int) [(0, 9, 12, 19), (0, 9, 15, 13)]) (by decide +kernel))
  refine lv_aload_n hx hb dL_addVertices_0 rfl (lv_at hl 2 rfl) ?_
  refine lv_iconst (v := (nI 0)) hx hb dL_addVertices_1 (by decide) ?_
  refine lv_aload_n hx hb dL_addVertices_2 rfl (lv_at hl 0 rfl) ?_
  refine lv_iload_n hx hb dL_addVertices_3 rfl (lv_at hl 1 rfl) ?_
  refine vx_calli (vx_runV (As := [.int x]) (rest := [.int (nI 0), .ref ou]) ⟨hx, hb, hml, hown, hts⟩ (x_addVertices1 l hlt dG cI cJ A xo tl ts bt se lb g gA n ec ns hn x hx9 _) (cwV 1 hts gL_addVertices_X3_addVertices rfl rfl rfl (by decide +kernel) ⟨Nat.le_of_ble_eq_true rfl, Nat.le_of_ble_eq_true rfl⟩) (XPc.pre hP hD hK hTK hTH (va_recv hK.1 hP (ci := 3) (q0 := 0) rfl rfl)) rfl rfl hl.1 rfl (lv_room (Nat.le_of_ble_eq_true rfl)) dL_addVertices_4 ⟨Nat.le_of_ble_eq_true rfl, Nat.le_of_ble_eq_true rfl⟩) hS (fun q _ h => h) (fun q h => h) (fun q _ h => h.elim) (fun E ce q9 u9 t H locs ht hvm _ hB hz1 hk1 hS hce hcv hcl => ?_) (fun _r9 u9 t H1 locs1 ht hvm hf _ _ _ _ => hf.elim)
  obtain ⟨hE, hP⟩ := hB
  have hE : E = "java/lang/IllegalArgumentException" := hE
  subst hE
  rw [ht] at hP
  refine vx_catch (own := RL) (name := "java/lang/IllegalArgumentException") (pc := 4) hown [] ⟨0, 9, 12, 19⟩ [⟨0, 9, 15, 13⟩] (htab.trans rfl) (fun z h => nomatch h) (by decide) (by decide) (hts (.classLink RL 19 "java/lang/IllegalArgumentException") (by decide +kernel)) (va_Nw.use rfl (hTK.2.1 "java/lang/IllegalArgumentException" (by decide))) hce hcv hcl ?_
  refine lv_astore_n (lv' := [(3, .ref q9), (0, .ref xo), (1, .int x), (2, .ref ou)]) hx hb dL_addVertices_12 rfl hl (by decide) rfl (fun ls hl => ?_)
  refine lv_iconst (v := (nI 1)) hx hb dL_addVertices_13 (by decide) ?_
  exact W.iret (v := (nI 1)) hx hb hr (fun t ht hW => ⟨⟨_, (), rfl, rfl, by rw [ht]; exact hP, hD⟩, hS.F ht⟩) hS.2.2 dL_addVertices_14

set_option maxHeartbeats 4000000 in
set_option maxRecDepth 100000 in
theorem h_addVertices_2 (l : Launch) (hlt : l.stackTraces = false) (dG : va_G) (cI cJ : ClassId) (A : Nat → Prop) (xo tl ts : Nat) (bt : Bool) (se lb : Nat) (g gA n ec : Nat) (ns : Nat → Int64) (hn : n ≤ 48) (ou : Nat) (of : Nat → Int64) (c0 : Nat) (h1 : 1 ≤ c0) (h2 : c0 ≤ 48) (h3 : 48 < n + c0) (X : va_W) : Met l yL_addVertices wsL_addVertices ({ frames := 8, cells := 1, slots := 6, locals := 133 } : Room) (XPc dG cI cJ [.ref xo, .int (nI c0), .ref ou] (XW xo g lb se tl ts (bI bt) ++ (GW cJ g gA (nI n) (nI ec) ns ++ (OW cJ ou of ++ X))) A) (va_Qi (S := Unit) (fun r _ => r = nI 2) (fun _ => WB dG A (XW xo g lb se tl ts (bI bt) ++ (GW cJ g gA (nI n) (nI ec) ns ++ (OW cJ ou of ++ X)))) A) 1 6 A := by
  refine va_MetW (cc := cL_addVertices) (maxL := 4) (ret := (some .int)) (hh := [(0, 9, 12, 19), (0, 9, 15, 13)]) (by decide) rfl ?_
  intro p e s m args below meth c s₁ B9 hml hv
  obtain ⟨rfl, hP, hK, hD, hTK, hTH⟩ := hv
  have hx := B9.exec
  have hb := B9.bytes
  have hr := B9.returns
  have hts := atoms_spec (ws := wsL_addVertices) B9.pre
  have hown : s.vm.findClass RL = some m.cls := findClass_of_methodNamed B9.named
  have hlocks := B9.notSynchronized
  have hS : va_S A s.heap s.heap [] := va_S.rf
  have hl := lv_entry ([.ref xo, .int (nI c0), .ref ou]) (n := 4) (Nat.le_of_ble_eq_true rfl)
  rw [lg_entry_eq]
  generalize (lg_sl ([.ref xo, .int (nI c0), .ref ou]) ++ List.replicate (4 - (lg_sl ([.ref xo, .int (nI c0), .ref ou])).length) Slot.unset).toArray = ls at hl ⊢
  have hl : lv_has ls 4 [(0, .ref xo), (1, .int (nI c0)), (2, .ref ou)] := hl
  have htab := vx_table (x := yL_addVertices) B9 (hts (.codeWith yL_addVertices cL_addVertices 4 (some .int) [(0, 9, 12, 19), (0, 9, 15, 13)]) (by decide +kernel))
  refine lv_aload_n hx hb dL_addVertices_0 rfl (lv_at hl 2 rfl) ?_
  refine lv_iconst (v := (nI 0)) hx hb dL_addVertices_1 (by decide) ?_
  refine lv_aload_n hx hb dL_addVertices_2 rfl (lv_at hl 0 rfl) ?_
  refine lv_iload_n hx hb dL_addVertices_3 rfl (lv_at hl 1 rfl) ?_
  refine vx_calli (vx_runV (As := [.int (nI c0)]) (rest := [.int (nI 0), .ref ou]) ⟨hx, hb, hml, hown, hts⟩ (x_addVertices2 l hlt dG cI cJ A xo tl ts bt se lb g gA n ec ns hn c0 h1 h2 h3 _) (cwV 1 hts gL_addVertices_X3_addVertices rfl rfl rfl (by decide +kernel) ⟨Nat.le_of_ble_eq_true rfl, Nat.le_of_ble_eq_true rfl⟩) (XPc.pre hP hD hK hTK hTH (va_recv hK.1 hP (ci := 3) (q0 := 0) rfl rfl)) rfl rfl hl.1 rfl (lv_room (Nat.le_of_ble_eq_true rfl)) dL_addVertices_4 ⟨Nat.le_of_ble_eq_true rfl, Nat.le_of_ble_eq_true rfl⟩) hS (fun q _ h => h) (fun q h => h) (fun q _ h => h.elim) (fun E ce q9 u9 t H locs ht hvm _ hB hz1 hk1 hS hce hcv hcl => ?_) (fun _r9 u9 t H1 locs1 ht hvm hf _ _ _ _ => hf.elim)
  obtain ⟨hE, hP⟩ := hB
  have hE : E = "java/lang/IllegalStateException" := hE
  subst hE
  rw [ht] at hP
  refine vx_catch (own := RL) (name := "java/lang/IllegalStateException") (pc := 4) hown [⟨0, 9, 12, 19⟩] ⟨0, 9, 15, 13⟩ [] (htab.trans rfl) (List.forall_mem_cons.mpr ⟨Or.inr ⟨by decide, "java/lang/IllegalArgumentException", hts (.classLink RL 19 "java/lang/IllegalArgumentException") (by decide +kernel), hTK.2.2.1 "java/lang/IllegalStateException" (by decide) "java/lang/IllegalArgumentException" (by decide) (by decide)⟩, fun z h => nomatch h⟩) (by decide) (by decide) (hts (.classLink RL 13 "java/lang/IllegalStateException") (by decide +kernel)) (va_Nw.use rfl (hTK.2.1 "java/lang/IllegalStateException" (by decide))) hce hcv hcl ?_
  refine lv_astore_n (lv' := [(3, .ref q9), (0, .ref xo), (1, .int (nI c0)), (2, .ref ou)]) hx hb dL_addVertices_15 rfl hl (by decide) rfl (fun ls hl => ?_)
  refine lv_iconst (v := (nI 2)) hx hb dL_addVertices_16 (by decide) ?_
  exact W.iret (v := (nI 2)) hx hb hr (fun t ht hW => ⟨⟨_, (), rfl, rfl, by rw [ht]; exact hP, hD⟩, hS.F ht⟩) hS.2.2 dL_addVertices_17

set_option maxHeartbeats 4000000 in
set_option maxRecDepth 100000 in
theorem h_addEdge_1 (l : Launch) (hlt : l.stackTraces = false) (dG : va_G) (cI cJ : ClassId) (A : Nat → Prop) (xo tl ts : Nat) (bt : Bool) (se lb : Nat) (g gA n ec : Nat) (ns : Nat → Int64) (hn : n ≤ 48) (ou : Nat) (of : Nat → Int64) (x y : Int32) (hxy : (inV x n && inV y n) = false) (X : va_W) : Met l yL_addEdge wsL_addEdge ({ frames := 8, cells := 1, slots := 6, locals := 134 } : Room) (XPc dG cI cJ [.ref xo, .int x, .int y, .ref ou] (XW xo g lb se tl ts (bI bt) ++ (GW cJ g gA (nI n) (nI ec) ns ++ (OW cJ ou of ++ X))) A) (va_Qi (S := Unit) (fun r _ => r = nI 1) (fun _ => WB dG A (XW xo g lb se tl ts (bI bt) ++ (GW cJ g gA (nI n) (nI ec) ns ++ (OW cJ ou of ++ X)))) A) 1 6 A := by
  refine va_MetW (cc := cL_addEdge) (maxL := 5) (ret := (some .int)) (hh := [(0, 10, 13, 25), (0, 10, 17, 13)]) (by decide) rfl ?_
  intro p e s m args below meth c s₁ B9 hml hv
  obtain ⟨rfl, hP, hK, hD, hTK, hTH⟩ := hv
  have hx := B9.exec
  have hb := B9.bytes
  have hr := B9.returns
  have hts := atoms_spec (ws := wsL_addEdge) B9.pre
  have hown : s.vm.findClass RL = some m.cls := findClass_of_methodNamed B9.named
  have hlocks := B9.notSynchronized
  have hS : va_S A s.heap s.heap [] := va_S.rf
  have hl := lv_entry ([.ref xo, .int x, .int y, .ref ou]) (n := 5) (Nat.le_of_ble_eq_true rfl)
  rw [lg_entry_eq]
  generalize (lg_sl ([.ref xo, .int x, .int y, .ref ou]) ++ List.replicate (5 - (lg_sl ([.ref xo, .int x, .int y, .ref ou])).length) Slot.unset).toArray = ls at hl ⊢
  have hl : lv_has ls 5 [(0, .ref xo), (1, .int x), (2, .int y), (3, .ref ou)] := hl
  have htab := vx_table (x := yL_addEdge) B9 (hts (.codeWith yL_addEdge cL_addEdge 5 (some .int) [(0, 10, 13, 25), (0, 10, 17, 13)]) (by decide +kernel))
  refine lv_aload_n hx hb dL_addEdge_0 rfl (lv_at hl 3 rfl) ?_
  refine lv_iconst (v := (nI 0)) hx hb dL_addEdge_1 (by decide) ?_
  refine lv_aload_n hx hb dL_addEdge_2 rfl (lv_at hl 0 rfl) ?_
  refine lv_iload_n hx hb dL_addEdge_3 rfl (lv_at hl 1 rfl) ?_
  refine lv_iload_n hx hb dL_addEdge_4 rfl (lv_at hl 2 rfl) ?_
  refine vx_calli (vx_runV (As := [.int x, .int y]) (rest := [.int (nI 0), .ref ou]) ⟨hx, hb, hml, hown, hts⟩ (x_addEdge1 l hlt dG cI cJ A xo tl ts bt se lb g gA n ec ns hn x y hxy _) (cwV 2 hts gL_addEdge_X3_addEdge rfl rfl rfl (by decide +kernel) ⟨Nat.le_of_ble_eq_true rfl, Nat.le_of_ble_eq_true rfl⟩) (XPc.pre hP hD hK hTK hTH (va_recv hK.1 hP (ci := 3) (q0 := 0) rfl rfl)) rfl rfl hl.1 rfl (lv_room (Nat.le_of_ble_eq_true rfl)) dL_addEdge_5 ⟨Nat.le_of_ble_eq_true rfl, Nat.le_of_ble_eq_true rfl⟩) hS (fun q _ h => h) (fun q h => h) (fun q _ h => h.elim) (fun E ce q9 u9 t H locs ht hvm _ hB hz1 hk1 hS hce hcv hcl => ?_) (fun _r9 u9 t H1 locs1 ht hvm hf _ _ _ _ => hf.elim)
  obtain ⟨hE, hP⟩ := hB
  have hE : E = "java/lang/IndexOutOfBoundsException" := hE
  subst hE
  rw [ht] at hP
  refine vx_catch (own := RL) (name := "java/lang/IndexOutOfBoundsException") (pc := 5) hown [] ⟨0, 10, 13, 25⟩ [⟨0, 10, 17, 13⟩] (htab.trans rfl) (fun z h => nomatch h) (by decide) (by decide) (hts (.classLink RL 25 "java/lang/IndexOutOfBoundsException") (by decide +kernel)) (va_Nw.use rfl (hTK.2.1 "java/lang/IndexOutOfBoundsException" (by decide))) hce hcv hcl ?_
  refine lv_astore (lv' := [(4, .ref q9), (0, .ref xo), (1, .int x), (2, .int y), (3, .ref ou)]) hx hb dL_addEdge_13 hl (by decide) rfl (fun ls hl => ?_)
  refine lv_iconst (v := (nI 1)) hx hb dL_addEdge_15 (by decide) ?_
  exact W.iret (v := (nI 1)) hx hb hr (fun t ht hW => ⟨⟨_, (), rfl, rfl, by rw [ht]; exact hP, hD⟩, hS.F ht⟩) hS.2.2 dL_addEdge_16

set_option maxHeartbeats 4000000 in
set_option maxRecDepth 100000 in
theorem h_addEdge_2 (l : Launch) (hlt : l.stackTraces = false) (dG : va_G) (cI cJ : ClassId) (A : Nat → Prop) (xo tl ts : Nat) (bt : Bool) (se lb : Nat) (g gA n ec : Nat) (ns : Nat → Int64) (hn : n ≤ 48) (ou : Nat) (of : Nat → Int64) (a b : Nat) (ha : a < n) (hb9 : b < n) (h9 : a = b ∨ gb (ns a) b = true) (X : va_W) : Met l yL_addEdge wsL_addEdge ({ frames := 7, cells := 1, slots := 6, locals := 112 } : Room) (XPc dG cI cJ [.ref xo, .int (nI a), .int (nI b), .ref ou] (XW xo g lb se tl ts (bI bt) ++ (GW cJ g gA (nI n) (nI ec) ns ++ (OW cJ ou of ++ X))) A) (va_Qi (S := Unit) (fun r _ => r = nI 2) (fun _ => WB dG A (XW xo g lb se tl ts (bI bt) ++ (GW cJ g gA (nI n) (nI ec) ns ++ (OW cJ ou of ++ X)))) A) 1 6 A := by
  refine va_MetW (cc := cL_addEdge) (maxL := 5) (ret := (some .int)) (hh := [(0, 10, 13, 25), (0, 10, 17, 13)]) (by decide) rfl ?_
  intro p e s m args below meth c s₁ B9 hml hv
  obtain ⟨rfl, hP, hK, hD, hTK, hTH⟩ := hv
  have hx := B9.exec
  have hb := B9.bytes
  have hr := B9.returns
  have hts := atoms_spec (ws := wsL_addEdge) B9.pre
  have hown : s.vm.findClass RL = some m.cls := findClass_of_methodNamed B9.named
  have hlocks := B9.notSynchronized
  have hS : va_S A s.heap s.heap [] := va_S.rf
  have hl := lv_entry ([.ref xo, .int (nI a), .int (nI b), .ref ou]) (n := 5) (Nat.le_of_ble_eq_true rfl)
  rw [lg_entry_eq]
  generalize (lg_sl ([.ref xo, .int (nI a), .int (nI b), .ref ou]) ++ List.replicate (5 - (lg_sl ([.ref xo, .int (nI a), .int (nI b), .ref ou])).length) Slot.unset).toArray = ls at hl ⊢
  have hl : lv_has ls 5 [(0, .ref xo), (1, .int (nI a)), (2, .int (nI b)), (3, .ref ou)] := hl
  have htab := vx_table (x := yL_addEdge) B9 (hts (.codeWith yL_addEdge cL_addEdge 5 (some .int) [(0, 10, 13, 25), (0, 10, 17, 13)]) (by decide +kernel))
  refine lv_aload_n hx hb dL_addEdge_0 rfl (lv_at hl 3 rfl) ?_
  refine lv_iconst (v := (nI 0)) hx hb dL_addEdge_1 (by decide) ?_
  refine lv_aload_n hx hb dL_addEdge_2 rfl (lv_at hl 0 rfl) ?_
  refine lv_iload_n hx hb dL_addEdge_3 rfl (lv_at hl 1 rfl) ?_
  refine lv_iload_n hx hb dL_addEdge_4 rfl (lv_at hl 2 rfl) ?_
  refine vx_calli (vx_runV (As := [.int (nI a), .int (nI b)]) (rest := [.int (nI 0), .ref ou]) ⟨hx, hb, hml, hown, hts⟩ (x_addEdge2 l hlt dG cI cJ A xo tl ts bt se lb g gA n ec ns hn a b ha hb9 h9 _) (cwV 2 hts gL_addEdge_X3_addEdge rfl rfl rfl (by decide +kernel) ⟨Nat.le_of_ble_eq_true rfl, Nat.le_of_ble_eq_true rfl⟩) (XPc.pre hP hD hK hTK hTH (va_recv hK.1 hP (ci := 3) (q0 := 0) rfl rfl)) rfl rfl hl.1 rfl (lv_room (Nat.le_of_ble_eq_true rfl)) dL_addEdge_5 ⟨Nat.le_of_ble_eq_true rfl, Nat.le_of_ble_eq_true rfl⟩) hS (fun q _ h => h) (fun q h => h) (fun q _ h => h.elim) (fun E ce q9 u9 t H locs ht hvm _ hB hz1 hk1 hS hce hcv hcl => ?_) (fun _r9 u9 t H1 locs1 ht hvm hf _ _ _ _ => hf.elim)
  obtain ⟨hE, hP⟩ := hB
  have hE : E = "java/lang/IllegalStateException" := hE
  subst hE
  rw [ht] at hP
  refine vx_catch (own := RL) (name := "java/lang/IllegalStateException") (pc := 5) hown [⟨0, 10, 13, 25⟩] ⟨0, 10, 17, 13⟩ [] (htab.trans rfl) (List.forall_mem_cons.mpr ⟨Or.inr ⟨by decide, "java/lang/IndexOutOfBoundsException", hts (.classLink RL 25 "java/lang/IndexOutOfBoundsException") (by decide +kernel), hTK.2.2.1 "java/lang/IllegalStateException" (by decide) "java/lang/IndexOutOfBoundsException" (by decide) (by decide)⟩, fun z h => nomatch h⟩) (by decide) (by decide) (hts (.classLink RL 13 "java/lang/IllegalStateException") (by decide +kernel)) (va_Nw.use rfl (hTK.2.1 "java/lang/IllegalStateException" (by decide))) hce hcv hcl ?_
  refine lv_astore (lv' := [(4, .ref q9), (0, .ref xo), (1, .int (nI a)), (2, .int (nI b)), (3, .ref ou)]) hx hb dL_addEdge_17 hl (by decide) rfl (fun ls hl => ?_)
  refine lv_iconst (v := (nI 2)) hx hb dL_addEdge_19 (by decide) ?_
  exact W.iret (v := (nI 2)) hx hb hr (fun t ht hW => ⟨⟨_, (), rfl, rfl, by rw [ht]; exact hP, hD⟩, hS.F ht⟩) hS.2.2 dL_addEdge_20

set_option maxHeartbeats 4000000 in
set_option maxRecDepth 100000 in
theorem h_entryHub_3 (l : Launch) (hlt : l.stackTraces = false) (dG : va_G) (cI cJ : ClassId) (A : Nat → Prop) (xo tl ts : Nat) (bt : Bool) (se : Nat) (g gA n ec : Nat) (ns : Nat → Int64) (lb aR aV aH aD aP : Nat) (rk vb : Nat → Int32) (rc : Int32) (hs : Nat → Int64) (D Pp : Nat → Int32) (hn : n ≤ 48) (ou : Nat) (of : Nat → Int64) (L P : Nat → Nat → Option Nat) (hR : RepL L P hs D Pp) (u : Nat) (hu : u < n) (hbt : bt = true) (hc : lct L u < 2 ^ 31) (z : Int32) (hz : z < 0 ∨ nI (lct L u) ≤ z) (X : va_W) : Met l yL_entryHub wsL_entryHub ({ frames := 8, cells := 1, slots := 6, locals := 134 } : Room) (XPc dG cI cJ [.ref xo, .int (nI u), .int z, .ref ou] (XW xo g lb se tl ts (bI bt) ++ (GW cJ g gA (nI n) (nI ec) ns ++ (LW cI cJ lb aR aV aH aD aP rk vb rc hs D Pp ++ (OW cJ ou of ++ X)))) A) (va_Qi (S := Unit) (fun r _ => r = nI 3) (fun _ => WB dG A (XW xo g lb se tl ts (bI bt) ++ (GW cJ g gA (nI n) (nI ec) ns ++ (LW cI cJ lb aR aV aH aD aP rk vb rc hs D Pp ++ (OW cJ ou of ++ X))))) A) 1 6 A := by
  refine va_MetW (cc := cL_entryHub) (maxL := 5) (ret := (some .int)) (hh := [(0, 10, 13, 25), (0, 10, 17, 13), (0, 10, 21, 19)]) (by decide) rfl ?_
  intro p e s m args below meth c s₁ B9 hml hv
  obtain ⟨rfl, hP, hK, hD, hTK, hTH⟩ := hv
  have hx := B9.exec
  have hb := B9.bytes
  have hr := B9.returns
  have hts := atoms_spec (ws := wsL_entryHub) B9.pre
  have hown : s.vm.findClass RL = some m.cls := findClass_of_methodNamed B9.named
  have hlocks := B9.notSynchronized
  have hS : va_S A s.heap s.heap [] := va_S.rf
  have hl := lv_entry ([.ref xo, .int (nI u), .int z, .ref ou]) (n := 5) (Nat.le_of_ble_eq_true rfl)
  rw [lg_entry_eq]
  generalize (lg_sl ([.ref xo, .int (nI u), .int z, .ref ou]) ++ List.replicate (5 - (lg_sl ([.ref xo, .int (nI u), .int z, .ref ou])).length) Slot.unset).toArray = ls at hl ⊢
  have hl : lv_has ls 5 [(0, .ref xo), (1, .int (nI u)), (2, .int z), (3, .ref ou)] := hl
  have htab := vx_table (x := yL_entryHub) B9 (hts (.codeWith yL_entryHub cL_entryHub 5 (some .int) [(0, 10, 13, 25), (0, 10, 17, 13), (0, 10, 21, 19)]) (by decide +kernel))
  refine lv_aload_n hx hb dL_entryHub_0 rfl (lv_at hl 3 rfl) ?_
  refine lv_iconst (v := (nI 0)) hx hb dL_entryHub_1 (by decide) ?_
  refine lv_aload_n hx hb dL_entryHub_2 rfl (lv_at hl 0 rfl) ?_
  refine lv_iload_n hx hb dL_entryHub_3 rfl (lv_at hl 1 rfl) ?_
  refine lv_iload_n hx hb dL_entryHub_4 rfl (lv_at hl 2 rfl) ?_
  refine vx_calli (vx_runV (As := [.int (nI u), .int z]) (rest := [.int (nI 0), .ref ou]) ⟨hx, hb, hml, hown, hts⟩ (x_entryHub3 l hlt dG cI cJ A xo tl ts bt se g gA n ec ns lb aR aV aH aD aP rk vb rc hs D Pp hn L P hR u hu hbt hc z hz _) (cwV 2 hts gL_entryHub_X3_entryHub rfl rfl rfl (by decide +kernel) ⟨Nat.le_of_ble_eq_true rfl, Nat.le_of_ble_eq_true rfl⟩) (XPc.pre hP hD hK hTK hTH (va_recv hK.1 hP (ci := 3) (q0 := 0) rfl rfl)) rfl rfl hl.1 rfl (lv_room (Nat.le_of_ble_eq_true rfl)) dL_entryHub_5 ⟨Nat.le_of_ble_eq_true rfl, Nat.le_of_ble_eq_true rfl⟩) hS (fun q _ h => h) (fun q h => h) (fun q _ h => h.elim) (fun E ce q9 u9 t H locs ht hvm _ hB hz1 hk1 hS hce hcv hcl => ?_) (fun _r9 u9 t H1 locs1 ht hvm hf _ _ _ _ => hf.elim)
  obtain ⟨hE, hP⟩ := hB
  have hE : E = "java/lang/IllegalArgumentException" := hE
  subst hE
  rw [ht] at hP
  refine vx_catch (own := RL) (name := "java/lang/IllegalArgumentException") (pc := 5) hown [⟨0, 10, 13, 25⟩, ⟨0, 10, 17, 13⟩] ⟨0, 10, 21, 19⟩ [] (htab.trans rfl) (List.forall_mem_cons.mpr ⟨Or.inr ⟨by decide, "java/lang/IndexOutOfBoundsException", hts (.classLink RL 25 "java/lang/IndexOutOfBoundsException") (by decide +kernel), hTK.2.2.1 "java/lang/IllegalArgumentException" (by decide) "java/lang/IndexOutOfBoundsException" (by decide) (by decide)⟩, List.forall_mem_cons.mpr ⟨Or.inr ⟨by decide, "java/lang/IllegalStateException", hts (.classLink RL 13 "java/lang/IllegalStateException") (by decide +kernel), hTK.2.2.1 "java/lang/IllegalArgumentException" (by decide) "java/lang/IllegalStateException" (by decide) (by decide)⟩, fun z h => nomatch h⟩⟩) (by decide) (by decide) (hts (.classLink RL 19 "java/lang/IllegalArgumentException") (by decide +kernel)) (va_Nw.use rfl (hTK.2.1 "java/lang/IllegalArgumentException" (by decide))) hce hcv hcl ?_
  refine lv_astore (lv' := [(4, .ref q9), (0, .ref xo), (1, .int (nI u)), (2, .int z), (3, .ref ou)]) hx hb dL_entryHub_21 hl (by decide) rfl (fun ls hl => ?_)
  refine lv_iconst (v := (nI 3)) hx hb dL_entryHub_23 (by decide) ?_
  exact W.iret (v := (nI 3)) hx hb hr (fun t ht hW => ⟨⟨_, (), rfl, rfl, by rw [ht]; exact hP, hD⟩, hS.F ht⟩) hS.2.2 dL_entryHub_24

set_option maxHeartbeats 4000000 in
set_option maxRecDepth 100000 in
theorem h_entryDistance_3 (l : Launch) (hlt : l.stackTraces = false) (dG : va_G) (cI cJ : ClassId) (A : Nat → Prop) (xo tl ts : Nat) (bt : Bool) (se : Nat) (g gA n ec : Nat) (ns : Nat → Int64) (lb aR aV aH aD aP : Nat) (rk vb : Nat → Int32) (rc : Int32) (hs : Nat → Int64) (D Pp : Nat → Int32) (hn : n ≤ 48) (ou : Nat) (of : Nat → Int64) (L P : Nat → Nat → Option Nat) (hR : RepL L P hs D Pp) (u : Nat) (hu : u < n) (hbt : bt = true) (hc : lct L u < 2 ^ 31) (z : Int32) (hz : z < 0 ∨ nI (lct L u) ≤ z) (X : va_W) : Met l yL_entryDistance wsL_entryDistance ({ frames := 8, cells := 1, slots := 6, locals := 134 } : Room) (XPc dG cI cJ [.ref xo, .int (nI u), .int z, .ref ou] (XW xo g lb se tl ts (bI bt) ++ (GW cJ g gA (nI n) (nI ec) ns ++ (LW cI cJ lb aR aV aH aD aP rk vb rc hs D Pp ++ (OW cJ ou of ++ X)))) A) (va_Qi (S := Unit) (fun r _ => r = nI 3) (fun _ => WB dG A (XW xo g lb se tl ts (bI bt) ++ (GW cJ g gA (nI n) (nI ec) ns ++ (LW cI cJ lb aR aV aH aD aP rk vb rc hs D Pp ++ (OW cJ ou of ++ X))))) A) 1 6 A := by
  refine va_MetW (cc := cL_entryDistance) (maxL := 5) (ret := (some .int)) (hh := [(0, 10, 13, 25), (0, 10, 17, 13), (0, 10, 21, 19)]) (by decide) rfl ?_
  intro p e s m args below meth c s₁ B9 hml hv
  obtain ⟨rfl, hP, hK, hD, hTK, hTH⟩ := hv
  have hx := B9.exec
  have hb := B9.bytes
  have hr := B9.returns
  have hts := atoms_spec (ws := wsL_entryDistance) B9.pre
  have hown : s.vm.findClass RL = some m.cls := findClass_of_methodNamed B9.named
  have hlocks := B9.notSynchronized
  have hS : va_S A s.heap s.heap [] := va_S.rf
  have hl := lv_entry ([.ref xo, .int (nI u), .int z, .ref ou]) (n := 5) (Nat.le_of_ble_eq_true rfl)
  rw [lg_entry_eq]
  generalize (lg_sl ([.ref xo, .int (nI u), .int z, .ref ou]) ++ List.replicate (5 - (lg_sl ([.ref xo, .int (nI u), .int z, .ref ou])).length) Slot.unset).toArray = ls at hl ⊢
  have hl : lv_has ls 5 [(0, .ref xo), (1, .int (nI u)), (2, .int z), (3, .ref ou)] := hl
  have htab := vx_table (x := yL_entryDistance) B9 (hts (.codeWith yL_entryDistance cL_entryDistance 5 (some .int) [(0, 10, 13, 25), (0, 10, 17, 13), (0, 10, 21, 19)]) (by decide +kernel))
  refine lv_aload_n hx hb dL_entryDistance_0 rfl (lv_at hl 3 rfl) ?_
  refine lv_iconst (v := (nI 0)) hx hb dL_entryDistance_1 (by decide) ?_
  refine lv_aload_n hx hb dL_entryDistance_2 rfl (lv_at hl 0 rfl) ?_
  refine lv_iload_n hx hb dL_entryDistance_3 rfl (lv_at hl 1 rfl) ?_
  refine lv_iload_n hx hb dL_entryDistance_4 rfl (lv_at hl 2 rfl) ?_
  refine vx_calli (vx_runV (As := [.int (nI u), .int z]) (rest := [.int (nI 0), .ref ou]) ⟨hx, hb, hml, hown, hts⟩ (x_entryDistance3 l hlt dG cI cJ A xo tl ts bt se g gA n ec ns lb aR aV aH aD aP rk vb rc hs D Pp hn L P hR u hu hbt hc z hz _) (cwV 2 hts gL_entryDistance_X3_entryDistance rfl rfl rfl (by decide +kernel) ⟨Nat.le_of_ble_eq_true rfl, Nat.le_of_ble_eq_true rfl⟩) (XPc.pre hP hD hK hTK hTH (va_recv hK.1 hP (ci := 3) (q0 := 0) rfl rfl)) rfl rfl hl.1 rfl (lv_room (Nat.le_of_ble_eq_true rfl)) dL_entryDistance_5 ⟨Nat.le_of_ble_eq_true rfl, Nat.le_of_ble_eq_true rfl⟩) hS (fun q _ h => h) (fun q h => h) (fun q _ h => h.elim) (fun E ce q9 u9 t H locs ht hvm _ hB hz1 hk1 hS hce hcv hcl => ?_) (fun _r9 u9 t H1 locs1 ht hvm hf _ _ _ _ => hf.elim)
  obtain ⟨hE, hP⟩ := hB
  have hE : E = "java/lang/IllegalArgumentException" := hE
  subst hE
  rw [ht] at hP
  refine vx_catch (own := RL) (name := "java/lang/IllegalArgumentException") (pc := 5) hown [⟨0, 10, 13, 25⟩, ⟨0, 10, 17, 13⟩] ⟨0, 10, 21, 19⟩ [] (htab.trans rfl) (List.forall_mem_cons.mpr ⟨Or.inr ⟨by decide, "java/lang/IndexOutOfBoundsException", hts (.classLink RL 25 "java/lang/IndexOutOfBoundsException") (by decide +kernel), hTK.2.2.1 "java/lang/IllegalArgumentException" (by decide) "java/lang/IndexOutOfBoundsException" (by decide) (by decide)⟩, List.forall_mem_cons.mpr ⟨Or.inr ⟨by decide, "java/lang/IllegalStateException", hts (.classLink RL 13 "java/lang/IllegalStateException") (by decide +kernel), hTK.2.2.1 "java/lang/IllegalArgumentException" (by decide) "java/lang/IllegalStateException" (by decide) (by decide)⟩, fun z h => nomatch h⟩⟩) (by decide) (by decide) (hts (.classLink RL 19 "java/lang/IllegalArgumentException") (by decide +kernel)) (va_Nw.use rfl (hTK.2.1 "java/lang/IllegalArgumentException" (by decide))) hce hcv hcl ?_
  refine lv_astore (lv' := [(4, .ref q9), (0, .ref xo), (1, .int (nI u)), (2, .int z), (3, .ref ou)]) hx hb dL_entryDistance_21 hl (by decide) rfl (fun ls hl => ?_)
  refine lv_iconst (v := (nI 3)) hx hb dL_entryDistance_23 (by decide) ?_
  exact W.iret (v := (nI 3)) hx hb hr (fun t ht hW => ⟨⟨_, (), rfl, rfl, by rw [ht]; exact hP, hD⟩, hS.F ht⟩) hS.2.2 dL_entryDistance_24

set_option maxHeartbeats 4000000 in
set_option maxRecDepth 100000 in
theorem h_entryParent_3 (l : Launch) (hlt : l.stackTraces = false) (dG : va_G) (cI cJ : ClassId) (A : Nat → Prop) (xo tl ts : Nat) (bt : Bool) (se : Nat) (g gA n ec : Nat) (ns : Nat → Int64) (lb aR aV aH aD aP : Nat) (rk vb : Nat → Int32) (rc : Int32) (hs : Nat → Int64) (D Pp : Nat → Int32) (hn : n ≤ 48) (ou : Nat) (of : Nat → Int64) (L P : Nat → Nat → Option Nat) (hR : RepL L P hs D Pp) (u : Nat) (hu : u < n) (hbt : bt = true) (hc : lct L u < 2 ^ 31) (z : Int32) (hz : z < 0 ∨ nI (lct L u) ≤ z) (X : va_W) : Met l yL_entryParent wsL_entryParent ({ frames := 8, cells := 1, slots := 6, locals := 134 } : Room) (XPc dG cI cJ [.ref xo, .int (nI u), .int z, .ref ou] (XW xo g lb se tl ts (bI bt) ++ (GW cJ g gA (nI n) (nI ec) ns ++ (LW cI cJ lb aR aV aH aD aP rk vb rc hs D Pp ++ (OW cJ ou of ++ X)))) A) (va_Qi (S := Unit) (fun r _ => r = nI 3) (fun _ => WB dG A (XW xo g lb se tl ts (bI bt) ++ (GW cJ g gA (nI n) (nI ec) ns ++ (LW cI cJ lb aR aV aH aD aP rk vb rc hs D Pp ++ (OW cJ ou of ++ X))))) A) 1 6 A := by
  refine va_MetW (cc := cL_entryParent) (maxL := 5) (ret := (some .int)) (hh := [(0, 10, 13, 25), (0, 10, 17, 13), (0, 10, 21, 19)]) (by decide) rfl ?_
  intro p e s m args below meth c s₁ B9 hml hv
  obtain ⟨rfl, hP, hK, hD, hTK, hTH⟩ := hv
  have hx := B9.exec
  have hb := B9.bytes
  have hr := B9.returns
  have hts := atoms_spec (ws := wsL_entryParent) B9.pre
  have hown : s.vm.findClass RL = some m.cls := findClass_of_methodNamed B9.named
  have hlocks := B9.notSynchronized
  have hS : va_S A s.heap s.heap [] := va_S.rf
  have hl := lv_entry ([.ref xo, .int (nI u), .int z, .ref ou]) (n := 5) (Nat.le_of_ble_eq_true rfl)
  rw [lg_entry_eq]
  generalize (lg_sl ([.ref xo, .int (nI u), .int z, .ref ou]) ++ List.replicate (5 - (lg_sl ([.ref xo, .int (nI u), .int z, .ref ou])).length) Slot.unset).toArray = ls at hl ⊢
  have hl : lv_has ls 5 [(0, .ref xo), (1, .int (nI u)), (2, .int z), (3, .ref ou)] := hl
  have htab := vx_table (x := yL_entryParent) B9 (hts (.codeWith yL_entryParent cL_entryParent 5 (some .int) [(0, 10, 13, 25), (0, 10, 17, 13), (0, 10, 21, 19)]) (by decide +kernel))
  refine lv_aload_n hx hb dL_entryParent_0 rfl (lv_at hl 3 rfl) ?_
  refine lv_iconst (v := (nI 0)) hx hb dL_entryParent_1 (by decide) ?_
  refine lv_aload_n hx hb dL_entryParent_2 rfl (lv_at hl 0 rfl) ?_
  refine lv_iload_n hx hb dL_entryParent_3 rfl (lv_at hl 1 rfl) ?_
  refine lv_iload_n hx hb dL_entryParent_4 rfl (lv_at hl 2 rfl) ?_
  refine vx_calli (vx_runV (As := [.int (nI u), .int z]) (rest := [.int (nI 0), .ref ou]) ⟨hx, hb, hml, hown, hts⟩ (x_entryParent3 l hlt dG cI cJ A xo tl ts bt se g gA n ec ns lb aR aV aH aD aP rk vb rc hs D Pp hn L P hR u hu hbt hc z hz _) (cwV 2 hts gL_entryParent_X3_entryParent rfl rfl rfl (by decide +kernel) ⟨Nat.le_of_ble_eq_true rfl, Nat.le_of_ble_eq_true rfl⟩) (XPc.pre hP hD hK hTK hTH (va_recv hK.1 hP (ci := 3) (q0 := 0) rfl rfl)) rfl rfl hl.1 rfl (lv_room (Nat.le_of_ble_eq_true rfl)) dL_entryParent_5 ⟨Nat.le_of_ble_eq_true rfl, Nat.le_of_ble_eq_true rfl⟩) hS (fun q _ h => h) (fun q h => h) (fun q _ h => h.elim) (fun E ce q9 u9 t H locs ht hvm _ hB hz1 hk1 hS hce hcv hcl => ?_) (fun _r9 u9 t H1 locs1 ht hvm hf _ _ _ _ => hf.elim)
  obtain ⟨hE, hP⟩ := hB
  have hE : E = "java/lang/IllegalArgumentException" := hE
  subst hE
  rw [ht] at hP
  refine vx_catch (own := RL) (name := "java/lang/IllegalArgumentException") (pc := 5) hown [⟨0, 10, 13, 25⟩, ⟨0, 10, 17, 13⟩] ⟨0, 10, 21, 19⟩ [] (htab.trans rfl) (List.forall_mem_cons.mpr ⟨Or.inr ⟨by decide, "java/lang/IndexOutOfBoundsException", hts (.classLink RL 25 "java/lang/IndexOutOfBoundsException") (by decide +kernel), hTK.2.2.1 "java/lang/IllegalArgumentException" (by decide) "java/lang/IndexOutOfBoundsException" (by decide) (by decide)⟩, List.forall_mem_cons.mpr ⟨Or.inr ⟨by decide, "java/lang/IllegalStateException", hts (.classLink RL 13 "java/lang/IllegalStateException") (by decide +kernel), hTK.2.2.1 "java/lang/IllegalArgumentException" (by decide) "java/lang/IllegalStateException" (by decide) (by decide)⟩, fun z h => nomatch h⟩⟩) (by decide) (by decide) (hts (.classLink RL 19 "java/lang/IllegalArgumentException") (by decide +kernel)) (va_Nw.use rfl (hTK.2.1 "java/lang/IllegalArgumentException" (by decide))) hce hcv hcl ?_
  refine lv_astore (lv' := [(4, .ref q9), (0, .ref xo), (1, .int (nI u)), (2, .int z), (3, .ref ou)]) hx hb dL_entryParent_21 hl (by decide) rfl (fun ls hl => ?_)
  refine lv_iconst (v := (nI 3)) hx hb dL_entryParent_23 (by decide) ?_
  exact W.iret (v := (nI 3)) hx hb hr (fun t ht hW => ⟨⟨_, (), rfl, rfl, by rw [ht]; exact hP, hD⟩, hS.F ht⟩) hS.2.2 dL_entryParent_24

set_option maxHeartbeats 4000000 in
set_option maxRecDepth 100000 in
theorem h_pathVertex_3 (l : Launch) (hlt : l.stackTraces = false) (dG : va_G) (cI cJ : ClassId) (A : Nat → Prop) (xo tl ts : Nat) (bt : Bool) (se : Nat) (g gA n ec : Nat) (ns : Nat → Int64) (lb aR aV aH aD aP : Nat) (rk vb : Nat → Int32) (rc : Int32) (hs : Nat → Int64) (D Pp : Nat → Int32) (hn : n ≤ 48) (ou : Nat) (of : Nat → Int64) (u v : Nat) (hu : u < n) (hv : v < n) (hbt : bt = true) (z : Int32) (hz : z < 0) (X : va_W) : Met l yL_pathVertex wsL_pathVertex ({ frames := 7, cells := 1, slots := 6, locals := 113 } : Room) (XPc dG cI cJ [.ref xo, .int (nI u), .int (nI v), .int z, .ref ou] (XW xo g lb se tl ts (bI bt) ++ (GW cJ g gA (nI n) (nI ec) ns ++ (LW cI cJ lb aR aV aH aD aP rk vb rc hs D Pp ++ (OW cJ ou of ++ X)))) A) (va_Qi (S := Unit) (fun r _ => r = nI 3) (fun _ => WB dG A (XW xo g lb se tl ts (bI bt) ++ (GW cJ g gA (nI n) (nI ec) ns ++ (LW cI cJ lb aR aV aH aD aP rk vb rc hs D Pp ++ (OW cJ ou of ++ X))))) A) 1 6 A := by
  refine va_MetW (cc := cL_pathVertex) (maxL := 6) (ret := (some .int)) (hh := [(0, 12, 15, 25), (0, 12, 19, 13), (0, 12, 23, 19)]) (by decide) rfl ?_
  intro p e s m args below meth c s₁ B9 hml hv
  obtain ⟨rfl, hP, hK, hD, hTK, hTH⟩ := hv
  have hx := B9.exec
  have hb := B9.bytes
  have hr := B9.returns
  have hts := atoms_spec (ws := wsL_pathVertex) B9.pre
  have hown : s.vm.findClass RL = some m.cls := findClass_of_methodNamed B9.named
  have hlocks := B9.notSynchronized
  have hS : va_S A s.heap s.heap [] := va_S.rf
  have hl := lv_entry ([.ref xo, .int (nI u), .int (nI v), .int z, .ref ou]) (n := 6) (Nat.le_of_ble_eq_true rfl)
  rw [lg_entry_eq]
  generalize (lg_sl ([.ref xo, .int (nI u), .int (nI v), .int z, .ref ou]) ++ List.replicate (6 - (lg_sl ([.ref xo, .int (nI u), .int (nI v), .int z, .ref ou])).length) Slot.unset).toArray = ls at hl ⊢
  have hl : lv_has ls 6 [(0, .ref xo), (1, .int (nI u)), (2, .int (nI v)), (3, .int z), (4, .ref ou)] := hl
  have htab := vx_table (x := yL_pathVertex) B9 (hts (.codeWith yL_pathVertex cL_pathVertex 6 (some .int) [(0, 12, 15, 25), (0, 12, 19, 13), (0, 12, 23, 19)]) (by decide +kernel))
  refine lv_aload hx hb dL_pathVertex_0 (lv_at hl 4 rfl) ?_
  refine lv_iconst (v := (nI 0)) hx hb dL_pathVertex_2 (by decide) ?_
  refine lv_aload_n hx hb dL_pathVertex_3 rfl (lv_at hl 0 rfl) ?_
  refine lv_iload_n hx hb dL_pathVertex_4 rfl (lv_at hl 1 rfl) ?_
  refine lv_iload_n hx hb dL_pathVertex_5 rfl (lv_at hl 2 rfl) ?_
  refine lv_iload_n hx hb dL_pathVertex_6 rfl (lv_at hl 3 rfl) ?_
  refine vx_calli (vx_runV (As := [.int (nI u), .int (nI v), .int z]) (rest := [.int (nI 0), .ref ou]) ⟨hx, hb, hml, hown, hts⟩ (x_pathVertex3 l hlt dG cI cJ A xo tl ts bt se g gA n ec ns lb aR aV aH aD aP rk vb rc hs D Pp hn u v hu hv hbt z hz _) (cwV 3 hts gL_pathVertex_X3_pathVertex rfl rfl rfl (by decide +kernel) ⟨Nat.le_of_ble_eq_true rfl, Nat.le_of_ble_eq_true rfl⟩) (XPc.pre hP hD hK hTK hTH (va_recv hK.1 hP (ci := 3) (q0 := 0) rfl rfl)) rfl rfl hl.1 rfl (lv_room (Nat.le_of_ble_eq_true rfl)) dL_pathVertex_7 ⟨Nat.le_of_ble_eq_true rfl, Nat.le_of_ble_eq_true rfl⟩) hS (fun q _ h => h) (fun q h => h) (fun q _ h => h.elim) (fun E ce q9 u9 t H locs ht hvm _ hB hz1 hk1 hS hce hcv hcl => ?_) (fun _r9 u9 t H1 locs1 ht hvm hf _ _ _ _ => hf.elim)
  obtain ⟨hE, hP⟩ := hB
  have hE : E = "java/lang/IllegalArgumentException" := hE
  subst hE
  rw [ht] at hP
  refine vx_catch (own := RL) (name := "java/lang/IllegalArgumentException") (pc := 7) hown [⟨0, 12, 15, 25⟩, ⟨0, 12, 19, 13⟩] ⟨0, 12, 23, 19⟩ [] (htab.trans rfl) (List.forall_mem_cons.mpr ⟨Or.inr ⟨by decide, "java/lang/IndexOutOfBoundsException", hts (.classLink RL 25 "java/lang/IndexOutOfBoundsException") (by decide +kernel), hTK.2.2.1 "java/lang/IllegalArgumentException" (by decide) "java/lang/IndexOutOfBoundsException" (by decide) (by decide)⟩, List.forall_mem_cons.mpr ⟨Or.inr ⟨by decide, "java/lang/IllegalStateException", hts (.classLink RL 13 "java/lang/IllegalStateException") (by decide +kernel), hTK.2.2.1 "java/lang/IllegalArgumentException" (by decide) "java/lang/IllegalStateException" (by decide) (by decide)⟩, fun z h => nomatch h⟩⟩) (by decide) (by decide) (hts (.classLink RL 19 "java/lang/IllegalArgumentException") (by decide +kernel)) (va_Nw.use rfl (hTK.2.1 "java/lang/IllegalArgumentException" (by decide))) hce hcv hcl ?_
  refine lv_astore (lv' := [(5, .ref q9), (0, .ref xo), (1, .int (nI u)), (2, .int (nI v)), (3, .int z), (4, .ref ou)]) hx hb dL_pathVertex_23 hl (by decide) rfl (fun ls hl => ?_)
  refine lv_iconst (v := (nI 3)) hx hb dL_pathVertex_25 (by decide) ?_
  exact W.iret (v := (nI 3)) hx hb hr (fun t ht hW => ⟨⟨_, (), rfl, rfl, by rw [ht]; exact hP, hD⟩, hS.F ht⟩) hS.2.2 dL_pathVertex_26

set_option maxHeartbeats 4000000 in
set_option maxRecDepth 100000 in
theorem h_within_3 (l : Launch) (hlt : l.stackTraces = false) (dG : va_G) (cI cJ : ClassId) (A : Nat → Prop) (xo tl ts : Nat) (bt : Bool) (se : Nat) (g gA n ec : Nat) (ns : Nat → Int64) (lb aR aV aH aD aP : Nat) (rk vb : Nat → Int32) (rc : Int32) (hs : Nat → Int64) (D Pp : Nat → Int32) (hn : n ≤ 48) (ou : Nat) (of : Nat → Int64) (u : Nat) (hu : u < n) (hbt : bt = true) (z : Int32) (hz : z < 0 ∨ nI 48 ≤ z) (X : va_W) : Met l yL_within wsL_within ({ frames := 7, cells := 1, slots := 6, locals := 116 } : Room) (XPc dG cI cJ [.ref xo, .int (nI u), .int z, .ref ou] (XW xo g lb se tl ts (bI bt) ++ (GW cJ g gA (nI n) (nI ec) ns ++ (LW cI cJ lb aR aV aH aD aP rk vb rc hs D Pp ++ (OW cJ ou of ++ X)))) A) (va_Qi (S := Unit) (fun r _ => r = nI 3) (fun _ => WB dG A (XW xo g lb se tl ts (bI bt) ++ (GW cJ g gA (nI n) (nI ec) ns ++ (LW cI cJ lb aR aV aH aD aP rk vb rc hs D Pp ++ (OW cJ ou of ++ X))))) A) 1 6 A := by
  refine va_MetW (cc := cL_within) (maxL := 5) (ret := (some .int)) (hh := [(0, 9, 12, 25), (0, 9, 16, 13), (0, 9, 20, 19)]) (by decide) rfl ?_
  intro p e s m args below meth c s₁ B9 hml hv
  obtain ⟨rfl, hP, hK, hD, hTK, hTH⟩ := hv
  have hx := B9.exec
  have hb := B9.bytes
  have hr := B9.returns
  have hts := atoms_spec (ws := wsL_within) B9.pre
  have hown : s.vm.findClass RL = some m.cls := findClass_of_methodNamed B9.named
  have hlocks := B9.notSynchronized
  have hS : va_S A s.heap s.heap [] := va_S.rf
  have hl := lv_entry ([.ref xo, .int (nI u), .int z, .ref ou]) (n := 5) (Nat.le_of_ble_eq_true rfl)
  rw [lg_entry_eq]
  generalize (lg_sl ([.ref xo, .int (nI u), .int z, .ref ou]) ++ List.replicate (5 - (lg_sl ([.ref xo, .int (nI u), .int z, .ref ou])).length) Slot.unset).toArray = ls at hl ⊢
  have hl : lv_has ls 5 [(0, .ref xo), (1, .int (nI u)), (2, .int z), (3, .ref ou)] := hl
  have htab := vx_table (x := yL_within) B9 (hts (.codeWith yL_within cL_within 5 (some .int) [(0, 9, 12, 25), (0, 9, 16, 13), (0, 9, 20, 19)]) (by decide +kernel))
  refine lv_aload_n hx hb dL_within_0 rfl (lv_at hl 3 rfl) ?_
  refine lv_iconst (v := (nI 0)) hx hb dL_within_1 (by decide) ?_
  refine lv_aload_n hx hb dL_within_2 rfl (lv_at hl 0 rfl) ?_
  refine lv_iload_n hx hb dL_within_3 rfl (lv_at hl 1 rfl) ?_
  refine lv_iload_n hx hb dL_within_4 rfl (lv_at hl 2 rfl) ?_
  refine vx_calll (vx_runV (As := [.int (nI u), .int z]) (rest := [.int (nI 0), .ref ou]) ⟨hx, hb, hml, hown, hts⟩ (x_within3 l hlt dG cI cJ A xo tl ts bt se g gA n ec ns lb aR aV aH aD aP rk vb rc hs D Pp hn u hu hbt z hz _) (cwV 2 hts gL_within_X3_within rfl rfl rfl (by decide +kernel) ⟨Nat.le_of_ble_eq_true rfl, Nat.le_of_ble_eq_true rfl⟩) (XPc.pre hP hD hK hTK hTH (va_recv hK.1 hP (ci := 3) (q0 := 0) rfl rfl)) rfl rfl hl.1 rfl (lv_room (Nat.le_of_ble_eq_true rfl)) dL_within_5 ⟨Nat.le_of_ble_eq_true rfl, Nat.le_of_ble_eq_true rfl⟩) hS (fun q _ h => h) (fun q h => h) (fun q _ h => h.elim) (fun E ce q9 u9 t H locs ht hvm _ hB hz1 hk1 hS hce hcv hcl => ?_) (fun _r9 u9 t H1 locs1 ht hvm hf _ _ _ _ => hf.elim)
  obtain ⟨hE, hP⟩ := hB
  have hE : E = "java/lang/IllegalArgumentException" := hE
  subst hE
  rw [ht] at hP
  refine vx_catch (own := RL) (name := "java/lang/IllegalArgumentException") (pc := 5) hown [⟨0, 9, 12, 25⟩, ⟨0, 9, 16, 13⟩] ⟨0, 9, 20, 19⟩ [] (htab.trans rfl) (List.forall_mem_cons.mpr ⟨Or.inr ⟨by decide, "java/lang/IndexOutOfBoundsException", hts (.classLink RL 25 "java/lang/IndexOutOfBoundsException") (by decide +kernel), hTK.2.2.1 "java/lang/IllegalArgumentException" (by decide) "java/lang/IndexOutOfBoundsException" (by decide) (by decide)⟩, List.forall_mem_cons.mpr ⟨Or.inr ⟨by decide, "java/lang/IllegalStateException", hts (.classLink RL 13 "java/lang/IllegalStateException") (by decide +kernel), hTK.2.2.1 "java/lang/IllegalArgumentException" (by decide) "java/lang/IllegalStateException" (by decide) (by decide)⟩, fun z h => nomatch h⟩⟩) (by decide) (by decide) (hts (.classLink RL 19 "java/lang/IllegalArgumentException") (by decide +kernel)) (va_Nw.use rfl (hTK.2.1 "java/lang/IllegalArgumentException" (by decide))) hce hcv hcl ?_
  refine lv_astore (lv' := [(4, .ref q9), (0, .ref xo), (1, .int (nI u)), (2, .int z), (3, .ref ou)]) hx hb dL_within_20 hl (by decide) rfl (fun ls hl => ?_)
  refine lv_iconst (v := (nI 3)) hx hb dL_within_22 (by decide) ?_
  exact W.iret (v := (nI 3)) hx hb hr (fun t ht hW => ⟨⟨_, (), rfl, rfl, by rw [ht]; exact hP, hD⟩, hS.F ht⟩) hS.2.2 dL_within_23
