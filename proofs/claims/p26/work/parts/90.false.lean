/-! THE CLAIM IS FALSE: the start that the Statement's witness has, with the script 64, 63, 63, .. in place of its own, meets every premise; there the law ends with 162 cells more at least, where the claim says 161 at most -/
def xs9 : List Int32 := nI 64 :: List.replicate 69 (nI 63)
def scr9 : Array Value := ⟨xs9.map Value.int⟩
def st9 : State := start1.aboutOf scr9
set_option maxRecDepth 16384 in
theorem w9_0 : (tables_1.take 150).all (fun c => vx_ot c || c.before start1.args0 st9) = true := by decide +kernel
set_option maxRecDepth 16384 in
theorem w9_1 : ((tables_1.drop 150).take 150).all (fun c => vx_ot c || c.before start1.args0 st9) = true := by decide +kernel
set_option maxRecDepth 16384 in
theorem w9_2 : (((tables_1.drop 150).drop 150).take 150).all (fun c => vx_ot c || c.before start1.args0 st9) = true := by decide +kernel
set_option maxRecDepth 16384 in
theorem w9_3 : (((tables_1.drop 150).drop 150).drop 150).all (fun c => vx_ot c || c.before start1.args0 st9) = true := by decide +kernel
theorem w9_all : tables_1.all (fun c => vx_ot c || c.before start1.args0 st9) = true := start1.su_all_split _ 150 tables_1 w9_0 (start1.su_all_split _ 150 (tables_1.drop 150) w9_1 (start1.su_all_split _ 150 ((tables_1.drop 150).drop 150) w9_2 w9_3))
theorem w9_move {w : Cond} (hg : vx_ot w = true) (h : w.before start1.args0 start1.about = true) : w.before start1.args0 st9 = true :=
  vx_ot_at (s := start1.about) (U := st9) (State.WarmedH.refl start1.about) rfl hg h
theorem w9_words : ∀ c ∈ (Cond.code x code maxLocals ret :: tables_1), c.before start1.args0 st9 = true := by
  intro c hc
  cases hg : vx_ot c with
  | true => exact w9_move hg (start1.words c hc)
  | false =>
    rcases List.mem_cons.mp hc with h | h
    · rw [h] at hg; cases hg
    · have h1 := List.all_eq_true.mp w9_all c h
      rw [hg] at h1
      simpa using h1
set_option maxRecDepth 16384 in
theorem w9_applies (R : Room) (hR : st9.hasRoom start1.e0.platform R = true) : (headSpec (Cond.code x code maxLocals ret :: tables_1) R).applies x start1.e0.platform st9 = true :=
  (Spec.applies_iff rfl).mpr ⟨rfl, rfl, rfl, by decide +kernel, by decide +kernel, by decide +kernel, hR, atoms_intro w9_words⟩
set_option maxRecDepth 16384 in
theorem w9_room : st9.hasRoom start1.e0.platform room_1 = true := launch0.hasRoom_least _ room_1 (by decide +kernel) (by decide +kernel) (by decide +kernel) (by decide +kernel) (by decide +kernel) (by decide +kernel)
set_option maxRecDepth 16384 in
theorem w9_big : st9.hasRoom start1.e0.platform Rb = true := launch0.hasRoom_least _ Rb (by decide +kernel) (by decide +kernel) (by decide +kernel) (by decide +kernel) (by decide +kernel) (by decide +kernel)
set_option maxRecDepth 16384 in
theorem w9_rest : rest_1_c.before start1.args0 st9 = true := by decide +kernel
set_option maxRecDepth 16384 in
theorem w9_pre : (Cond.and given_1 narrow_1).before start1.args0 st9 = true := by decide +kernel
set_option maxRecDepth 16384 in
theorem w9_fit : argsFit st9.vm ⟨0, 0⟩ start1.args0 = true ∧ heapFits st9 = true := ⟨by decide +kernel, by decide +kernel⟩
theorem w9_63 : ∀ k, k < 70 → 1 ≤ k → xs9.getD k 0 = nI 63 := by decide +kernel
theorem w9_script : lz_P 0 xs9 start1.args0 st9 := by
  have hs := flat_of_before _ w9_pre
  have hq := flat_of_before _ w9_rest
  have harr : (Cond.arrayOf (.arg 0) .int).before start1.args0 st9 = true := hs _ (by decide +kernel)
  have hlen : (Cond.isInt (.length (.arg 0))).before start1.args0 st9 = true := hq _ (by decide +kernel)
  have hall : (Cond.all (.arg 0) (.isInt (.elem (.arg 0) (.index 0)))).before start1.args0 st9 = true := hq _ (by decide +kernel)
  obtain ⟨b, xs, hb, hx⟩ := State.ints_of_pre rfl harr hlen hall
  have hb0 : (Term.arg 0).eval start1.args0 st9 none [] st9 = some (.ref 0) := rfl
  cases Option.some.inj (hb.symm.trans hb0)
  have h9 : xs = xs9 := by
    obtain ⟨cell, hc, hl, -, -⟩ := hx
    have hc9 : st9.arrayAt? 0 = some { cls := 16, slots := scr9, vm := .none } := rfl
    cases Option.some.inj (hc.symm.trans hc9)
    have h1 : xs9.map Value.int = xs.map Value.int := hl
    exact ((List.map_inj_right (fun a b h => Value.int.inj h)).mp h1).symm
  subst h9
  exact ⟨rfl, hx, by decide +kernel, by decide +kernel, fun k h1 h2 => w9_63 k h2 h1, w9_pre⟩
/-- THE FIRST OF THE TWO OWED HALVES IS FALSE -/
theorem p26_false_1 : ¬ Claimed_1_1 := by
  intro h
  obtain ⟨n, o, h1, h2, h3, -, -, -, hsame⟩ := h launch0 rfl lists_1 trivial start1.p0 start1.e0 (launch0.admits_env _ _ _) fairChoices_fair.cas fairChoices_fair.clock st9 ⟨0, 0⟩ start1.args0 Lib.HandBits.below0 rfl w9_fit.1 w9_fit.2 (w9_applies room_1 w9_room) ⟨trivial, w9_rest, w9_pre⟩
  obtain ⟨n', o', g1, g2, g3, g4⟩ := lz_walk launch0 rfl 0 xs9 start1.p0 start1.e0 (launch0.admits_env _ _ _) fairChoices_fair.cas fairChoices_fair.clock st9 ⟨0, 0⟩ start1.args0 Lib.HandBits.below0 rfl ((Spec.applies_iff_loose rfl).mp (w9_applies Rb w9_big)).1 w9_script trivial
  obtain ⟨rfl, rfl⟩ := the_end_unique (f := fun k => stepsAlone start1.p0.tables start1.e0 k st9) h1 h3 g1 g3
  have h5 := hsame.2.2.1
  have h6 : st9.heap.size + 162 ≤ (stepsAlone start1.p0.tables start1.e0 n st9).heap.size := g4
  have h7 : (stepsAlone start1.p0.tables start1.e0 n st9).heap.size ≤ st9.heap.size + 161 := h5
  omega
/-- THE SECOND TOO -/
theorem p26_false_2 : ¬ Claimed_1_2 := by
  intro h
  obtain ⟨n, o, h1, h2, h3, -, -, -, hsame⟩ := h launch0 rfl lists_1 trivial start1.p0 start1.e0 (launch0.admits_env _ _ _) fairChoices_fair.cas fairChoices_fair.clock st9 ⟨0, 0⟩ start1.args0 Lib.HandBits.below0 rfl w9_fit.1 w9_fit.2 (w9_applies room_1 w9_room) ⟨trivial, w9_rest, w9_pre⟩
  obtain ⟨n', o', g1, g2, g3, g4⟩ := lz_walk launch0 rfl 0 xs9 start1.p0 start1.e0 (launch0.admits_env _ _ _) fairChoices_fair.cas fairChoices_fair.clock st9 ⟨0, 0⟩ start1.args0 Lib.HandBits.below0 rfl ((Spec.applies_iff_loose rfl).mp (w9_applies Rb w9_big)).1 w9_script trivial
  obtain ⟨rfl, rfl⟩ := the_end_unique (f := fun k => stepsAlone start1.p0.tables start1.e0 k st9) h1 h3 g1 g3
  have h5 := hsame.2.2.1
  have h6 : st9.heap.size + 162 ≤ (stepsAlone start1.p0.tables start1.e0 n st9).heap.size := g4
  have h7 : (stepsAlone start1.p0.tables start1.e0 n st9).heap.size ≤ st9.heap.size + 161 := h5
  omega
/-- WHAT IS OWED IS FALSE -/
theorem p26_false : ¬ (Claimed_1_1 ∧ Claimed_1_2) := fun h => p26_false_1 h.1
