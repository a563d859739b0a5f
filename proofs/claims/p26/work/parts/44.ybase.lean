/-! starts and ends that tell how many cells there are at least -/
theorem lg_self (x : Int64) : lg_cmp x x = nI 0 := by
  unfold lg_cmp
  simp [Int64.lt_irrefl]
  rfl
abbrev YPc (dG : va_G) (cI cJ : ClassId) (av : List Value) (Wd : va_W) (A : Nat → Prop) (N : Nat) : Array Value → State → Prop := va_Pc av (fun U => va_P dG vwCl Wd U.heap ∧ KK dG cI cJ U ∧ va_D A Wd ∧ TK U ∧ TH A U U.heap ∧ N ≤ U.heap.size)
theorem YPc.blind {dG : va_G} {cI cJ : ClassId} {av : List Value} {Wd : va_W} {A : Nat → Prop} {N : Nat} : FrameBlind (YPc dG cI cJ av Wd A N) := fun _ _ _ _ q => ⟨q.1, q.2.1, q.2.2.1.call, q.2.2.2.1, q.2.2.2.2.1.call, TH.moved (Vm.Alike.refl _) q.2.2.2.2.2.1, q.2.2.2.2.2.2⟩
theorem YPc.preS {dG : va_G} {cI cJ : ClassId} {As : List Value} {Wd : va_W} {s : State} {H : Heap} {A : Nat → Prop} {N : Nat} (hP : va_P dG vwCl Wd H) (hD : va_D A Wd) (hK : KK dG cI cJ s) (hTK : TK s) (hTH : TH A s H) (hN : N ≤ H.size) : PreS s H (YPc dG cI cJ As Wd A N) As :=
  ⟨YPc.blind, fun U hU hW => ⟨rfl, by rw [hU]; exact hP, hK.warm hW, hD, hTK.warm hW, by rw [hU]; exact hTH.moved hW.alike, by rw [hU]; exact hN⟩⟩
abbrev YB (dG : va_G) (A : Nat → Prop) (Wd : va_W) (N : Nat) (t : State) : Prop := va_P dG vwCl Wd t.heap ∧ va_D A Wd ∧ N ≤ t.heap.size
/-- the law's number of the graph, of n vertices without edges -/
def gphR (h : Int64) : Nat → Int64
  | 0 => h
  | k + 1 => 1000003 * gphR h k + 0
def gph0 (n : Nat) (pr wr : Int32) : Int64 := 31 * (nI n).toInt64 + 7 * (nI 0).toInt64 + 0 + 101 * pr.toInt64 + 10007 * wr.toInt64
def gph (n : Nat) (pr wr : Int32) : Int64 := gphR (gph0 n pr wr) n
