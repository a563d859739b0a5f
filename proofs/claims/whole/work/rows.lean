section
-- ===== PART A: goes FIRST, ahead of the names: the tables' words, and 'selects' of the private methods out of them =====
/-- a private method of a class that the tables say can be made, by its rows of tables_1 -/
def lw_okq (q : MethodName × Nat) : Prop := (q.1.cls ≠ "java/lang/invoke/MethodHandle" ∧ q.1.cls ≠ "java/lang/invoke/VarHandle") ∧ Cond.instantiable q.1.cls q.2 ∈ tables_1 ∧ Cond.privateMethod q.1 ∈ tables_1 ∧ Cond.instanceMethod q.1 ∈ tables_1
theorem lw_p0 : lw_okq (⟨"LandmarkLea$Searches", "search", "(IIII)V"⟩, 10) := ⟨⟨by decide +kernel, by decide +kernel⟩, List.mem_of_getElem? (i := 66) (by decide +kernel), List.mem_of_getElem? (i := 196) (by decide +kernel), List.mem_of_getElem? (i := 197) (by decide +kernel)⟩
theorem lw_p1 : lw_okq (⟨"LandmarkLea$Searches", "enqueue", "(III)V"⟩, 10) := ⟨⟨by decide +kernel, by decide +kernel⟩, List.mem_of_getElem? (i := 66) (by decide +kernel), List.mem_of_getElem? (i := 200) (by decide +kernel), List.mem_of_getElem? (i := 201) (by decide +kernel)⟩
theorem lw_p2 : lw_okq (⟨"LandmarkLea$Searches", "visit", "(IIII)V"⟩, 10) := ⟨⟨by decide +kernel, by decide +kernel⟩, List.mem_of_getElem? (i := 66) (by decide +kernel), List.mem_of_getElem? (i := 205) (by decide +kernel), List.mem_of_getElem? (i := 206) (by decide +kernel)⟩
theorem lw_p3 : lw_okq (⟨"LandmarkLea$Labels", "commonHubs", "(II)J"⟩, 6) := ⟨⟨by decide +kernel, by decide +kernel⟩, List.mem_of_getElem? (i := 40) (by decide +kernel), List.mem_of_getElem? (i := 214) (by decide +kernel), List.mem_of_getElem? (i := 215) (by decide +kernel)⟩
theorem lw_p4 : lw_okq (⟨"LandmarkLea$Labels", "sumThrough", "(III)I"⟩, 6) := ⟨⟨by decide +kernel, by decide +kernel⟩, List.mem_of_getElem? (i := 40) (by decide +kernel), List.mem_of_getElem? (i := 221) (by decide +kernel), List.mem_of_getElem? (i := 222) (by decide +kernel)⟩
theorem lw_p5 : lw_okq (⟨"LandmarkLea", "requireRoomFor", "(I)V"⟩, 6) := ⟨⟨by decide +kernel, by decide +kernel⟩, List.mem_of_getElem? (i := 15) (by decide +kernel), List.mem_of_getElem? (i := 277) (by decide +kernel), List.mem_of_getElem? (i := 278) (by decide +kernel)⟩
theorem lw_p6 : lw_okq (⟨"java/lang/Throwable", "fillInStackTrace", "(I)Ljava/lang/Throwable;"⟩, 6) := ⟨⟨by decide +kernel, by decide +kernel⟩, List.mem_of_getElem? (i := 319) (by decide +kernel), List.mem_of_getElem? (i := 317) (by decide +kernel), List.mem_of_getElem? (i := 318) (by decide +kernel)⟩
theorem lw_p7 : lw_okq (⟨"LandmarkLea", "appendVertex", "()I"⟩, 6) := ⟨⟨by decide +kernel, by decide +kernel⟩, List.mem_of_getElem? (i := 15) (by decide +kernel), List.mem_of_getElem? (i := 349) (by decide +kernel), List.mem_of_getElem? (i := 350) (by decide +kernel)⟩
theorem lw_p8 : lw_okq (⟨"LandmarkLea", "requireVertex", "(I)V"⟩, 6) := ⟨⟨by decide +kernel, by decide +kernel⟩, List.mem_of_getElem? (i := 15) (by decide +kernel), List.mem_of_getElem? (i := 395) (by decide +kernel), List.mem_of_getElem? (i := 396) (by decide +kernel)⟩
theorem lw_p9 : lw_okq (⟨"LandmarkLea$Labels", "hasEntry", "(II)Z"⟩, 6) := ⟨⟨by decide +kernel, by decide +kernel⟩, List.mem_of_getElem? (i := 40) (by decide +kernel), List.mem_of_getElem? (i := 437) (by decide +kernel), List.mem_of_getElem? (i := 438) (by decide +kernel)⟩
theorem lw_p10 : lw_okq (⟨"LandmarkLea", "requireLabelOf", "(I)V"⟩, 6) := ⟨⟨by decide +kernel, by decide +kernel⟩, List.mem_of_getElem? (i := 15) (by decide +kernel), List.mem_of_getElem? (i := 456) (by decide +kernel), List.mem_of_getElem? (i := 457) (by decide +kernel)⟩
theorem lw_p11 : lw_okq (⟨"LandmarkLea", "requireLabelsOf", "(II)V"⟩, 6) := ⟨⟨by decide +kernel, by decide +kernel⟩, List.mem_of_getElem? (i := 15) (by decide +kernel), List.mem_of_getElem? (i := 460) (by decide +kernel), List.mem_of_getElem? (i := 461) (by decide +kernel)⟩
theorem lw_p12 : lw_okq (⟨"LandmarkLea", "requireEntry", "(II)V"⟩, 6) := ⟨⟨by decide +kernel, by decide +kernel⟩, List.mem_of_getElem? (i := 15) (by decide +kernel), List.mem_of_getElem? (i := 480) (by decide +kernel), List.mem_of_getElem? (i := 481) (by decide +kernel)⟩
theorem lw_p13 : lw_okq (⟨"LandmarkLea$Labels", "stepsTo", "(II)I"⟩, 6) := ⟨⟨by decide +kernel, by decide +kernel⟩, List.mem_of_getElem? (i := 40) (by decide +kernel), List.mem_of_getElem? (i := 544) (by decide +kernel), List.mem_of_getElem? (i := 545) (by decide +kernel)⟩
theorem lw_p14 : lw_okq (⟨"LandmarkLea$Labels", "climb", "(III)I"⟩, 6) := ⟨⟨by decide +kernel, by decide +kernel⟩, List.mem_of_getElem? (i := 40) (by decide +kernel), List.mem_of_getElem? (i := 549) (by decide +kernel), List.mem_of_getElem? (i := 550) (by decide +kernel)⟩
theorem lw_p15 : lw_okq (⟨"LandmarkLeaModel", "goes", "(I)Z"⟩, 17) := ⟨⟨by decide +kernel, by decide +kernel⟩, List.mem_of_getElem? (i := 571) (by decide +kernel), List.mem_of_getElem? (i := 637) (by decide +kernel), List.mem_of_getElem? (i := 638) (by decide +kernel)⟩
def lw_privs_1 : List (MethodName × Nat) := [(⟨"LandmarkLea$Searches", "search", "(IIII)V"⟩, 10), (⟨"LandmarkLea$Searches", "enqueue", "(III)V"⟩, 10), (⟨"LandmarkLea$Searches", "visit", "(IIII)V"⟩, 10), (⟨"LandmarkLea$Labels", "commonHubs", "(II)J"⟩, 6), (⟨"LandmarkLea$Labels", "sumThrough", "(III)I"⟩, 6), (⟨"LandmarkLea", "requireRoomFor", "(I)V"⟩, 6), (⟨"java/lang/Throwable", "fillInStackTrace", "(I)Ljava/lang/Throwable;"⟩, 6), (⟨"LandmarkLea", "appendVertex", "()I"⟩, 6), (⟨"LandmarkLea", "requireVertex", "(I)V"⟩, 6), (⟨"LandmarkLea$Labels", "hasEntry", "(II)Z"⟩, 6), (⟨"LandmarkLea", "requireLabelOf", "(I)V"⟩, 6), (⟨"LandmarkLea", "requireLabelsOf", "(II)V"⟩, 6), (⟨"LandmarkLea", "requireEntry", "(II)V"⟩, 6), (⟨"LandmarkLea$Labels", "stepsTo", "(II)I"⟩, 6), (⟨"LandmarkLea$Labels", "climb", "(III)I"⟩, 6), (⟨"LandmarkLeaModel", "goes", "(I)Z"⟩, 17)]
theorem lw_r1 : ∀ q ∈ lw_privs_1, lw_okq q := List.forall_mem_cons.mpr ⟨lw_p0, List.forall_mem_cons.mpr ⟨lw_p1, List.forall_mem_cons.mpr ⟨lw_p2, List.forall_mem_cons.mpr ⟨lw_p3, List.forall_mem_cons.mpr ⟨lw_p4, List.forall_mem_cons.mpr ⟨lw_p5, List.forall_mem_cons.mpr ⟨lw_p6, List.forall_mem_cons.mpr ⟨lw_p7, List.forall_mem_cons.mpr ⟨lw_p8, List.forall_mem_cons.mpr ⟨lw_p9, List.forall_mem_cons.mpr ⟨lw_p10, List.forall_mem_cons.mpr ⟨lw_p11, List.forall_mem_cons.mpr ⟨lw_p12, List.forall_mem_cons.mpr ⟨lw_p13, List.forall_mem_cons.mpr ⟨lw_p14, List.forall_mem_cons.mpr ⟨lw_p15, fun _ h => absurd h List.not_mem_nil⟩⟩⟩⟩⟩⟩⟩⟩⟩⟩⟩⟩⟩⟩⟩⟩
theorem lw_p16 : lw_okq (⟨"LandmarkLeaModel", "adds", "()V"⟩, 17) := ⟨⟨by decide +kernel, by decide +kernel⟩, List.mem_of_getElem? (i := 571) (by decide +kernel), List.mem_of_getElem? (i := 641) (by decide +kernel), List.mem_of_getElem? (i := 642) (by decide +kernel)⟩
theorem lw_p17 : lw_okq (⟨"LandmarkLeaModel", "isVertex", "(I)Z"⟩, 17) := ⟨⟨by decide +kernel, by decide +kernel⟩, List.mem_of_getElem? (i := 571) (by decide +kernel), List.mem_of_getElem? (i := 656) (by decide +kernel), List.mem_of_getElem? (i := 657) (by decide +kernel)⟩
theorem lw_p18 : lw_okq (⟨"LandmarkLeaModel", "isEdge", "(II)Z"⟩, 17) := ⟨⟨by decide +kernel, by decide +kernel⟩, List.mem_of_getElem? (i := 571) (by decide +kernel), List.mem_of_getElem? (i := 660) (by decide +kernel), List.mem_of_getElem? (i := 661) (by decide +kernel)⟩
theorem lw_p19 : lw_okq (⟨"LandmarkLeaModel", "extendsBy", "(II)V"⟩, 17) := ⟨⟨by decide +kernel, by decide +kernel⟩, List.mem_of_getElem? (i := 571) (by decide +kernel), List.mem_of_getElem? (i := 664) (by decide +kernel), List.mem_of_getElem? (i := 665) (by decide +kernel)⟩
theorem lw_p20 : lw_okq (⟨"LandmarkLeaModel", "counts", "()V"⟩, 17) := ⟨⟨by decide +kernel, by decide +kernel⟩, List.mem_of_getElem? (i := 571) (by decide +kernel), List.mem_of_getElem? (i := 668) (by decide +kernel), List.mem_of_getElem? (i := 669) (by decide +kernel)⟩
theorem lw_p21 : lw_okq (⟨"LandmarkLeaModel", "searches", "(IIIII)V"⟩, 17) := ⟨⟨by decide +kernel, by decide +kernel⟩, List.mem_of_getElem? (i := 571) (by decide +kernel), List.mem_of_getElem? (i := 672) (by decide +kernel), List.mem_of_getElem? (i := 673) (by decide +kernel)⟩
theorem lw_p22 : lw_okq (⟨"LandmarkLeaModel", "isPruned", "(IIII)Z"⟩, 17) := ⟨⟨by decide +kernel, by decide +kernel⟩, List.mem_of_getElem? (i := 571) (by decide +kernel), List.mem_of_getElem? (i := 676) (by decide +kernel), List.mem_of_getElem? (i := 677) (by decide +kernel)⟩
theorem lw_p23 : lw_okq (⟨"LandmarkLeaModel", "estimate", "(IIII)I"⟩, 17) := ⟨⟨by decide +kernel, by decide +kernel⟩, List.mem_of_getElem? (i := 571) (by decide +kernel), List.mem_of_getElem? (i := 680) (by decide +kernel), List.mem_of_getElem? (i := 681) (by decide +kernel)⟩
theorem lw_p24 : lw_okq (⟨"LandmarkLeaModel", "keepsCounts", "()V"⟩, 17) := ⟨⟨by decide +kernel, by decide +kernel⟩, List.mem_of_getElem? (i := 571) (by decide +kernel), List.mem_of_getElem? (i := 684) (by decide +kernel), List.mem_of_getElem? (i := 685) (by decide +kernel)⟩
theorem lw_p25 : lw_okq (⟨"LandmarkLeaModel", "builds", "(I)V"⟩, 17) := ⟨⟨by decide +kernel, by decide +kernel⟩, List.mem_of_getElem? (i := 571) (by decide +kernel), List.mem_of_getElem? (i := 708) (by decide +kernel), List.mem_of_getElem? (i := 709) (by decide +kernel)⟩
theorem lw_p26 : lw_okq (⟨"LandmarkLeaModel", "empties", "(I)V"⟩, 17) := ⟨⟨by decide +kernel, by decide +kernel⟩, List.mem_of_getElem? (i := 571) (by decide +kernel), List.mem_of_getElem? (i := 712) (by decide +kernel), List.mem_of_getElem? (i := 713) (by decide +kernel)⟩
theorem lw_p27 : lw_okq (⟨"LandmarkLeaModel", "givesRanks", "(I)V"⟩, 17) := ⟨⟨by decide +kernel, by decide +kernel⟩, List.mem_of_getElem? (i := 571) (by decide +kernel), List.mem_of_getElem? (i := 716) (by decide +kernel), List.mem_of_getElem? (i := 717) (by decide +kernel)⟩
theorem lw_p28 : lw_okq (⟨"LandmarkLeaModel", "degree", "(I)I"⟩, 17) := ⟨⟨by decide +kernel, by decide +kernel⟩, List.mem_of_getElem? (i := 571) (by decide +kernel), List.mem_of_getElem? (i := 720) (by decide +kernel), List.mem_of_getElem? (i := 721) (by decide +kernel)⟩
theorem lw_p29 : lw_okq (⟨"LandmarkLeaModel", "wrong", "(II)I"⟩, 17) := ⟨⟨by decide +kernel, by decide +kernel⟩, List.mem_of_getElem? (i := 571) (by decide +kernel), List.mem_of_getElem? (i := 732) (by decide +kernel), List.mem_of_getElem? (i := 733) (by decide +kernel)⟩
theorem lw_p30 : lw_okq (⟨"LandmarkLeaModel", "all", "(I)I"⟩, 17) := ⟨⟨by decide +kernel, by decide +kernel⟩, List.mem_of_getElem? (i := 571) (by decide +kernel), List.mem_of_getElem? (i := 740) (by decide +kernel), List.mem_of_getElem? (i := 741) (by decide +kernel)⟩
theorem lw_p31 : lw_okq (⟨"LandmarkLeaModel", "size", "(II)I"⟩, 17) := ⟨⟨by decide +kernel, by decide +kernel⟩, List.mem_of_getElem? (i := 571) (by decide +kernel), List.mem_of_getElem? (i := 744) (by decide +kernel), List.mem_of_getElem? (i := 745) (by decide +kernel)⟩
def lw_privs_2 : List (MethodName × Nat) := [(⟨"LandmarkLeaModel", "adds", "()V"⟩, 17), (⟨"LandmarkLeaModel", "isVertex", "(I)Z"⟩, 17), (⟨"LandmarkLeaModel", "isEdge", "(II)Z"⟩, 17), (⟨"LandmarkLeaModel", "extendsBy", "(II)V"⟩, 17), (⟨"LandmarkLeaModel", "counts", "()V"⟩, 17), (⟨"LandmarkLeaModel", "searches", "(IIIII)V"⟩, 17), (⟨"LandmarkLeaModel", "isPruned", "(IIII)Z"⟩, 17), (⟨"LandmarkLeaModel", "estimate", "(IIII)I"⟩, 17), (⟨"LandmarkLeaModel", "keepsCounts", "()V"⟩, 17), (⟨"LandmarkLeaModel", "builds", "(I)V"⟩, 17), (⟨"LandmarkLeaModel", "empties", "(I)V"⟩, 17), (⟨"LandmarkLeaModel", "givesRanks", "(I)V"⟩, 17), (⟨"LandmarkLeaModel", "degree", "(I)I"⟩, 17), (⟨"LandmarkLeaModel", "wrong", "(II)I"⟩, 17), (⟨"LandmarkLeaModel", "all", "(I)I"⟩, 17), (⟨"LandmarkLeaModel", "size", "(II)I"⟩, 17)]
theorem lw_r2 : ∀ q ∈ lw_privs_2, lw_okq q := List.forall_mem_cons.mpr ⟨lw_p16, List.forall_mem_cons.mpr ⟨lw_p17, List.forall_mem_cons.mpr ⟨lw_p18, List.forall_mem_cons.mpr ⟨lw_p19, List.forall_mem_cons.mpr ⟨lw_p20, List.forall_mem_cons.mpr ⟨lw_p21, List.forall_mem_cons.mpr ⟨lw_p22, List.forall_mem_cons.mpr ⟨lw_p23, List.forall_mem_cons.mpr ⟨lw_p24, List.forall_mem_cons.mpr ⟨lw_p25, List.forall_mem_cons.mpr ⟨lw_p26, List.forall_mem_cons.mpr ⟨lw_p27, List.forall_mem_cons.mpr ⟨lw_p28, List.forall_mem_cons.mpr ⟨lw_p29, List.forall_mem_cons.mpr ⟨lw_p30, List.forall_mem_cons.mpr ⟨lw_p31, fun _ h => absurd h List.not_mem_nil⟩⟩⟩⟩⟩⟩⟩⟩⟩⟩⟩⟩⟩⟩⟩⟩
theorem lw_p32 : lw_okq (⟨"LandmarkLeaModel", "asksEntry", "(II)I"⟩, 17) := ⟨⟨by decide +kernel, by decide +kernel⟩, List.mem_of_getElem? (i := 571) (by decide +kernel), List.mem_of_getElem? (i := 760) (by decide +kernel), List.mem_of_getElem? (i := 761) (by decide +kernel)⟩
theorem lw_p33 : lw_okq (⟨"LandmarkLeaModel", "between", "(II)I"⟩, 17) := ⟨⟨by decide +kernel, by decide +kernel⟩, List.mem_of_getElem? (i := 571) (by decide +kernel), List.mem_of_getElem? (i := 776) (by decide +kernel), List.mem_of_getElem? (i := 777) (by decide +kernel)⟩
theorem lw_p34 : lw_okq (⟨"LandmarkLeaModel", "rankBetween", "(II)I"⟩, 17) := ⟨⟨by decide +kernel, by decide +kernel⟩, List.mem_of_getElem? (i := 571) (by decide +kernel), List.mem_of_getElem? (i := 784) (by decide +kernel), List.mem_of_getElem? (i := 785) (by decide +kernel)⟩
theorem lw_p35 : lw_okq (⟨"LandmarkLeaModel", "steps", "(II)I"⟩, 17) := ⟨⟨by decide +kernel, by decide +kernel⟩, List.mem_of_getElem? (i := 571) (by decide +kernel), List.mem_of_getElem? (i := 792) (by decide +kernel), List.mem_of_getElem? (i := 793) (by decide +kernel)⟩
theorem lw_p36 : lw_okq (⟨"LandmarkLeaModel", "stepped", "(III)I"⟩, 17) := ⟨⟨by decide +kernel, by decide +kernel⟩, List.mem_of_getElem? (i := 571) (by decide +kernel), List.mem_of_getElem? (i := 796) (by decide +kernel), List.mem_of_getElem? (i := 797) (by decide +kernel)⟩
def lw_privs_3 : List (MethodName × Nat) := [(⟨"LandmarkLeaModel", "asksEntry", "(II)I"⟩, 17), (⟨"LandmarkLeaModel", "between", "(II)I"⟩, 17), (⟨"LandmarkLeaModel", "rankBetween", "(II)I"⟩, 17), (⟨"LandmarkLeaModel", "steps", "(II)I"⟩, 17), (⟨"LandmarkLeaModel", "stepped", "(III)I"⟩, 17)]
theorem lw_r3 : ∀ q ∈ lw_privs_3, lw_okq q := List.forall_mem_cons.mpr ⟨lw_p32, List.forall_mem_cons.mpr ⟨lw_p33, List.forall_mem_cons.mpr ⟨lw_p34, List.forall_mem_cons.mpr ⟨lw_p35, List.forall_mem_cons.mpr ⟨lw_p36, fun _ h => absurd h List.not_mem_nil⟩⟩⟩⟩⟩
def lw_privs : List (MethodName × Nat) := lw_privs_1 ++ (lw_privs_2 ++ (lw_privs_3))
def lw_tbl : List Cond := k2_sels lw_privs ++ tables_1
theorem lw_privs_ok : ∀ q ∈ lw_privs, lw_okq q := by
  show ∀ q ∈ lw_privs_1 ++ (lw_privs_2 ++ (lw_privs_3)), lw_okq q
  exact List.forall_mem_append.mpr ⟨lw_r1, List.forall_mem_append.mpr ⟨lw_r2, lw_r3⟩⟩
end
section
/-! ===== BEGIN words of one list among another's, by their places ===== -/
theorem goodIn_r {big : List Cond} (ws : List Cond) (ps : List Nat) (hp : ws = ps.filterMap (fun i => big[i]?)) (h : ws.all goodWord = true) : GoodIn big ws := by
  intro w hw
  have h1 := List.all_eq_true.mp h w hw
  rw [hp] at hw
  obtain ⟨i, -, hi⟩ := List.mem_filterMap.mp hw
  have hm : w ∈ big := by first | exact List.mem_of_getElem? hi | exact List.getElem?_mem hi
  exact ⟨hm, good_of_word h1⟩
theorem goodIn_app {big a b : List Cond} (ha : GoodIn big a) (hb : GoodIn big b) : GoodIn big (a ++ b) := fun w h => (List.mem_append.mp h).elim (ha w) (hb w)
theorem goodIn_ca {big a b : List Cond} {c : Cond} (ha : GoodIn big (c :: a)) (hb : GoodIn big b) : GoodIn big (c :: (a ++ b)) := fun w h => (List.mem_cons.mp h).elim (fun e => ha w (List.mem_cons.mpr (Or.inl e))) (fun h => (List.mem_append.mp h).elim (fun h => ha w (List.mem_cons.mpr (Or.inr h))) (hb w))
theorem goodIn_sub {big ws : List Cond} (hm : ∀ w ∈ ws, w ∈ big) (h : ws.all goodWord = true) : GoodIn big ws := fun w hw => ⟨hm w hw, good_of_word (List.all_eq_true.mp h w hw)⟩
/-! ===== END ===== -/

/-! ===== BEGIN exceptions that leave a method, and their catching by the caller (launches without stack traces) ===== -/
section VXA
/-! The laws vx_back, vx_callV, vx_callS, vx_callSW, vx_throw0, vx_throwS follow proofs of the library, with one case more: JvmDerived/Free/Laws.lean (Back.of_free), Shelf42/LK1.lean (callV, callS), Shelf/KitTraced.lean (throwNew0V, throwNewS). -/
/-- where a method has thrown q: the class by its name, the cell, what was written, the world -/
def vx_T (XC : String → State → State → Prop) (st : State) (q : Addr) (t : State) (mc ms : Nat) (free : Addr → Prop) : Prop :=
  ∃ (E : String) (ce : Cell) (L : List Loc), XC E st t ∧ t.heap[q]? = some ce ∧ ce.vm = .none ∧ st.vm.findClass E = some ce.cls ∧ st.WarmedH t.vm ∧ st.sameButNew ({ t with vm := st.vm } : State) L mc ms ∧ ∀ z ∈ L, free z.base
def vx_Q (Qc : Array Value → State → Outcome → State → Prop) (XC : String → State → State → Prop) (mc ms : Nat) (free : Addr → Prop) : Array Value → State → Outcome → State → Prop := fun a st o t =>
  (Qc a st o t ∧ ∃ L, FrameEnd st o t L mc ms ∧ ∀ q ∈ L, free q.base) ∨ ∃ q, o = .threw q ∧ vx_T XC st q t mc ms free
/-- a callee that returns or throws -/
def vx_Met (l : Launch) (y : MethodName) (ws : List Cond) (rm : Room) (Pc : Array Value → State → Prop) (Qc : Array Value → State → Outcome → State → Prop) (XC : String → State → State → Prop) (mc ms : Nat) (free : Addr → Prop) : Prop :=
  MetFree l y (headSpec ws rm) Pc (fun _ _ _ _ _ => True) (vx_Q Qc XC mc ms free)
def vx_Post (XC : String → State → State → Prop) (mc ms : Nat) (free : Addr → Prop) : Pt → Array Value → Addr → Pt → Prop := fun A a q B =>
  ∃ (g : JFrame) (mk : MethodId) (t : State) (L : List Loc) (E : String) (ce : Cell), B.U.heap = t.heap ∧ B.U.vm = t.vm ∧ XC E (A.U.calling g mk a) t ∧ t.heap[q]? = some ce ∧ ce.vm = .none ∧ A.U.vm.findClass E = some ce.cls ∧ B.locs = A.locs ++ L ∧ (∀ z ∈ L, free z.base) ∧ B.cells = A.cells + mc ∧ B.slots = A.slots + ms
def vx_Back (l : Launch) (R : Room) (p : Program) (e : Env) (below : List Frame) (s : State) (sargs : Array Value) (y : MethodName) (len W9 : Nat)
    (Pre : Pt → Array Value → Prop) (Post : Pt → Array Value → Option Value → Pt → Prop) (PostX : Pt → Array Value → Addr → Pt → Prop) : Prop :=
  ∀ (m : MethodId) (meth : Method) (c : Code) (A : Pt) (g : JFrame) (ig : Instr) (mk : MethodId) (a : Array Value),
    Stand p l e R s m sargs below meth c A.U A.locs A.cells A.slots → g.method = m → g.locals.size = c.maxLocals → decode c.code g.pc = .ok (ig, len) →
    2 * g.monitorRoom + (g.stack.map fun v => v.category).sum ≤ W9 → A.U.methodNamed? y = some mk → Pre A a →
    (∃ (v : Option Value) (B : Pt), Stand p l e R s m sargs below meth c B.U B.locs B.cells B.slots ∧ Post A a v B ∧
      Steps p.tables e below (doInvoke e (A.U.setTop g) [] mk a).1 (B.U.setTop { g with pc := g.pc + len, stack := v.toList ++ g.stack })) ∨
    (∃ (q : Addr) (B : Pt), Stand p l e R s m sargs below meth c B.U B.locs B.cells B.slots ∧ PostX A a q B ∧
      Steps p.tables e below (doInvoke e (A.U.setTop g) [] mk a).1 ((B.U.setTop g).pushFrame (.throwing q)))
section Payer
variable {l : Launch} {R : Room} {p : Program} {e : Env} {below : List Frame} {s : State} {sargs : Array Value} {y : MethodName} {len W9 : Nat}
theorem vx_back {ws : List Cond} {rm : Room} {Pc : Array Value → State → Prop} {Qc : Array Value → State → Outcome → State → Prop} {XC : String → State → State → Prop} {mc ms : Nat} {free : Addr → Prop} {bytes : ByteArray} {maxL : Nat} {ret : Option FieldType}
    (hM : vx_Met l y ws rm Pc Qc XC mc ms free) (hblind : FrameBlind Pc) (hrc : rm.cells = mc) (hrs : rm.slots = ms)
    (hframes : rm.frames + 1 ≤ R.frames) (hlocals : W9 + (maxL + 11) + rm.locals ≤ R.locals)
    (hws : ∀ w ∈ ws, ∀ a' U, s.WarmedH U.vm → w.before a' U = true) (hcode : Cond.code y bytes maxL ret ∈ ws) (hinit : ∀ a' U, s.WarmedH U.vm → (Cond.initialized y.cls).before a' U = true) :
    vx_Back l R p e below s sargs y len W9 (PreOf R mc ms Pc) (PostOf Qc mc ms free) (vx_Post XC mc ms free) := by
  intro m meth c A g ig mk a X hg hsize hdg hW hn hp
  have h1 : (headSpec ws rm).pre.before a A.U = true := atoms_intro fun w hw => hws w hw _ _ X.warmed
  have h2 : (Cond.code y bytes maxL ret).before a A.U = true := hws _ hcode _ _ X.warmed
  have h3 : (Cond.initialized y.cls).before a A.U = true := hinit _ _ X.warmed
  have h4 : A.cells + (headSpec ws rm).room.cells ≤ R.cells := by rw [show (headSpec ws rm).room.cells = mc from hrc]; exact hp.1
  have h5 : A.slots + (headSpec ws rm).room.slots ≤ R.slots := by rw [show (headSpec ws rm).room.slots = ms from hrs]; exact hp.2.1
  have hPc : Pc a (A.U.calling g mk a) := hblind _ _ _ _ hp.2.2
  obtain ⟨U, Ls, c0, s0⟩ := A
  dsimp only [Pt.U, Pt.locs, Pt.cells, Pt.slots] at h1 h2 h3 h4 h5 X hn hPc ⊢
  obtain ⟨methY, cY, hmY, hcY, -, hlY, -, -, -, -⟩ := Cond.code_spec hn h2
  obtain ⟨kY, hkY, -⟩ := className_of_methodNamed hn
  have hinitY : kY.init = .initialized := Cond.initialized_spec (findClass_of_methodNamed hn) hkY h3
  have h : At U g.method c below := by rw [hg]; exact X.here
  have hlocals9 : W9 + (maxL + 11) + (headSpec ws rm).room.locals ≤ R.locals := hlocals
  have happ : (headSpec ws rm).appliesLoose y e.platform (U.calling g mk a) = true :=
    Spec.appliesLoose_calling (g := g) h hdg hn hkY hinitY
      (X.room_calling (g := g) (R' := (headSpec ws rm).room) hsize hmY hcY hframes (by rw [hlY]; omega) h4 h5) h1
  obtain ⟨mid, hmid⟩ := h.above
  have hfr : (U.setTop g).frames = (.java g :: mid) ++ below := by rw [State.frames_setTop' g h.top, hmid]; rfl
  obtain ⟨o, s₂, hsteps, -, hend, hq⟩ := Steps.callFree hM p X.admits X.cas X.clock (acts := []) hfr happ hPc trivial
  have hq' : vx_Q Qc XC mc ms free a (U.calling g mk a) o s₂ := hq
  rw [State.frames_setTop' g h.top] at hend
  obtain ⟨g₀, hg0⟩ := Option.isSome_iff_exists.mp h.top
  obtain ⟨r, hr⟩ := State.topJava?_eq_some.mp hg0
  have hr' : (({ U with heap := s₂.heap, slotsUsed := s₂.slotsUsed } : State).setVm s₂.vm).frames = .java g₀ :: r := hr
  rcases hq' with ⟨hqc, L, hfe, hL⟩ | ⟨q, rfl, E, ce, L, hx, hce, hcv, hcl, hW₂, hsm, hL⟩
  · obtain ⟨⟨v, rfl⟩, hW₂, e2, q2, q3, q4, q5, q6⟩ := id hfe
    have e3 : s₂ = ({ (U.calling g mk a).setFrames s₂.frames with heap := s₂.heap, slotsUsed := s₂.slotsUsed } : State).setVm s₂.vm := by
      have : s₂ = ({ s₂ with vm := (U.calling g mk a).vm } : State).setVm s₂.vm := rfl
      rw [e2] at this
      exact this
    obtain ⟨c₂, i₂, len₂, hc₂, hd₂, hf₂⟩ := hend
    have hW' : U.WarmedH s₂.vm := hW₂
    have hcc : c₂ = c := by
      have h1 : s₂.code? g.method = U.code? g.method := by
        rw [State.code?_eq, State.code?_eq, hW'.alike.method?]
      exact Option.some.inj (hc₂.symm.trans (h1.trans h.code))
    subst hcc
    have hlen : len₂ = len := by rw [hdg] at hd₂; cases hd₂; rfl
    subst hlen
    have hs₂ : s₂ = (({ U with heap := s₂.heap, slotsUsed := s₂.slotsUsed } : State).setVm s₂.vm).setTop { g with pc := g.pc + len₂, stack := v.toList ++ g.stack } := by
      refine e3.trans ?_
      rw [hf₂, State.calling_eq h.top, State.setFrames_setFrames, State.setTop_of_frames _ hr', hr]
      rfl
    have hsame : U.sameButNew ({ U with heap := s₂.heap, slotsUsed := s₂.slotsUsed } : State) L mc ms := by
      refine ⟨?_, q2, q3, q4, q5, q6⟩
      obtain ⟨t, ht, -⟩ := State.frames_cons hr
      show ({ U with heap := s₂.heap, slotsUsed := s₂.slotsUsed } : State) = { U.setFrames U.frames with heap := s₂.heap, slotsUsed := s₂.slotsUsed }
      rw [State.setFrames_self ht]
    subst hg
    refine Or.inl ⟨v, ⟨(({ U with heap := s₂.heap, slotsUsed := s₂.slotsUsed } : State).setVm s₂.vm), Ls ++ L, c0 + mc, s0 + ms⟩,
      ⟨X.admits, X.cas, X.clock, X.frames, X.room, X.hears, X.method, X.code, (X.here.setHeapUsed s₂.heap s₂.slotsUsed).setVm hW'.alike, X.tail, State.WarmedH.trans X.warmed hW', X.limits, X.bytes, X.same.trans (hsame.setVm s.vm)⟩,
      ⟨g, mk, s₂, L, rfl, rfl, hqc, rfl, hL, rfl, rfl⟩, ?_⟩
    show Steps p.tables e below _ ((({ U with heap := s₂.heap, slotsUsed := s₂.slotsUsed } : State).setVm s₂.vm).setTop { g with pc := g.pc + len₂, stack := v.toList ++ g.stack })
    rw [← hs₂]
    exact hsteps
  · obtain ⟨e2, q2, q3, q4, q5, q6⟩ := id hsm
    have e3 : s₂ = ({ (U.calling g mk a).setFrames s₂.frames with heap := s₂.heap, slotsUsed := s₂.slotsUsed } : State).setVm s₂.vm := by
      have : s₂ = ({ s₂ with vm := (U.calling g mk a).vm } : State).setVm s₂.vm := rfl
      rw [e2] at this
      exact this
    have hf₂ : s₂.frames = .throwing q :: .java g :: U.frames.tail := hend
    have hW' : U.WarmedH s₂.vm := hW₂
    have hs₂ : s₂ = ((({ U with heap := s₂.heap, slotsUsed := s₂.slotsUsed } : State).setVm s₂.vm).setTop g).pushFrame (.throwing q) := by
      refine e3.trans ?_
      rw [hf₂, State.calling_eq h.top, State.setFrames_setFrames, State.pushFrame, State.frames_setTop _ hr', State.setTop_of_frames _ hr', State.setFrames_setFrames, hr]
      rfl
    have hsame : U.sameButNew ({ U with heap := s₂.heap, slotsUsed := s₂.slotsUsed } : State) L mc ms := by
      refine ⟨?_, q2, q3, q4, q5, q6⟩
      obtain ⟨t, ht, -⟩ := State.frames_cons hr
      show ({ U with heap := s₂.heap, slotsUsed := s₂.slotsUsed } : State) = { U.setFrames U.frames with heap := s₂.heap, slotsUsed := s₂.slotsUsed }
      rw [State.setFrames_self ht]
    subst hg
    refine Or.inr ⟨q, ⟨(({ U with heap := s₂.heap, slotsUsed := s₂.slotsUsed } : State).setVm s₂.vm), Ls ++ L, c0 + mc, s0 + ms⟩,
      ⟨X.admits, X.cas, X.clock, X.frames, X.room, X.hears, X.method, X.code, (X.here.setHeapUsed s₂.heap s₂.slotsUsed).setVm hW'.alike, X.tail, State.WarmedH.trans X.warmed hW', X.limits, X.bytes, X.same.trans (hsame.setVm s.vm)⟩,
      ⟨g, mk, s₂, L, E, ce, rfl, rfl, hx, hce, hcv, hcl, rfl, hL, rfl, rfl⟩, ?_⟩
    show Steps p.tables e below _ (((({ U with heap := s₂.heap, slotsUsed := s₂.slotsUsed } : State).setVm s₂.vm).setTop g).pushFrame (.throwing q))
    rw [← hs₂]
    exact hsteps
end Payer
section Calls
variable {p : Program} {l : Launch} {e : Env} {R : Room} {s : State} {m : MethodId} {args : Array Value} {below : List Frame} {meth : Method} {c : Code} {T : State} {locs : List Loc} {cells slots : Nat}
theorem vx_callV (X : Stand p l e R s m args below meth c T locs cells slots) (hexec : p.tables.exec = Jvm.exec) {own C : String} {index : Nat} {y : MethodName} {bytes : ByteArray} {maxL : Nat} {ret : Option FieldType}
    (hown : s.vm.findClass own = some m.cls) (hlink : (Cond.methodLink own index y).before args s = true) (hinst : (Cond.instanceMethod y).before args s = true) (hsel : (Cond.selects C y y).before args s = true)
    (hcode : (Cond.code y bytes maxL ret).before args s = true) (hy : y.cls ≠ "java/lang/invoke/MethodHandle" ∧ y.cls ≠ "java/lang/invoke/VarHandle")
    {W9 : Nat} {Pre : Pt → Array Value → Prop} {Post : Pt → Array Value → Option Value → Pt → Prop} {PostX : Pt → Array Value → Addr → Pt → Prop} (hK : vx_Back l R p e below s args y 3 W9 Pre Post PostX)
    {b : Addr} {cellB : Cell} (hcell : T.heap[b]? = some cellB) (hobj : cellB.vm.isStatics = false) (hcls : s.vm.findClass C = some cellB.cls)
    {g : JFrame} (hg : g.method = m) (hsize : g.locals.size = c.maxLocals) {argsL rest : List Value} (hlen : ∀ sig, parseMethodDescriptor y.desc = some sig → argsL.length = sig.parameters.length)
    (hstack : g.stack = argsL.reverse ++ .ref b :: rest) (hW : 2 * g.monitorRoom + (rest.map fun v => v.category).sum ≤ W9) (hdg : decode c.code g.pc = .ok (.invokevirtual index, 3))
    (hpre : ∀ vm₁, s.WarmedH vm₁ → Pre ⟨T.setVm vm₁, locs, cells, slots⟩ (Value.ref b :: argsL).toArray) :
    (∃ (v : Option Value) (vm₁ : Vm) (B : Pt), s.WarmedH vm₁ ∧ Stand p l e R s m args below meth c B.U B.locs B.cells B.slots ∧ Post ⟨T.setVm vm₁, locs, cells, slots⟩ (Value.ref b :: argsL).toArray v B ∧
      ∀ target, Steps p.tables e below (B.U.setTop { g with pc := g.pc + 3, stack := v.toList ++ rest }) target → Steps p.tables e below (T.setTop g) target) ∨
    (∃ (q : Addr) (vm₁ : Vm) (B : Pt), s.WarmedH vm₁ ∧ Stand p l e R s m args below meth c B.U B.locs B.cells B.slots ∧ PostX ⟨T.setVm vm₁, locs, cells, slots⟩ (Value.ref b :: argsL).toArray q B ∧
      Steps p.tables e below (T.setTop g) ((B.U.setTop { g with stack := rest }).pushFrame (.throwing q))) := by
  obtain ⟨mk, methM, hnamed, hmethM, hstM, habM⟩ := Cond.instanceMethod_spec hinst
  obtain ⟨methM', cM, hmethM', -, -, -, -, -, -, hsigM⟩ := Cond.code_spec hnamed hcode
  cases hmethM.symm.trans hmethM'
  obtain ⟨c2, r2, m2, q1, q2, q3, q4, kP, hkP, hkPi⟩ := Cond.selects_spec hsel
  cases hcls.symm.trans q1
  cases (State.methodFound?_of_named hnamed hy).symm.trans q2
  cases hnamed.symm.trans q3
  have hselP : selectMethod e.platform s.vm cellB.cls mk = .method mk := by rw [Launch.admits_selectMethod X.admits]; exact q4
  obtain ⟨vm₁, X₁, hstep₁⟩ := X.invokevirtual hexec hown hlink hnamed hmethM hstM hkP hkPi hy (a := b) (cell := cellB) hcell
    (fun z h => by rw [h] at hobj; cases hobj) hselP hmethM habM hkP hkPi (g := g) hg (argsL := argsL) (rest := rest) (hlen _ hsigM) hstack hdg
  rcases hK m meth c ⟨T.setVm vm₁, locs, cells, slots⟩ { g with stack := rest } (.invokevirtual index) mk (Value.ref b :: argsL).toArray X₁ hg hsize hdg hW (X₁.named hnamed) (hpre vm₁ X₁.warmed) with ⟨v, B, X', hpost, hsteps⟩ | ⟨q, B, X', hpost, hsteps⟩
  · exact Or.inl ⟨v, vm₁, B, X₁.warmed, X', hpost, fun target h => hstep₁ _ fun acts => by rw [doInvoke_state]; exact hsteps.trans h⟩
  · exact Or.inr ⟨q, vm₁, B, X₁.warmed, X', hpost, hstep₁ _ fun acts => by rw [doInvoke_state]; exact hsteps⟩
theorem vx_callS (X : Stand p l e R s m args below meth c T locs cells slots) (hexec : p.tables.exec = Jvm.exec) {own : String} {index : Nat} {y : MethodName} {bytes : ByteArray} {maxL : Nat} {ret : Option FieldType}
    (hown : s.vm.findClass own = some m.cls) (hlink : (Cond.methodLink own index y).before args s = true) (hstat : (Cond.static y).before args s = true) (hinit : (Cond.initialized y.cls).before args s = true)
    (hcode : (Cond.code y bytes maxL ret).before args s = true) (hy : y.cls ≠ "java/lang/invoke/MethodHandle" ∧ y.cls ≠ "java/lang/invoke/VarHandle")
    {W9 : Nat} {Pre : Pt → Array Value → Prop} {Post : Pt → Array Value → Option Value → Pt → Prop} {PostX : Pt → Array Value → Addr → Pt → Prop} (hK : vx_Back l R p e below s args y 3 W9 Pre Post PostX)
    {g : JFrame} (hg : g.method = m) (hsize : g.locals.size = c.maxLocals) {argsL rest : List Value} (hlen : ∀ sig, parseMethodDescriptor y.desc = some sig → argsL.length = sig.parameters.length)
    (hstack : g.stack = argsL.reverse ++ rest) (hW : 2 * g.monitorRoom + (rest.map fun v => v.category).sum ≤ W9) (hdg : decode c.code g.pc = .ok (.invokestatic index, 3))
    (hpre : ∀ vm₁, s.WarmedH vm₁ → Pre ⟨T.setVm vm₁, locs, cells, slots⟩ argsL.toArray) :
    (∃ (v : Option Value) (vm₁ : Vm) (B : Pt), s.WarmedH vm₁ ∧ Stand p l e R s m args below meth c B.U B.locs B.cells B.slots ∧ Post ⟨T.setVm vm₁, locs, cells, slots⟩ argsL.toArray v B ∧
      ∀ target, Steps p.tables e below (B.U.setTop { g with pc := g.pc + 3, stack := v.toList ++ rest }) target → Steps p.tables e below (T.setTop g) target) ∨
    (∃ (q : Addr) (vm₁ : Vm) (B : Pt), s.WarmedH vm₁ ∧ Stand p l e R s m args below meth c B.U B.locs B.cells B.slots ∧ PostX ⟨T.setVm vm₁, locs, cells, slots⟩ argsL.toArray q B ∧
      Steps p.tables e below (T.setTop g) ((B.U.setTop { g with stack := rest }).pushFrame (.throwing q))) := by
  obtain ⟨mk, hnamed⟩ := Cond.code_named hcode
  obtain ⟨methM, cM, hmethM, -, -, -, -, -, -, hsigM⟩ := Cond.code_spec hnamed hcode
  have hstatic : methM.isStatic = true := Cond.static_spec hnamed hmethM hstat
  obtain ⟨kP, hkP, -⟩ := className_of_methodNamed hnamed
  have hinitP : kP.init = .initialized := Cond.initialized_spec (findClass_of_methodNamed hnamed) hkP hinit
  obtain ⟨vm₁, X₁, hstep₁⟩ := X.invokestatic hexec hown hlink hnamed hmethM hstatic hkP hinitP hy (g := g) hg (argsL := argsL) (rest := rest) (hlen _ hsigM) hstack hdg
  rcases hK m meth c ⟨T.setVm vm₁, locs, cells, slots⟩ { g with stack := rest } (.invokestatic index) mk argsL.toArray X₁ hg hsize hdg hW (X₁.named hnamed) (hpre vm₁ X₁.warmed) with ⟨v, B, X', hpost, hsteps⟩ | ⟨q, B, X', hpost, hsteps⟩
  · exact Or.inl ⟨v, vm₁, B, X₁.warmed, X', hpost, fun target h => hstep₁ _ fun acts => by rw [doInvoke_state]; exact hsteps.trans h⟩
  · exact Or.inr ⟨q, vm₁, B, X₁.warmed, X', hpost, hstep₁ _ fun acts => by rw [doInvoke_state]; exact hsteps⟩
end Calls
theorem vx_cls {s : State} {T : State} {vm₁ : Vm} {E : String} {k : ClassId} (hW : s.WarmedH vm₁) (h : (T.setVm vm₁).vm.findClass E = some k) : s.vm.findClass E = some k := by
  have h1 : vm₁.findClass E = some k := h
  rw [hW.alike.findClass] at h1
  exact h1
/-- the method's frame g, with q thrown over it -/
def vx_W (p : Program) (l : Launch) (e : Env) (R : Room) (s : State) (m : MethodId) (args : Array Value) (below : List Frame) (meth : Method) (c : Code) (H : Heap) (locs : List Loc) (cells slots : Nat) (Q : State → Prop) (g : JFrame) (q : Addr) : Prop :=
  ∀ T : State, T.heap = H → Stand p l e R s m args below meth c T locs cells slots → ∃ t, Steps p.tables e below ((T.setTop g).pushFrame (.throwing q)) t ∧ Q t
def vx_Run (p : Program) (l : Launch) (e : Env) (R : Room) (s : State) (m : MethodId) (args : Array Value) (below : List Frame) (meth : Method) (c : Code) (H : Heap) (locs : List Loc) (cells slots mc ms : Nat) (g : JFrame) (rest : List Value) (Qa : State → Outcome → State → Prop) (XC : String → State → State → Prop) (free : Addr → Prop) : Prop :=
  ∀ T : State, T.heap = H → Stand p l e R s m args below meth c T locs cells slots →
    (∃ (v : Option Value) (st₀ t T' : State) (L : List Loc), st₀.heap = H ∧ Stand p l e R s m args below meth c T' (locs ++ L) (cells + mc) (slots + ms) ∧ (∀ q ∈ L, free q.base) ∧ T'.heap = t.heap ∧ T'.vm = t.vm ∧ Qa st₀ (.returned v) t ∧
      Goes p e below T g T' { g with pc := g.pc + 3, stack := v.toList ++ rest }) ∨
    (∃ (q : Addr) (st₀ t T' : State) (L : List Loc) (E : String) (ce : Cell), st₀.heap = H ∧ Stand p l e R s m args below meth c T' (locs ++ L) (cells + mc) (slots + ms) ∧ (∀ z ∈ L, free z.base) ∧ T'.heap = t.heap ∧ T'.vm = t.vm ∧ XC E st₀ t ∧ t.heap[q]? = some ce ∧ ce.vm = .none ∧ s.vm.findClass E = some ce.cls ∧
      Steps p.tables e below (T.setTop g) ((T'.setTop { g with stack := rest }).pushFrame (.throwing q)))
def vx_X {S : Type} (px : S → Prop) (B : String → S → State → Prop) (A : Nat → Prop) : String → State → State → Prop := fun E st t => ∃ u : S, px u ∧ B E u t ∧ va_F A st t
section Runs
variable {p : Program} {l : Launch} {e : Env} {R : Room} {s : State} {m : MethodId} {args : Array Value} {below : List Frame} {meth : Method} {c : Code} {H : Heap} {locs : List Loc} {cells slots : Nat}
variable {y : MethodName} {bytes cc : ByteArray} {maxL nL mc ms n index : Nat} {ret : Option FieldType} {ws : List Cond} {rm : Room} {Pc : Array Value → State → Prop} {Qc : Array Value → State → Outcome → State → Prop} {XC : String → State → State → Prop} {free : Addr → Prop} {Ts : List Cond} {own C : String} {b : Addr} {As rest : List Value} {g : JFrame}
theorem vx_callBack (cb : CallB R s args own index y bytes maxL ret ws rm mc ms n) (hM : vx_Met l y ws rm Pc Qc XC mc ms free) (hbl : FrameBlind Pc) : vx_Back l R p e below s args y 3 8 (PreOf R mc ms Pc) (PostOf Qc mc ms free) (vx_Post XC mc ms free) := by
  obtain ⟨hrc, hrs, hfr, hlo, hws, hcw, -, hini, -⟩ := cb
  exact vx_back (bytes := bytes) (maxL := maxL) (ret := ret) hM hbl hrc hrs hfr hlo hws hcw (fun a' U hW => word_at hW (Or.inl (by first | rfl | simp [Cond.onTables, Cond.keeps, Cond.steady])) hini)
theorem vx_runV (S : CallFix p m c cc nL s args Ts own) (hM : vx_Met l y ws rm Pc Qc XC mc ms free) (cw : CallW R s args own C index y bytes maxL ret ws rm mc ms n) (hp : PreV s H C b Pc As)
    (hg : g.method = m) (hn : As.length = n) (hsize : g.locals.size = nL) (hstack : g.stack = As.reverse ++ .ref b :: rest) (hW : 2 * g.monitorRoom + (rest.map fun v => v.category).sum ≤ 8) (hdg : decode cc g.pc = .ok (.invokevirtual index, 3)) (hf : cells + mc ≤ R.cells ∧ slots + ms ≤ R.slots) :
    vx_Run p l e R s m args below meth c H locs cells slots mc ms g rest (Qc (Value.ref b :: As).toArray) XC free := by
  have hK : vx_Back l R p e below s args y 3 8 (PreOf R mc ms Pc) (PostOf Qc mc ms free) (vx_Post XC mc ms free) := vx_callBack cw.1 hM hp.1
  obtain ⟨⟨-, -, -, -, -, -, hcode, -, hy, hlen, hl⟩, hin, hse⟩ := cw
  obtain ⟨hx, hb, hml, ho, -⟩ := S
  obtain ⟨-, ⟨cellB, hcB, hoB, hclB⟩, hPc⟩ := hp
  intro T hT X
  rcases vx_callV X hx (C := C) (bytes := bytes) (maxL := maxL) (ret := ret) ho hl hin hse hcode hy hK (by rw [hT]; exact hcB) hoB hclB hg (hsize.trans hml.symm) (argsL := As) (rest := rest) (fun sig h => hn.trans (hlen sig h)) hstack hW (by rw [hb]; exact hdg)
    (fun vm₁ hW₁ => ⟨hf.1, hf.2, hPc (T.setVm vm₁) hT hW₁⟩) with ⟨v, vm₁, ⟨U', l2, c2, s2⟩, hW₁, X', ⟨g', mk, t, L, e1, e2, hq, h1, hL, h2, h3⟩, st⟩ | ⟨q, vm₁, ⟨U', l2, c2, s2⟩, hW₁, X', ⟨g', mk, t, L, E, ce, e1, e2, hq, hce, hcv, hcl, h1, hL, h2, h3⟩, st⟩
  · dsimp only [Pt.U, Pt.locs, Pt.cells, Pt.slots] at X' e1 e2 h1 h2 h3 st
    subst h1; subst h2; subst h3
    exact Or.inl ⟨v, (T.setVm vm₁).calling g' mk (Value.ref b :: As).toArray, t, U', L, hT, X', hL, e1, e2, hq, st⟩
  · dsimp only [Pt.U, Pt.locs, Pt.cells, Pt.slots] at X' e1 e2 h1 h2 h3 st hcl
    subst h1; subst h2; subst h3
    exact Or.inr ⟨q, (T.setVm vm₁).calling g' mk (Value.ref b :: As).toArray, t, U', L, E, ce, hT, X', hL, e1, e2, hq, hce, hcv, vx_cls hW₁ hcl, st⟩
theorem vx_runS (S : CallFix p m c cc nL s args Ts own) (hM : vx_Met l y ws rm Pc Qc XC mc ms free) (cw : CallB R s args own index y bytes maxL ret ws rm mc ms n ∧ (Cond.static y).before args s = true) (hp : PreS s H Pc As)
    (hg : g.method = m) (hn : As.length = n) (hsize : g.locals.size = nL) (hstack : g.stack = As.reverse ++ rest) (hW : 2 * g.monitorRoom + (rest.map fun v => v.category).sum ≤ 8) (hdg : decode cc g.pc = .ok (.invokestatic index, 3)) (hf : cells + mc ≤ R.cells ∧ slots + ms ≤ R.slots) :
    vx_Run p l e R s m args below meth c H locs cells slots mc ms g rest (Qc As.toArray) XC free := by
  have hK : vx_Back l R p e below s args y 3 8 (PreOf R mc ms Pc) (PostOf Qc mc ms free) (vx_Post XC mc ms free) := vx_callBack cw.1 hM hp.1
  obtain ⟨⟨-, -, -, -, -, -, hcode, hini, hy, hlen, hl⟩, hstt⟩ := cw
  obtain ⟨hx, hb, hml, ho, -⟩ := S
  intro T hT X
  rcases vx_callS X hx (bytes := bytes) (maxL := maxL) (ret := ret) ho hl hstt hini hcode hy hK hg (hsize.trans hml.symm) (argsL := As) (rest := rest) (fun sig h => hn.trans (hlen sig h)) hstack hW (by rw [hb]; exact hdg)
    (fun vm₁ hW₁ => ⟨hf.1, hf.2, hp.2 (T.setVm vm₁) hT hW₁⟩) with ⟨v, vm₁, ⟨U', l2, c2, s2⟩, hW₁, X', ⟨g', mk, t, L, e1, e2, hq, h1, hL, h2, h3⟩, st⟩ | ⟨q, vm₁, ⟨U', l2, c2, s2⟩, hW₁, X', ⟨g', mk, t, L, E, ce, e1, e2, hq, hce, hcv, hcl, h1, hL, h2, h3⟩, st⟩
  · dsimp only [Pt.U, Pt.locs, Pt.cells, Pt.slots] at X' e1 e2 h1 h2 h3 st
    subst h1; subst h2; subst h3
    exact Or.inl ⟨v, (T.setVm vm₁).calling g' mk As.toArray, t, U', L, hT, X', hL, e1, e2, hq, st⟩
  · dsimp only [Pt.U, Pt.locs, Pt.cells, Pt.slots] at X' e1 e2 h1 h2 h3 st hcl
    subst h1; subst h2; subst h3
    exact Or.inr ⟨q, (T.setVm vm₁).calling g' mk As.toArray, t, U', L, E, ce, hT, X', hL, e1, e2, hq, hce, hcv, vx_cls hW₁ hcl, st⟩
end Runs
section Rows
variable {p : Program} {l : Launch} {e : Env} {R : Room} {s : State} {m : MethodId} {args : Array Value} {below : List Frame} {meth : Method} {c : Code} {H : Heap} {locs : List Loc} {cells slots : Nat} {Q : State → Prop}
variable {mc ms : Nat} {free : Addr → Prop} {A0 A1 : Nat → Prop} {H0 : Heap} {a : Array Value} {pc : Nat} {ls : Array Slot} {st0 rest : List Value}
theorem vx_keep {st₀ t T' : State} {L : List Loc} (h0 : st₀.heap = H) (e1 : T'.heap = t.heap) (hS : va_S A0 H0 H locs) (hA : ∀ q, q < H.size → A1 q → A0 q) (hf : ∀ q, free q → A0 q) (hL : ∀ q ∈ L, free q.base) (hF : va_F A1 st₀ t) :
    H.size ≤ T'.heap.size ∧ (∀ q : Nat, q < H.size → ¬ A1 q → T'.heap[q]? = H[q]?) ∧ va_S A0 H0 T'.heap (locs ++ L) := by
  obtain ⟨hz, hk⟩ := hF
  rw [h0] at hz hk
  exact ⟨by rw [e1]; exact hz, fun q h1 h2 => by rw [e1]; exact hk q h1 h2,
    ⟨Nat.le_trans hS.1 (by rw [e1]; exact hz), fun q h1 h2 => by rw [e1, hk q (Nat.lt_of_lt_of_le h1 hS.1) (fun z => h2 (hA q (Nat.lt_of_lt_of_le h1 hS.1) z))]; exact hS.2.1 q h1 h2, fun q hq => by
      rcases List.mem_append.mp hq with h | h
      · exact hS.2.2 q h
      · exact hf _ (hL q h)⟩⟩
theorem vx_calli {S SX : Type} {post : Int32 → S → Prop} {px : SX → Prop} {B : S → State → Prop} {BX : String → SX → State → Prop} {AX : Nat → Prop} (hr : vx_Run p l e R s m args below meth c H locs cells slots mc ms (F0 m pc ls st0) rest (va_Qi post B A1 a) (vx_X px BX AX) free) (hS : va_S A0 H0 H locs) (hA : ∀ q, q < H.size → A1 q → A0 q) (hf : ∀ q, free q → A0 q) (hAX : ∀ q, q < H.size → AX q → A0 q)
    (kx : ∀ (E : String) (ce : Cell) (q9 : Addr) (u : SX) (t : State) (H1 : Heap) (locs1 : List Loc), t.heap = H1 → s.vm.Alike t.vm → px u → BX E u t → H.size ≤ H1.size → (∀ q : Nat, q < H.size → ¬ AX q → H1[q]? = H[q]?) → va_S A0 H0 H1 locs1 → H1[q9]? = some ce → ce.vm = .none → s.vm.findClass E = some ce.cls → vx_W p l e R s m args below meth c H1 locs1 (cells + mc) (slots + ms) Q (F0 m pc ls rest) q9)
    (kk : ∀ (r : Int32) (u : S) (t : State) (H1 : Heap) (locs1 : List Loc), t.heap = H1 → s.vm.Alike t.vm → post r u → B u t → H.size ≤ H1.size → (∀ q : Nat, q < H.size → ¬ A1 q → H1[q]? = H[q]?) → va_S A0 H0 H1 locs1 → W p l e R s m args below meth c H1 locs1 (cells + mc) (slots + ms) Q (F0 m (pc + 3) ls (.int r :: rest))) : W p l e R s m args below meth c H locs cells slots Q (F0 m pc ls st0) := by
  intro T hT X
  rcases hr T hT X with ⟨v, st₀, t, T', L, h0, X', hL, e1, e2, ⟨⟨r, u, hv, hp, hb⟩, hF⟩, st⟩ | ⟨q, st₀, t, T', L, E, ce, h0, X', hL, e1, e2, ⟨u, hp, hb, hF⟩, hce, hcv, hcl, st⟩
  · cases hv
    obtain ⟨k1, k2, k3⟩ := vx_keep h0 e1 hS hA hf hL hF
    obtain ⟨t2, a1, b1⟩ := kk r u t T'.heap (locs ++ L) e1.symm (by rw [← e2]; exact X'.warmed.alike) hp hb k1 k2 k3 T' rfl X'
    exact ⟨t2, st t2 a1, b1⟩
  · obtain ⟨k1, k2, k3⟩ := vx_keep h0 e1 hS hAX hf hL hF
    obtain ⟨t2, a1, b1⟩ := kx E ce q u t T'.heap (locs ++ L) e1.symm (by rw [← e2]; exact X'.warmed.alike) hp hb k1 k2 k3 (by rw [e1]; exact hce) hcv hcl T' rfl X'
    exact ⟨t2, st.trans a1, b1⟩
theorem vx_calll {S SX : Type} {post : Int64 → S → Prop} {px : SX → Prop} {B : S → State → Prop} {BX : String → SX → State → Prop} {AX : Nat → Prop} (hr : vx_Run p l e R s m args below meth c H locs cells slots mc ms (F0 m pc ls st0) rest (va_Ql post B A1 a) (vx_X px BX AX) free) (hS : va_S A0 H0 H locs) (hA : ∀ q, q < H.size → A1 q → A0 q) (hf : ∀ q, free q → A0 q) (hAX : ∀ q, q < H.size → AX q → A0 q)
    (kx : ∀ (E : String) (ce : Cell) (q9 : Addr) (u : SX) (t : State) (H1 : Heap) (locs1 : List Loc), t.heap = H1 → s.vm.Alike t.vm → px u → BX E u t → H.size ≤ H1.size → (∀ q : Nat, q < H.size → ¬ AX q → H1[q]? = H[q]?) → va_S A0 H0 H1 locs1 → H1[q9]? = some ce → ce.vm = .none → s.vm.findClass E = some ce.cls → vx_W p l e R s m args below meth c H1 locs1 (cells + mc) (slots + ms) Q (F0 m pc ls rest) q9)
    (kk : ∀ (r : Int64) (u : S) (t : State) (H1 : Heap) (locs1 : List Loc), t.heap = H1 → s.vm.Alike t.vm → post r u → B u t → H.size ≤ H1.size → (∀ q : Nat, q < H.size → ¬ A1 q → H1[q]? = H[q]?) → va_S A0 H0 H1 locs1 → W p l e R s m args below meth c H1 locs1 (cells + mc) (slots + ms) Q (F0 m (pc + 3) ls (.long r :: rest))) : W p l e R s m args below meth c H locs cells slots Q (F0 m pc ls st0) := by
  intro T hT X
  rcases hr T hT X with ⟨v, st₀, t, T', L, h0, X', hL, e1, e2, ⟨⟨r, u, hv, hp, hb⟩, hF⟩, st⟩ | ⟨q, st₀, t, T', L, E, ce, h0, X', hL, e1, e2, ⟨u, hp, hb, hF⟩, hce, hcv, hcl, st⟩
  · cases hv
    obtain ⟨k1, k2, k3⟩ := vx_keep h0 e1 hS hA hf hL hF
    obtain ⟨t2, a1, b1⟩ := kk r u t T'.heap (locs ++ L) e1.symm (by rw [← e2]; exact X'.warmed.alike) hp hb k1 k2 k3 T' rfl X'
    exact ⟨t2, st t2 a1, b1⟩
  · obtain ⟨k1, k2, k3⟩ := vx_keep h0 e1 hS hAX hf hL hF
    obtain ⟨t2, a1, b1⟩ := kx E ce q u t T'.heap (locs ++ L) e1.symm (by rw [← e2]; exact X'.warmed.alike) hp hb k1 k2 k3 (by rw [e1]; exact hce) hcv hcl T' rfl X'
    exact ⟨t2, st.trans a1, b1⟩
theorem vx_callf {S SX : Type} {post : UInt32 → S → Prop} {px : SX → Prop} {B : S → State → Prop} {BX : String → SX → State → Prop} {AX : Nat → Prop} (hr : vx_Run p l e R s m args below meth c H locs cells slots mc ms (F0 m pc ls st0) rest (va_Qf post B A1 a) (vx_X px BX AX) free) (hS : va_S A0 H0 H locs) (hA : ∀ q, q < H.size → A1 q → A0 q) (hf : ∀ q, free q → A0 q) (hAX : ∀ q, q < H.size → AX q → A0 q)
    (kx : ∀ (E : String) (ce : Cell) (q9 : Addr) (u : SX) (t : State) (H1 : Heap) (locs1 : List Loc), t.heap = H1 → s.vm.Alike t.vm → px u → BX E u t → H.size ≤ H1.size → (∀ q : Nat, q < H.size → ¬ AX q → H1[q]? = H[q]?) → va_S A0 H0 H1 locs1 → H1[q9]? = some ce → ce.vm = .none → s.vm.findClass E = some ce.cls → vx_W p l e R s m args below meth c H1 locs1 (cells + mc) (slots + ms) Q (F0 m pc ls rest) q9)
    (kk : ∀ (r : UInt32) (u : S) (t : State) (H1 : Heap) (locs1 : List Loc), t.heap = H1 → s.vm.Alike t.vm → post r u → B u t → H.size ≤ H1.size → (∀ q : Nat, q < H.size → ¬ A1 q → H1[q]? = H[q]?) → va_S A0 H0 H1 locs1 → W p l e R s m args below meth c H1 locs1 (cells + mc) (slots + ms) Q (F0 m (pc + 3) ls (.float r :: rest))) : W p l e R s m args below meth c H locs cells slots Q (F0 m pc ls st0) := by
  intro T hT X
  rcases hr T hT X with ⟨v, st₀, t, T', L, h0, X', hL, e1, e2, ⟨⟨r, u, hv, hp, hb⟩, hF⟩, st⟩ | ⟨q, st₀, t, T', L, E, ce, h0, X', hL, e1, e2, ⟨u, hp, hb, hF⟩, hce, hcv, hcl, st⟩
  · cases hv
    obtain ⟨k1, k2, k3⟩ := vx_keep h0 e1 hS hA hf hL hF
    obtain ⟨t2, a1, b1⟩ := kk r u t T'.heap (locs ++ L) e1.symm (by rw [← e2]; exact X'.warmed.alike) hp hb k1 k2 k3 T' rfl X'
    exact ⟨t2, st t2 a1, b1⟩
  · obtain ⟨k1, k2, k3⟩ := vx_keep h0 e1 hS hAX hf hL hF
    obtain ⟨t2, a1, b1⟩ := kx E ce q u t T'.heap (locs ++ L) e1.symm (by rw [← e2]; exact X'.warmed.alike) hp hb k1 k2 k3 (by rw [e1]; exact hce) hcv hcl T' rfl X'
    exact ⟨t2, st.trans a1, b1⟩
theorem vx_calld {S SX : Type} {post : UInt64 → S → Prop} {px : SX → Prop} {B : S → State → Prop} {BX : String → SX → State → Prop} {AX : Nat → Prop} (hr : vx_Run p l e R s m args below meth c H locs cells slots mc ms (F0 m pc ls st0) rest (va_Qd post B A1 a) (vx_X px BX AX) free) (hS : va_S A0 H0 H locs) (hA : ∀ q, q < H.size → A1 q → A0 q) (hf : ∀ q, free q → A0 q) (hAX : ∀ q, q < H.size → AX q → A0 q)
    (kx : ∀ (E : String) (ce : Cell) (q9 : Addr) (u : SX) (t : State) (H1 : Heap) (locs1 : List Loc), t.heap = H1 → s.vm.Alike t.vm → px u → BX E u t → H.size ≤ H1.size → (∀ q : Nat, q < H.size → ¬ AX q → H1[q]? = H[q]?) → va_S A0 H0 H1 locs1 → H1[q9]? = some ce → ce.vm = .none → s.vm.findClass E = some ce.cls → vx_W p l e R s m args below meth c H1 locs1 (cells + mc) (slots + ms) Q (F0 m pc ls rest) q9)
    (kk : ∀ (r : UInt64) (u : S) (t : State) (H1 : Heap) (locs1 : List Loc), t.heap = H1 → s.vm.Alike t.vm → post r u → B u t → H.size ≤ H1.size → (∀ q : Nat, q < H.size → ¬ A1 q → H1[q]? = H[q]?) → va_S A0 H0 H1 locs1 → W p l e R s m args below meth c H1 locs1 (cells + mc) (slots + ms) Q (F0 m (pc + 3) ls (.double r :: rest))) : W p l e R s m args below meth c H locs cells slots Q (F0 m pc ls st0) := by
  intro T hT X
  rcases hr T hT X with ⟨v, st₀, t, T', L, h0, X', hL, e1, e2, ⟨⟨r, u, hv, hp, hb⟩, hF⟩, st⟩ | ⟨q, st₀, t, T', L, E, ce, h0, X', hL, e1, e2, ⟨u, hp, hb, hF⟩, hce, hcv, hcl, st⟩
  · cases hv
    obtain ⟨k1, k2, k3⟩ := vx_keep h0 e1 hS hA hf hL hF
    obtain ⟨t2, a1, b1⟩ := kk r u t T'.heap (locs ++ L) e1.symm (by rw [← e2]; exact X'.warmed.alike) hp hb k1 k2 k3 T' rfl X'
    exact ⟨t2, st t2 a1, b1⟩
  · obtain ⟨k1, k2, k3⟩ := vx_keep h0 e1 hS hAX hf hL hF
    obtain ⟨t2, a1, b1⟩ := kx E ce q u t T'.heap (locs ++ L) e1.symm (by rw [← e2]; exact X'.warmed.alike) hp hb k1 k2 k3 (by rw [e1]; exact hce) hcv hcl T' rfl X'
    exact ⟨t2, st.trans a1, b1⟩
theorem vx_callv {S SX : Type} {post : S → Prop} {px : SX → Prop} {B : S → State → Prop} {BX : String → SX → State → Prop} {AX : Nat → Prop} (hr : vx_Run p l e R s m args below meth c H locs cells slots mc ms (F0 m pc ls st0) rest (va_Qv post B A1 a) (vx_X px BX AX) free) (hS : va_S A0 H0 H locs) (hA : ∀ q, q < H.size → A1 q → A0 q) (hf : ∀ q, free q → A0 q) (hAX : ∀ q, q < H.size → AX q → A0 q)
    (kx : ∀ (E : String) (ce : Cell) (q9 : Addr) (u : SX) (t : State) (H1 : Heap) (locs1 : List Loc), t.heap = H1 → s.vm.Alike t.vm → px u → BX E u t → H.size ≤ H1.size → (∀ q : Nat, q < H.size → ¬ AX q → H1[q]? = H[q]?) → va_S A0 H0 H1 locs1 → H1[q9]? = some ce → ce.vm = .none → s.vm.findClass E = some ce.cls → vx_W p l e R s m args below meth c H1 locs1 (cells + mc) (slots + ms) Q (F0 m pc ls rest) q9)
    (kk : ∀ (u : S) (t : State) (H1 : Heap) (locs1 : List Loc), t.heap = H1 → s.vm.Alike t.vm → post u → B u t → H.size ≤ H1.size → (∀ q : Nat, q < H.size → ¬ A1 q → H1[q]? = H[q]?) → va_S A0 H0 H1 locs1 → W p l e R s m args below meth c H1 locs1 (cells + mc) (slots + ms) Q (F0 m (pc + 3) ls (rest))) : W p l e R s m args below meth c H locs cells slots Q (F0 m pc ls st0) := by
  intro T hT X
  rcases hr T hT X with ⟨v, st₀, t, T', L, h0, X', hL, e1, e2, ⟨⟨u, hv, hp, hb⟩, hF⟩, st⟩ | ⟨q, st₀, t, T', L, E, ce, h0, X', hL, e1, e2, ⟨u, hp, hb, hF⟩, hce, hcv, hcl, st⟩
  · cases hv
    obtain ⟨k1, k2, k3⟩ := vx_keep h0 e1 hS hA hf hL hF
    obtain ⟨t2, a1, b1⟩ := kk u t T'.heap (locs ++ L) e1.symm (by rw [← e2]; exact X'.warmed.alike) hp hb k1 k2 k3 T' rfl X'
    exact ⟨t2, st t2 a1, b1⟩
  · obtain ⟨k1, k2, k3⟩ := vx_keep h0 e1 hS hAX hf hL hF
    obtain ⟨t2, a1, b1⟩ := kx E ce q u t T'.heap (locs ++ L) e1.symm (by rw [← e2]; exact X'.warmed.alike) hp hb k1 k2 k3 (by rw [e1]; exact hce) hcv hcl T' rfl X'
    exact ⟨t2, st.trans a1, b1⟩
/-- caught by the row x of this method's table; the rows ahead don't take it -/
theorem vx_catch {own name : String} {E : String} {ce : Cell} {q : Addr} (hown : s.vm.findClass own = some m.cls) (pre : List ExceptionTableEntry) (x : ExceptionTableEntry) (suf : List ExceptionTableEntry) (hsplit : c.exceptionTable.toList = pre ++ x :: suf)
    (hpass : ∀ z ∈ pre, covers z pc = false ∨ (z.catchType ≠ 0 ∧ ∃ nm : String, (Cond.classLink own z.catchType nm).before args s = true ∧ va_Nc E nm s)) (hx : covers x pc = true) (h0 : x.catchType ≠ 0)
    (hlink : (Cond.classLink own x.catchType name).before args s = true) (hcast : (Cond.castable E name).before args s = true) (hcell : H[q]? = some ce) (hv : ce.vm = .none) (hcl : s.vm.findClass E = some ce.cls)
    (kk : W p l e R s m args below meth c H locs cells slots Q (F0 m x.handlerPc ls [.ref q])) : vx_W p l e R s m args below meth c H locs cells slots Q (F0 m pc ls rest) q := by
  intro T hT X
  have hpl : e.platform.magicAccessors = ({} : Platform).magicAccessors := by rw [X.admits.platform]
  obtain ⟨c3, c4, hc3, hc4, hasg⟩ := Cond.castable_spec hcast
  cases Option.some.inj (hc3.symm.trans hcl)
  obtain ⟨c5, hc5, hcl5⟩ := Cond.classLink_spec hown hlink e.platform hpl
  cases Option.some.inj (hc4.symm.trans hc5)
  obtain ⟨vm', X', st⟩ := X.thenCaughtThrough q (g := F0 m pc ls rest) rfl (Steps.refl _) (by rw [hT]; exact hcell) (by rw [hv]; rfl) (by obtain ⟨k9, h9, -⟩ := Vm.findClass_spec hcl; exact ⟨k9, h9⟩) pre x suf hsplit
    (fun z hz => by
      rcases hpass z hz with h | ⟨hz0, nm, hl1, hn1⟩
      · exact Or.inl h
      · obtain ⟨c6, hc6, hcl6⟩ := Cond.classLink_spec hown hl1 e.platform hpl
        obtain ⟨a8, b8, h1, h2, h3⟩ := hn1
        cases Option.some.inj (h1.symm.trans hcl)
        cases Option.some.inj (h2.symm.trans hc6)
        exact Or.inr ⟨hz0, _, hcl6, h3⟩) hx (Or.inr ⟨h0, c4, hcl5, hasg⟩)
  obtain ⟨t, a1, b1⟩ := kk (T.setVm vm') hT X'
  exact ⟨t, st.trans a1, b1⟩
end Rows
section Ends
variable {p : Program} {l : Launch} {e : Env} {R : Room} {s : State} {m : MethodId} {args : Array Value} {below : List Frame} {meth : Method} {c : Code} {H : Heap} {locs : List Loc} {cells slots : Nat} {Q : State → Prop}
variable {mc ms : Nat} {free : Addr → Prop} {A0 A1 : Nat → Prop} {H0 : Heap} {a : Array Value} {ls : Array Slot} {st0 rest : List Value}
variable {Qc : Array Value → State → Outcome → State → Prop} {XC : String → State → State → Prop}
/-- what a body that may throw owes at its end -/
def vx_MQ (below : List Frame) (Qc : Array Value → State → Outcome → State → Prop) (XC : String → State → State → Prop) (a : Array Value) (s : State) (mc ms : Nat) (free : Addr → Prop) : State → Prop := fun t =>
  ∃ o, t.status = .running ∧ Ended t below o ∧ vx_Q Qc XC mc ms free a s o t
theorem vx_ret {g : JFrame} {mc ms : Nat} (k : W p l e R s m args below meth c H locs cells slots (MQ below Qc args s mc ms free) g) : W p l e R s m args below meth c H locs cells slots (vx_MQ below Qc XC args s mc ms free) g := by
  intro T hT X
  obtain ⟨t, a1, o, b1, b2, b3, b4⟩ := k T hT X
  exact ⟨t, a1, o, b1, b2, Or.inl ⟨b3, b4⟩⟩
/-- not caught here: it goes on to the caller -/
theorem vx_widen {g : JFrame} {q : Addr} {k n : Nat} (h1 : cells ≤ k) (h2 : slots ≤ n) (kk : vx_W p l e R s m args below meth c H locs k n Q g q) : vx_W p l e R s m args below meth c H locs cells slots Q g q := fun T hT X => kk T hT (stand_widen X h1 h2)
theorem vx_out {pc : Nat} {E : String} {ce : Cell} {q : Addr} {mc ms : Nat} (hout : ∀ x ∈ c.exceptionTable.toList, covers x pc = false) (hlocks : meth.locks = false) (hcell : H[q]? = some ce) (hv : ce.vm = .none) (hcl : s.vm.findClass E = some ce.cls)
    (hx : ∀ t : State, t.heap = H → s.vm.Alike t.vm → XC E s t) (hf : ∀ z ∈ locs, free z.base) (hc : cells ≤ mc) (hs : slots ≤ ms) :
    vx_W p l e R s m args below meth c H locs cells slots (vx_MQ below Qc XC args s mc ms free) (F0 m pc ls rest) q := by
  intro T hT X
  obtain ⟨st1, hrun, hend, hW, hsm⟩ := X.leaveThrown q (g := F0 m pc ls rest) rfl rfl rfl hout hlocks
  have hcell9 : (T.setFrames (.throwing q :: below)).heap[q]? = some ce := by
    show T.heap[q]? = some ce
    rw [hT]; exact hcell
  exact ⟨_, st1, .threw q, hrun, hend, Or.inr ⟨q, rfl, E, ce, locs, hx _ hT hW.alike, hcell9, hv, hcl, hW, hsm.mono hc hs, hf⟩⟩
theorem vx_frame {U : State} {k n : Nat} (h : s.sameButNew ({ U with vm := s.vm } : State) locs k n) : s.heap.size ≤ U.heap.size ∧ ∀ q : Nat, q < s.heap.size → (∀ z ∈ locs, z.base ≠ q) → U.heap[q]? = s.heap[q]? := by
  obtain ⟨-, h2, -, -, -, h6⟩ := h
  refine ⟨h2, fun q hq hz => ?_⟩
  obtain ⟨c9, e1, e2, e3, e4⟩ := h6 q _ (Array.getElem?_eq_getElem hq)
  have hs : c9.slots = (s.heap[q]).slots := Array.ext_getElem? fun i => e4 i fun hm => hz _ hm rfl
  have h9 : c9 = s.heap[q] := by
    rw [hs] at e2
    exact e2
  have e5 : U.heap[q]? = some c9 := e1
  rw [e5, h9, Array.getElem?_eq_getElem hq]
/-- the words of a throw but the four that speak of the heap -/
def vx_no (w : Cond) : Bool := decide (w ≠ .isRef (.static Bundle.tN "UNASSIGNED_STACK" Bundle.steD)) && decide (w ≠ .isRef (.static Bundle.tN "SUPPRESSED_SENTINEL" Bundle.listD)) && decide (w ≠ .laysStatic Bundle.tN "UNASSIGNED_STACK" Bundle.steD) && decide (w ≠ .laysStatic Bundle.tN "SUPPRESSED_SENTINEL" Bundle.listD)
def vx_at0 (own : String) (ic : Nat) (X : String) (names : List String) : List Cond := (Bundle.ownAtoms0 own ic X names).filter vx_no
def vx_atS (own : String) (ic : Nat) (X : String) (names : List String) : List Cond := (Bundle.ownAtoms own ic X names).filter vx_no
/-- a word that the tables alone decide, or a good one -/
def vx_ot (w : Cond) : Bool := w.onTables || goodWord w
theorem vx_ot_at {args a' : Array Value} {s U : State} {w : Cond} (hW : s.WarmedH U.vm) (hvm : s.vm = U.vm) (hg : vx_ot w = true) (h : w.before args s = true) : w.before a' U = true := by
  simp only [vx_ot, Bool.or_eq_true] at hg
  rcases hg with hg | hg
  · exact va_tabs hg hvm h
  · exact word_at hW (good_of_word hg) h
/-- a list's words: the good ones out of the method's own list, the others by premises of their own -/
theorem vx_hat {args : Array Value} {s : State} {L B : List Cond} (h1 : ∀ w ∈ L.filter goodWord, w.before args s = true) (h2 : ∀ w ∈ L.filter (fun w => !goodWord w), w ∈ B) (h3 : ∀ w ∈ B, w.before args s = true) : ∀ w ∈ L, w.before args s = true := by
  intro w hw
  by_cases g : goodWord w = true
  · exact h1 w (List.mem_filter.mpr ⟨hw, g⟩)
  · refine h3 w (h2 w (List.mem_filter.mpr ⟨hw, ?_⟩))
    show (!goodWord w) = true
    cases hgw : goodWord w
    · rfl
    · exact absurd hgw g
theorem vx_c {args : Array Value} {s : State} {w : Cond} {B : List Cond} (h : w.before args s = true) (t : ∀ w ∈ B, w.before args s = true) : ∀ w' ∈ w :: B, w'.before args s = true := fun w' h' => (List.mem_cons.mp h').elim (fun e => by rw [e]; exact h) (t w')
theorem vx_n {args : Array Value} {s : State} : ∀ w ∈ ([] : List Cond), w.before args s = true := fun _ h => nomatch h
theorem vx_own {args : Array Value} {s : State} {L : List Cond} (h1 : ∀ w ∈ L.filter vx_no, w.before args s = true)
    (hU : (Cond.isRef (.static Bundle.tN "UNASSIGNED_STACK" Bundle.steD)).before args s = true) (hN : (Cond.isRef (.static Bundle.tN "SUPPRESSED_SENTINEL" Bundle.listD)).before args s = true)
    (lU : (Cond.laysStatic Bundle.tN "UNASSIGNED_STACK" Bundle.steD).before args s = true) (lN : (Cond.laysStatic Bundle.tN "SUPPRESSED_SENTINEL" Bundle.listD).before args s = true) : ∀ w ∈ L, w.before args s = true := by
  intro w hw
  by_cases e1 : w = .isRef (.static Bundle.tN "UNASSIGNED_STACK" Bundle.steD)
  · rw [e1]; exact hU
  · by_cases e2 : w = .isRef (.static Bundle.tN "SUPPRESSED_SENTINEL" Bundle.listD)
    · rw [e2]; exact hN
    · by_cases e3 : w = .laysStatic Bundle.tN "UNASSIGNED_STACK" Bundle.steD
      · rw [e3]; exact lU
      · by_cases e4 : w = .laysStatic Bundle.tN "SUPPRESSED_SENTINEL" Bundle.listD
        · rw [e4]; exact lN
        · exact h1 w (List.mem_filter.mpr ⟨hw, by unfold vx_no; rw [decide_eq_true e1, decide_eq_true e2, decide_eq_true e3, decide_eq_true e4]; rfl⟩)
/-- where a static field lies, its class's statics cell in H -/
def vx_L (C n d : String) (A : Nat → Prop) (U : State) (H : Heap) : Prop := ∃ (c : ClassId) (k : Class) (i : Nat) (f : Field) (a : Nat) (cell : Cell), U.vm.findClass C = some c ∧ U.fieldFound? C n d = some (c, k, i, f) ∧ f.isStatic = true ∧ k.statics = some a ∧ H[a]? = some cell ∧ cell.vm.isStatics = true ∧ cell.cls = c ∧ f.slot < cell.slots.size ∧ k.staticTypes[f.slot]? = some f.type ∧ ¬ A a
theorem vx_L.moved {C n d : String} {A : Nat → Prop} {u U : State} {H : Heap} (hvm : u.vm.Alike U.vm) (h : vx_L C n d A u H) : vx_L C n d A U H := by
  obtain ⟨c, k, i, f, a, cell, h1, h2, h3, h4, h5, h6, h7, h8, h9, h10⟩ := h
  obtain ⟨k', hi', he⟩ := State.fieldFound?_setVm hvm h2
  exact ⟨c, k', i, f, a, cell, by rw [hvm.findClass]; exact h1, hi', h3, by rw [he]; exact h4, h5, h6, h7, h8, by rw [he]; exact h9, h10⟩
theorem vx_L.kept {C n d : String} {A : Nat → Prop} {U : State} {H H1 : Heap} (h : vx_L C n d A U H) (hq : ∀ a : Nat, a < H.size → ¬ A a → H1[a]? = H[a]?) : vx_L C n d A U H1 := by
  obtain ⟨c, k, i, f, a, cell, h1, h2, h3, h4, h5, h6, h7, h8, h9, h10⟩ := h
  exact ⟨c, k, i, f, a, cell, h1, h2, h3, h4, by rw [hq a (Array.getElem?_eq_some_iff.mp h5).1 h10]; exact h5, h6, h7, h8, h9, h10⟩
theorem vx_L.narrow {C n d : String} {A B : Nat → Prop} {U : State} {H : Heap} (h : vx_L C n d A U H) (hAB : ∀ q, B q → A q) : vx_L C n d B U H := by
  obtain ⟨c, k, i, f, a, cell, h1, h2, h3, h4, h5, h6, h7, h8, h9, h10⟩ := h
  exact ⟨c, k, i, f, a, cell, h1, h2, h3, h4, h5, h6, h7, h8, h9, fun z => h10 (hAB _ z)⟩
theorem vx_L.word {C n d : String} {A : Nat → Prop} {s : State} {args : Array Value} (h : vx_L C n d A s s.heap) : (Cond.laysStatic C n d).before args s = true := by
  obtain ⟨c, k, i, f, a, cell, h1, h2, h3, h4, h5, h6, h7, h8, h9, -⟩ := h
  show (Cond.laysStatic C n d).holds args s none s [] = true
  exact Cond.laysStatic_of h1 h2 h3 h4 h5 h6 h7 h8 h9
/-- .. and what it holds: null or some reference -/
def vx_Zq (C n d : String) (A : Nat → Prop) (U : State) (H : Heap) : Prop := va_Zq C n d A U H ∧ vx_L C n d A U H
theorem vx_Zq.moved {C n d : String} {A : Nat → Prop} {u U : State} {H : Heap} (hvm : u.vm.Alike U.vm) (h : vx_Zq C n d A u H) : vx_Zq C n d A U H := ⟨va_Zq.moved hvm h.1, vx_L.moved hvm h.2⟩
theorem vx_Zq.kept {C n d : String} {A : Nat → Prop} {U : State} {H H1 : Heap} (h : vx_Zq C n d A U H) (hq : ∀ a : Nat, a < H.size → ¬ A a → H1[a]? = H[a]?) : vx_Zq C n d A U H1 := ⟨va_Zq.kept h.1 hq, vx_L.kept h.2 hq⟩
theorem vx_Zq.narrow {C n d : String} {A B : Nat → Prop} {U : State} {H : Heap} (h : vx_Zq C n d A U H) (hAB : ∀ q, B q → A q) : vx_Zq C n d B U H := ⟨va_Zq.narrow h.1 hAB, vx_L.narrow h.2 hAB⟩
theorem vx_Zqof {args : Array Value} {s : State} {C n d : String} {A : Nat → Prop} (hl : (Cond.laysStatic C n d).before args s = true) (hini : (Cond.initialized C).before args s = true) (h : (Cond.isRef (.static C n d)).before args s = true) (hA : ∀ a : Nat, a < s.heap.size → ¬ A a) : vx_Zq C n d A s s.heap := by
  refine ⟨va_Zqof hl hini h hA, ?_⟩
  obtain ⟨c, k, i, f, a, cell, h1, h2, h3, h4, h5, h6, h7, h8, h9⟩ := Cond.laysStatic_spec hl
  exact ⟨c, k, i, f, a, cell, h1, h2, h3, h4, h5, h6, h7, h8, h9, hA a (Array.getElem?_eq_some_iff.mp h5).1⟩
theorem vx_isRef {C n d : String} {v : Value} {A : Nat → Prop} {s : State} {args : Array Value} (h : va_Z C n d v A s s.heap) (hv : v.isRef = true) : (Cond.isRef (.static C n d)).before args s = true := by
  obtain ⟨cf, kf, fi, f, a, cell, h1, h2, h3, h4, h5, h6, h7, -⟩ := h
  have he : (Term.static C n d).eval args s none [] s = some v := by
    simp [Term.eval, State.fieldNamed?, h1, h2, h4, h5, h6, h7]
  simp only [Cond.before, Cond.holds, Cond.value, he]
  cases v <;> simp_all [Value.isRef]
theorem vx_isRefq {C n d : String} {A : Nat → Prop} {s : State} {args : Array Value} (h : va_Zq C n d A s s.heap) : (Cond.isRef (.static C n d)).before args s = true := by
  rcases h with h | ⟨t, h⟩
  · exact vx_isRef h rfl
  · exact vx_isRef h rfl
/-- the same frame, seen from here: as if the method were called anew in this heap -/
theorem vx_rebase {T : State} (X : Stand p l e R s m args below meth c T locs cells slots) {R' : Room} (hf : R'.frames ≤ R.frames) (hl : R'.locals ≤ R.locals) (hc : cells + R'.cells ≤ R.cells) (hs : slots + R'.slots ≤ R.slots) :
    Stand p l e R' ((T.setVm s.vm).setFrames (.invoking m args :: below)) m args below meth c T [] 0 0 := by
  have htop : (T.setVm s.vm).topJava?.isSome := X.here.top
  have hF : ((T.setVm s.vm).setFrames (.invoking m args :: below)).frames = .invoking m args :: below := State.frames_setFrames _ (State.cur_lt_of_top htop)
  obtain ⟨g₀, hg0⟩ := Option.isSome_iff_exists.mp htop
  obtain ⟨r, hr⟩ := State.topJava?_eq_some.mp hg0
  have hl9 : e.platform.stackLimits (T.setVm s.vm).me = e.platform.stackLimits s.me := X.limits
  have hb9 : (T.setVm s.vm).me.stackBytes = s.me.stackBytes := X.bytes
  refine ⟨X.admits, X.cas, X.clock, hF, ?_, X.hears, X.method, X.code, X.here, X.tail, X.warmed, ?_, ?_, ?_⟩
  · have h := X.room
    have hU : ((T.setVm s.vm).setFrames (.invoking m args :: below)).localsInUse = s.localsInUse := by
      rw [State.localsInUse_invoking hF (meth := meth) (c := c) X.method X.code, State.localsInUse_invoking X.frames X.method X.code]
    simp only [State.hasRoom, Bool.and_eq_true, decide_eq_true_eq] at h ⊢
    obtain ⟨⟨⟨⟨h1, h2, h3, h4, h5, h6⟩, h7⟩, h8⟩, h9⟩ := h
    rw [X.frames, List.length_cons] at h2 h3
    have q1 := X.heapSize
    have q2 := X.used
    simp only [hF, hU, List.length_cons, State.stackLimits_setFrames, State.stackBytes_setFrames, hl9, hb9]
    refine ⟨⟨⟨⟨by omega, by omega, by omega, by omega, by omega, h6⟩, ?_⟩, ?_⟩, X.book⟩
    · show T.heap.size + R'.cells ≤ e.platform.maxCells
      omega
    · show T.slotsUsed + R'.slots ≤ e.platform.maxSlots
      omega
  · rw [State.stackLimits_setFrames]; rfl
  · rw [State.stackBytes_setFrames]; rfl
  · refine ⟨?_, Nat.le_refl _, Nat.le_refl _, ?_, ?_, fun a c9 h9 => ⟨c9, h9, rfl, rfl, fun _ _ => rfl⟩⟩
    · obtain ⟨t, ht, -⟩ := State.frames_cons hr
      show T.setVm s.vm = { ((T.setVm s.vm).setFrames (.invoking m args :: below)).setFrames (T.setVm s.vm).frames with heap := T.heap, slotsUsed := T.slotsUsed }
      rw [State.setFrames_setFrames, State.setFrames_self ht]
      rfl
    · show T.slotsUsed = T.slotsUsed + ((T.heap.toList.drop T.heap.size).map (·.slots.size)).sum
      rw [List.drop_eq_nil_of_le (Nat.le_of_eq Array.length_toList)]
      rfl
    · show ((T.heap.toList.drop T.heap.size).map (·.slots.size)).sum ≤ 0
      rw [List.drop_eq_nil_of_le (Nat.le_of_eq Array.length_toList)]
      exact Nat.le_refl _
/-- 'throw new E()': new; dup; invokespecial; athrow -/
theorem vx_throw0 {cc : ByteArray} {pc : Nat} (hexec : p.tables.exec = Jvm.exec) (hb : c.code = cc) (hl : l.stackTraces = false) {own cls : String} {names : List String} {ik ic mc ms : Nat} {A : Nat → Prop}
    (hown : s.vm.findClass own = some m.cls) (hcls : Bundle.fit cls = true) (hnames : ∀ n ∈ names, Bundle.fit n = true)
    (hk : (Cond.classLink own ik cls).before args s = true) (hini : (Cond.initialized cls).before args s = true) (hat : ∀ w ∈ vx_at0 own ic cls names, w.before args s = true)
    (hgood : ∀ w ∈ Cond.classLink own ik cls :: Cond.initialized cls :: vx_at0 own ic cls names, vx_ot w = true)
    (hU : vx_Zq Bundle.tN "UNASSIGNED_STACK" Bundle.steD A s s.heap) (hN : vx_Zq Bundle.tN "SUPPRESSED_SENTINEL" Bundle.listD A s s.heap) (hS : va_S A s.heap H locs) (hsize : ls.size = c.maxLocals)
    (d0 : decode cc pc = .ok (.new ik, 3)) (d3 : decode cc (pc + 3) = .ok (.dup, 1)) (d4 : decode cc (pc + 4) = .ok (.invokespecial ic, 3)) (d7 : decode cc (pc + 7) = .ok (.athrow, 1))
    (hout : ∀ x ∈ c.exceptionTable.toList, covers x (pc + 7) = false)
    (hRframes : names.length + 3 < R.frames) (hRlocals : (rest.map fun v => v.category).sum + (13 * (names.length + 1) + 42) ≤ R.locals) (hRcells : cells + 1 ≤ R.cells) (hRslots : slots + 6 ≤ R.slots) (hlocks : meth.locks = false)
    (hx : ∀ t : State, s.vm.Alike t.vm → H.size ≤ t.heap.size → (∀ q : Nat, q < H.size → t.heap[q]? = H[q]?) → XC cls s t)
    (hf : ∀ z ∈ locs, free z.base) (hc : cells + 1 ≤ mc) (hs : slots + 6 ≤ ms) :
    W p l e R s m args below meth c H locs cells slots (vx_MQ below Qc XC args s mc ms free) (F0 m pc ls rest) := by
  intro T hT X
  have htr : e.platform.stackTraces = false := (show e.platform.stackTraces = l.stackTraces by rw [X.admits.platform]).trans hl
  have Y := vx_rebase X (R' := { frames := R.frames, locals := R.locals, cells := 1, slots := 6 }) (Nat.le_refl _) (Nat.le_refl _) hRcells hRslots
  obtain ⟨s', hA⟩ : ∃ z, z = (T.setVm s.vm).setFrames (.invoking m args :: below) := ⟨_, rfl⟩
  rw [← hA] at Y
  have hvm : s'.vm = s.vm := by rw [hA]; rfl
  have hhp : s'.heap = H := by rw [hA]; exact hT
  have hW0 : s.WarmedH s'.vm := by rw [hvm]; exact State.WarmedH.refl s
  have hat' : ∀ w ∈ vx_at0 own ic cls names, w.before args s' = true := fun w hw => vx_ot_at hW0 hvm.symm (hgood w (List.mem_cons_of_mem _ (List.mem_cons_of_mem _ hw))) (hat w hw)
  have hk' : (Cond.classLink own ik cls).before args s' = true := vx_ot_at hW0 hvm.symm (hgood _ List.mem_cons_self) hk
  have hini' : (Cond.initialized cls).before args s' = true := vx_ot_at hW0 hvm.symm (hgood _ (List.mem_cons_of_mem _ List.mem_cons_self)) hini
  have hU' : vx_Zq Bundle.tN "UNASSIGNED_STACK" Bundle.steD A s' s'.heap := by rw [hhp]; exact vx_Zq.moved hW0.alike (hU.kept hS.2.1)
  have hN' : vx_Zq Bundle.tN "SUPPRESSED_SENTINEL" Bundle.listD A s' s'.heap := by rw [hhp]; exact vx_Zq.moved hW0.alike (hN.kept hS.2.1)
  have h : ∀ w ∈ Bundle.ownAtoms0 own ic cls names, w.before args s' = true := vx_own hat' (vx_isRefq hU'.1) (vx_isRefq hN'.1) hU'.2.word hN'.2.word
  have hown' : s'.vm.findClass own = some m.cls := by rw [hvm]; exact hown
  have hins : (Cond.instantiable cls 6).before args s' = true := h _ (by simp [Bundle.ownAtoms0])
  obtain ⟨vm₁, cX, kX, hfX, hkX, -, -, X₁, st1⟩ := Y.newCold hexec (own := own) (C := cls) (index := ik) (n := 6) hown' hk' hins hini'
    (g := F0 m pc ls rest) rfl (by rw [hb]; exact d0) (Nat.le_refl _) (Nat.le_refl _)
  generalize hT1 : (T.setVm vm₁).pushCell { cls := cX, slots := kX.instanceTypes.map defaultValue, vm := .none } = T1 at X₁ st1
  have hcat : (Value.ref T.heap.size).category = 1 := rfl
  have hcellA : T1.heap[T.heap.size]? = some (freshCell cX kX) := by rw [← hT1]; exact State.heap_pushCell_size _ _
  have d3' : decode c.code (pc + 3) = .ok (.dup, 1) := by rw [hb]; exact d3
  obtain ⟨U, hsteps, hrun, hend, hW, hsame, ce, hce, hO⟩ := X₁.ctorThrow0 hexec htr (own := own) (cls := cls) (names := names) (ic := ic) hown' hcls hnames h (fun x hx => nomatch hx) hfX hkX hcellA (by rw [hhp, hT]; exact Nat.le_refl _)
    (g := { method := m, pc := pc + 4, locals := ls, stack := .ref T.heap.size :: .ref T.heap.size :: rest, locked := none }) rfl hsize rfl rfl (rest := rest) rfl
    (by rw [hb]; exact d4) (by rw [hb]; exact d7) hout hRframes (by simp only [List.map_cons, List.sum_cons, hcat]; omega) hlocks
  obtain ⟨f1, f2⟩ := vx_frame hsame
  rw [hhp] at f1 f2
  have hWs : s.WarmedH U.vm := State.WarmedH.trans hW0 hW
  have hcl : s.vm.findClass cls = some ce.cls := by
    have h9 := hO.cls
    rw [hvm] at h9
    exact h9
  have hall : s.sameButNew ({ U with vm := s.vm } : State) locs mc ms := by
    subst hA
    obtain ⟨e1, e2⟩ := hsame
    rw [State.setFrames_setFrames] at e1
    have h2 : (T.setVm s.vm).sameButNew ({ U with vm := s.vm } : State) [] (0 + 1) (0 + 6) := ⟨e1, e2⟩
    have h3 := X.same.trans h2
    rw [List.append_nil] at h3
    exact h3.mono hc hs
  refine ⟨U, ?_, .threw T.heap.size, hrun, hend, Or.inr ⟨T.heap.size, rfl, cls, ce, locs, hx U hWs.alike f1 (fun q hq => f2 q hq (fun z hz => nomatch hz)), hce, hO.vm, hcl, hWs, hall, hf⟩⟩
  refine st1 _ ?_
  show Steps p.tables e below (T1.setTop { method := m, pc := pc + 3, locals := ls, stack := .ref T.heap.size :: rest, locked := none }) _
  jvm_step X₁.here [X₁.here.top, hexec, d3', Value.category]
  exact hsteps
/-- 'throw new E("text")': new; dup; ldc; invokespecial; athrow -/
theorem vx_throwS {cc : ByteArray} {pc : Nat} (hexec : p.tables.exec = Jvm.exec) (hb : c.code = cc) (hl : l.stackTraces = false) {own cls text : String} {names : List String} {ik is ic mc ms sa : Nat} {A : Nat → Prop}
    (hown : s.vm.findClass own = some m.cls) (hcls : Bundle.fit cls = true) (hnames : ∀ n ∈ names, Bundle.fit n = true)
    (hk : (Cond.classLink own ik cls).before args s = true) (hini : (Cond.initialized cls).before args s = true) (hstr : vk_R own is text sa s) (hat : ∀ w ∈ vx_atS own ic cls names, w.before args s = true)
    (hgood : ∀ w ∈ Cond.classLink own ik cls :: Cond.initialized cls :: vx_atS own ic cls names, vx_ot w = true)
    (hU : vx_Zq Bundle.tN "UNASSIGNED_STACK" Bundle.steD A s s.heap) (hN : vx_Zq Bundle.tN "SUPPRESSED_SENTINEL" Bundle.listD A s s.heap) (hS : va_S A s.heap H locs) (hsize : ls.size = c.maxLocals)
    (d0 : decode cc pc = .ok (.new ik, 3)) (d3 : decode cc (pc + 3) = .ok (.dup, 1)) (d4 : decode cc (pc + 4) = .ok (.ldc is, 2)) (d6 : decode cc (pc + 6) = .ok (.invokespecial ic, 3)) (d9 : decode cc (pc + 9) = .ok (.athrow, 1))
    (hout : ∀ x ∈ c.exceptionTable.toList, covers x (pc + 9) = false)
    (hRframes : names.length + 3 < R.frames) (hRlocals : (rest.map fun v => v.category).sum + (13 * (names.length + 1) + 43) ≤ R.locals) (hRcells : cells + 1 ≤ R.cells) (hRslots : slots + 6 ≤ R.slots) (hlocks : meth.locks = false)
    (hx : ∀ t : State, s.vm.Alike t.vm → H.size ≤ t.heap.size → (∀ q : Nat, q < H.size → t.heap[q]? = H[q]?) → XC cls s t)
    (hf : ∀ z ∈ locs, free z.base) (hc : cells + 1 ≤ mc) (hs : slots + 6 ≤ ms) :
    W p l e R s m args below meth c H locs cells slots (vx_MQ below Qc XC args s mc ms free) (F0 m pc ls rest) := by
  intro T hT X
  have htr : e.platform.stackTraces = false := (show e.platform.stackTraces = l.stackTraces by rw [X.admits.platform]).trans hl
  have Y := vx_rebase X (R' := { frames := R.frames, locals := R.locals, cells := 1, slots := 6 }) (Nat.le_refl _) (Nat.le_refl _) hRcells hRslots
  obtain ⟨s', hA⟩ : ∃ z, z = (T.setVm s.vm).setFrames (.invoking m args :: below) := ⟨_, rfl⟩
  rw [← hA] at Y
  have hvm : s'.vm = s.vm := by rw [hA]; rfl
  have hhp : s'.heap = H := by rw [hA]; exact hT
  have hW0 : s.WarmedH s'.vm := by rw [hvm]; exact State.WarmedH.refl s
  have hat' : ∀ w ∈ vx_atS own ic cls names, w.before args s' = true := fun w hw => vx_ot_at hW0 hvm.symm (hgood w (List.mem_cons_of_mem _ (List.mem_cons_of_mem _ hw))) (hat w hw)
  have hk' : (Cond.classLink own ik cls).before args s' = true := vx_ot_at hW0 hvm.symm (hgood _ List.mem_cons_self) hk
  have hini' : (Cond.initialized cls).before args s' = true := vx_ot_at hW0 hvm.symm (hgood _ (List.mem_cons_of_mem _ List.mem_cons_self)) hini
  have hU' : vx_Zq Bundle.tN "UNASSIGNED_STACK" Bundle.steD A s' s'.heap := by rw [hhp]; exact vx_Zq.moved hW0.alike (hU.kept hS.2.1)
  have hN' : vx_Zq Bundle.tN "SUPPRESSED_SENTINEL" Bundle.listD A s' s'.heap := by rw [hhp]; exact vx_Zq.moved hW0.alike (hN.kept hS.2.1)
  have h : ∀ w ∈ Bundle.ownAtoms own ic cls names, w.before args s' = true := vx_own hat' (vx_isRefq hU'.1) (vx_isRefq hN'.1) hU'.2.word hN'.2.word
  have hown' : s'.vm.findClass own = some m.cls := by rw [hvm]; exact hown
  have hins : (Cond.instantiable cls 6).before args s' = true := h _ (by simp [Bundle.ownAtoms])
  obtain ⟨vm₁, cX, kX, hfX, hkX, -, -, X₁, st1⟩ := Y.newCold hexec (own := own) (C := cls) (index := ik) (n := 6) hown' hk' hins hini'
    (g := F0 m pc ls rest) rfl (by rw [hb]; exact d0) (Nat.le_refl _) (Nat.le_refl _)
  generalize hT1 : (T.setVm vm₁).pushCell { cls := cX, slots := kX.instanceTypes.map defaultValue, vm := .none } = T1 at X₁ st1
  have hcat : (Value.ref T.heap.size).category = 1 := rfl
  have hcellA : T1.heap[T.heap.size]? = some (freshCell cX kX) := by rw [← hT1]; exact State.heap_pushCell_size _ _
  have d3' : decode c.code (pc + 3) = .ok (.dup, 1) := by rw [hb]; exact d3
  have d4' : decode c.code (pc + 4) = .ok (.ldc is, 2) := by rw [hb]; exact d4
  have hstr' : vk_R own is text sa s' := vk_R.warm hW0 hstr
  obtain ⟨U, hsteps, hrun, hend, hW, hsame, ce, hce, hO⟩ := X₁.ctorThrowS hexec htr (own := own) (cls := cls) (names := names) (ic := ic) hown' hcls hnames h (fun x hx => nomatch hx) hfX hkX hcellA (by rw [hhp, hT]; exact Nat.le_refl _) (msg := .ref sa) rfl
    (g := { method := m, pc := pc + 6, locals := ls, stack := .ref sa :: .ref T.heap.size :: .ref T.heap.size :: rest, locked := none }) rfl hsize rfl rfl (rest := rest) rfl
    (by rw [hb]; exact d6) (by rw [hb]; exact d9) hout hRframes (by simp only [List.map_cons, List.sum_cons, hcat]; omega) hlocks
  obtain ⟨f1, f2⟩ := vx_frame hsame
  rw [hhp] at f1 f2
  have hWs : s.WarmedH U.vm := State.WarmedH.trans hW0 hW
  have hcl : s.vm.findClass cls = some ce.cls := by
    have h9 := hO.cls
    rw [hvm] at h9
    exact h9
  have hall : s.sameButNew ({ U with vm := s.vm } : State) locs mc ms := by
    subst hA
    obtain ⟨e1, e2⟩ := hsame
    rw [State.setFrames_setFrames] at e1
    have h2 : (T.setVm s.vm).sameButNew ({ U with vm := s.vm } : State) [] (0 + 1) (0 + 6) := ⟨e1, e2⟩
    have h3 := X.same.trans h2
    rw [List.append_nil] at h3
    exact h3.mono hc hs
  refine ⟨U, ?_, .threw T.heap.size, hrun, hend, Or.inr ⟨T.heap.size, rfl, cls, ce, locs, hx U hWs.alike f1 (fun q hq => f2 q hq (fun z hz => nomatch hz)), hce, hO.vm, hcl, hWs, hall, hf⟩⟩
  refine st1 _ ?_
  show Steps p.tables e below (T1.setTop { method := m, pc := pc + 3, locals := ls, stack := .ref T.heap.size :: rest, locked := none }) _
  jvm_step X₁.here [X₁.here.top, hexec, d3', Value.category]
  exact X₁.ldcString hexec (own := own) (text := text) (index := is) (a := sa) hown' hstr'.1 hstr'.2
    (g := { method := m, pc := pc + 4, locals := ls, stack := .ref T.heap.size :: .ref T.heap.size :: rest, locked := none }) rfl d4' _ hsteps
/-- 'throw new E("text")', the text by a wide index -/
theorem vx_throwSW {cc : ByteArray} {pc : Nat} (hexec : p.tables.exec = Jvm.exec) (hb : c.code = cc) (hl : l.stackTraces = false) {own cls text : String} {names : List String} {ik is ic mc ms sa : Nat} {A : Nat → Prop}
    (hown : s.vm.findClass own = some m.cls) (hcls : Bundle.fit cls = true) (hnames : ∀ n ∈ names, Bundle.fit n = true)
    (hk : (Cond.classLink own ik cls).before args s = true) (hini : (Cond.initialized cls).before args s = true) (hstr : vk_R own is text sa s) (hat : ∀ w ∈ vx_atS own ic cls names, w.before args s = true)
    (hgood : ∀ w ∈ Cond.classLink own ik cls :: Cond.initialized cls :: vx_atS own ic cls names, vx_ot w = true)
    (hU : vx_Zq Bundle.tN "UNASSIGNED_STACK" Bundle.steD A s s.heap) (hN : vx_Zq Bundle.tN "SUPPRESSED_SENTINEL" Bundle.listD A s s.heap) (hS : va_S A s.heap H locs) (hsize : ls.size = c.maxLocals)
    (d0 : decode cc pc = .ok (.new ik, 3)) (d3 : decode cc (pc + 3) = .ok (.dup, 1)) (d4 : decode cc (pc + 4) = .ok (.ldc_w is, 3)) (d7 : decode cc (pc + 7) = .ok (.invokespecial ic, 3)) (d10 : decode cc (pc + 10) = .ok (.athrow, 1))
    (hout : ∀ x ∈ c.exceptionTable.toList, covers x (pc + 10) = false)
    (hRframes : names.length + 3 < R.frames) (hRlocals : (rest.map fun v => v.category).sum + (13 * (names.length + 1) + 43) ≤ R.locals) (hRcells : cells + 1 ≤ R.cells) (hRslots : slots + 6 ≤ R.slots) (hlocks : meth.locks = false)
    (hx : ∀ t : State, s.vm.Alike t.vm → H.size ≤ t.heap.size → (∀ q : Nat, q < H.size → t.heap[q]? = H[q]?) → XC cls s t)
    (hf : ∀ z ∈ locs, free z.base) (hc : cells + 1 ≤ mc) (hs : slots + 6 ≤ ms) :
    W p l e R s m args below meth c H locs cells slots (vx_MQ below Qc XC args s mc ms free) (F0 m pc ls rest) := by
  intro T hT X
  have htr : e.platform.stackTraces = false := (show e.platform.stackTraces = l.stackTraces by rw [X.admits.platform]).trans hl
  have Y := vx_rebase X (R' := { frames := R.frames, locals := R.locals, cells := 1, slots := 6 }) (Nat.le_refl _) (Nat.le_refl _) hRcells hRslots
  obtain ⟨s', hA⟩ : ∃ z, z = (T.setVm s.vm).setFrames (.invoking m args :: below) := ⟨_, rfl⟩
  rw [← hA] at Y
  have hvm : s'.vm = s.vm := by rw [hA]; rfl
  have hhp : s'.heap = H := by rw [hA]; exact hT
  have hW0 : s.WarmedH s'.vm := by rw [hvm]; exact State.WarmedH.refl s
  have hat' : ∀ w ∈ vx_atS own ic cls names, w.before args s' = true := fun w hw => vx_ot_at hW0 hvm.symm (hgood w (List.mem_cons_of_mem _ (List.mem_cons_of_mem _ hw))) (hat w hw)
  have hk' : (Cond.classLink own ik cls).before args s' = true := vx_ot_at hW0 hvm.symm (hgood _ List.mem_cons_self) hk
  have hini' : (Cond.initialized cls).before args s' = true := vx_ot_at hW0 hvm.symm (hgood _ (List.mem_cons_of_mem _ List.mem_cons_self)) hini
  have hU' : vx_Zq Bundle.tN "UNASSIGNED_STACK" Bundle.steD A s' s'.heap := by rw [hhp]; exact vx_Zq.moved hW0.alike (hU.kept hS.2.1)
  have hN' : vx_Zq Bundle.tN "SUPPRESSED_SENTINEL" Bundle.listD A s' s'.heap := by rw [hhp]; exact vx_Zq.moved hW0.alike (hN.kept hS.2.1)
  have h : ∀ w ∈ Bundle.ownAtoms own ic cls names, w.before args s' = true := vx_own hat' (vx_isRefq hU'.1) (vx_isRefq hN'.1) hU'.2.word hN'.2.word
  have hown' : s'.vm.findClass own = some m.cls := by rw [hvm]; exact hown
  have hins : (Cond.instantiable cls 6).before args s' = true := h _ (by simp [Bundle.ownAtoms])
  obtain ⟨vm₁, cX, kX, hfX, hkX, -, -, X₁, st1⟩ := Y.newCold hexec (own := own) (C := cls) (index := ik) (n := 6) hown' hk' hins hini'
    (g := F0 m pc ls rest) rfl (by rw [hb]; exact d0) (Nat.le_refl _) (Nat.le_refl _)
  generalize hT1 : (T.setVm vm₁).pushCell { cls := cX, slots := kX.instanceTypes.map defaultValue, vm := .none } = T1 at X₁ st1
  have hcat : (Value.ref T.heap.size).category = 1 := rfl
  have hcellA : T1.heap[T.heap.size]? = some (freshCell cX kX) := by rw [← hT1]; exact State.heap_pushCell_size _ _
  have d3' : decode c.code (pc + 3) = .ok (.dup, 1) := by rw [hb]; exact d3
  have d4' : decode c.code (pc + 4) = .ok (.ldc_w is, 3) := by rw [hb]; exact d4
  have hstr' : vk_R own is text sa s' := vk_R.warm hW0 hstr
  obtain ⟨U, hsteps, hrun, hend, hW, hsame, ce, hce, hO⟩ := X₁.ctorThrowS hexec htr (own := own) (cls := cls) (names := names) (ic := ic) hown' hcls hnames h (fun x hx => nomatch hx) hfX hkX hcellA (by rw [hhp, hT]; exact Nat.le_refl _) (msg := .ref sa) rfl
    (g := { method := m, pc := pc + 7, locals := ls, stack := .ref sa :: .ref T.heap.size :: .ref T.heap.size :: rest, locked := none }) rfl hsize rfl rfl (rest := rest) rfl
    (by rw [hb]; exact d7) (by rw [hb]; exact d10) hout hRframes (by simp only [List.map_cons, List.sum_cons, hcat]; omega) hlocks
  obtain ⟨f1, f2⟩ := vx_frame hsame
  rw [hhp] at f1 f2
  have hWs : s.WarmedH U.vm := State.WarmedH.trans hW0 hW
  have hcl : s.vm.findClass cls = some ce.cls := by
    have h9 := hO.cls
    rw [hvm] at h9
    exact h9
  have hall : s.sameButNew ({ U with vm := s.vm } : State) locs mc ms := by
    subst hA
    obtain ⟨e1, e2⟩ := hsame
    rw [State.setFrames_setFrames] at e1
    have h2 : (T.setVm s.vm).sameButNew ({ U with vm := s.vm } : State) [] (0 + 1) (0 + 6) := ⟨e1, e2⟩
    have h3 := X.same.trans h2
    rw [List.append_nil] at h3
    exact h3.mono hc hs
  refine ⟨U, ?_, .threw T.heap.size, hrun, hend, Or.inr ⟨T.heap.size, rfl, cls, ce, locs, hx U hWs.alike f1 (fun q hq => f2 q hq (fun z hz => nomatch hz)), hce, hO.vm, hcl, hWs, hall, hf⟩⟩
  refine st1 _ ?_
  show Steps p.tables e below (T1.setTop { method := m, pc := pc + 3, locals := ls, stack := .ref T.heap.size :: rest, locked := none }) _
  jvm_step X₁.here [X₁.here.top, hexec, d3', Value.category]
  exact X₁.ldcStringW hexec (own := own) (text := text) (index := is) (a := sa) hown' hstr'.1 hstr'.2
    (g := { method := m, pc := pc + 4, locals := ls, stack := .ref T.heap.size :: .ref T.heap.size :: rest, locked := none }) rfl d4' _ hsteps
end Ends
section Bodies
variable {l : Launch}
theorem vx_ofW {y : MethodName} {ws ws' : List Cond} {rm : Room} {Pc : Array Value → State → Prop} {Qc : Array Value → State → Outcome → State → Prop} {XC : String → State → State → Prop} {mc ms : Nat} {free : Addr → Prop} {cc : ByteArray} {maxL : Nat} {ret : Option FieldType}
    (hy : plainName y.cls = true) (hw : ws = Cond.code y cc maxL ret :: ws')
    (body : ∀ p e s m args below meth c s₁, BodyLoose p l y (headSpec ws rm) cc maxL ret e s m args below meth c s₁ → c.maxLocals = maxL → (∀ x ∈ c.exceptionTable.toList, False) → Pc args s →
      W p l e (headSpec ws rm).room s m args below meth c s.heap [] 0 0 (vx_MQ below Qc XC args s mc ms free) (entryFrame m args maxL)) : vx_Met l y ws rm Pc Qc XC mc ms free := by
  refine MetFree.of_bodyS (code := cc) (maxLocals := maxL) (ret := ret) hy ?_ ?_
  · intro args s m h hn
    obtain ⟨meth, c, h1, h2, h3, h4, h5, h6, -, -⟩ := Cond.code_spec hn (atoms_spec (ws := ws) h _ (by rw [hw]; exact List.mem_cons_self))
    exact ⟨meth, c, h1, h2, h3, h4, h5, h6⟩
  · intro p e s m args below meth c s₁ B hml hP _
    have hh0 : s₁.heap = s.heap := by rw [B.state]; rfl
    have ht : ∀ x ∈ c.exceptionTable.toList, False := by
      obtain ⟨meth9, c9, h1, h2, -, -, -, -, h7, -⟩ := Cond.code_spec B.named (atoms_spec (ws := ws) B.pre _ (by rw [hw]; exact List.mem_cons_self))
      cases Option.some.inj (h1.symm.trans B.method)
      cases Option.some.inj (h2.symm.trans (Stand.of_body B).code)
      intro x hx
      rw [Array.isEmpty_iff.mp h7] at hx
      cases hx
    obtain ⟨t, a1, o, b1, b2, b3⟩ := body p e s m args below meth c s₁ B hml ht hP s₁ hh0 (Stand.of_body B)
    exact ⟨t, o, a1, b1, b2, b3⟩
/-- the table of a body with handlers -/
theorem vx_table {p : Program} {x y : MethodName} {S : Spec} {cc bytes : ByteArray} {maxL maxL' : Nat} {ret ret' : Option FieldType} {e : Env} {s s₁ : State} {m : MethodId} {args : Array Value} {below : List Frame} {meth : Method} {c : Code} {hh : List (Nat × Nat × Nat × Nat)}
    (B : BodyLoose p l y S cc maxL ret e s m args below meth c s₁) (h : (Cond.codeWith y bytes maxL' ret' hh).before args s = true) : c.exceptionTable.toList = tableOf hh := by
  obtain ⟨m9, meth9, c9, hn9, h1, h2, -, -, h6, -⟩ := Cond.codeWith_spec h
  cases Option.some.inj (hn9.symm.trans B.named)
  cases Option.some.inj (h1.symm.trans B.method)
  cases Option.some.inj (h2.symm.trans (Stand.of_body B).code)
  rw [← h6, table_eq]
end Bodies
end VXA
/-! ===== END ===== -/
/-! ===== BEGIN a static call of a method with an exception table ===== -/
section VXS
variable {p : Program} {l : Launch} {e : Env} {R : Room} {s : State} {m : MethodId} {args : Array Value} {below : List Frame} {meth : Method} {c : Code} {T : State} {H : Heap} {locs : List Loc} {cells slots : Nat}
abbrev vx_CSW (R : Room) (s : State) (args : Array Value) (own : String) (index : Nat) (y : MethodName) (bytes : ByteArray) (maxL : Nat) (ret : Option FieldType) (hh : List (Nat × Nat × Nat × Nat)) (ws : List Cond) (rm : Room) (mc ms n : Nat) : Prop :=
  (rm.cells = mc ∧ rm.slots = ms ∧ rm.frames + 1 ≤ R.frames ∧ 8 + (maxL + 11) + rm.locals ≤ R.locals ∧ (∀ w ∈ ws, ∀ (a' : Array Value) (U : State), s.WarmedH U.vm → w.before a' U = true) ∧ Cond.codeWith y bytes maxL ret hh ∈ ws) ∧
  (Cond.codeWith y bytes maxL ret hh).before args s = true ∧ (Cond.initialized y.cls).before args s = true ∧ (y.cls ≠ "java/lang/invoke/MethodHandle" ∧ y.cls ≠ "java/lang/invoke/VarHandle") ∧
  (∀ sig, parseMethodDescriptor y.desc = some sig → n = sig.parameters.length) ∧ (Cond.methodLink own index y).before args s = true ∧ (Cond.static y).before args s = true
theorem vx_cwSW {own : String} {index maxL mc ms : Nat} {y : MethodName} {bytes : ByteArray} {ret : Option FieldType} {hh : List (Nat × Nat × Nat × Nat)} {Ts ws ws' : List Cond} {rm : Room} (n : Nat) (ht : ∀ w ∈ Ts, w.before args s = true) (hT : GoodIn Ts (va_wsS own index y ws)) (hw : ws = Cond.codeWith y bytes maxL ret hh :: ws') (hrc : rm.cells = mc) (hrs : rm.slots = ms)
    (hd : y.cls ≠ "java/lang/invoke/MethodHandle" ∧ y.cls ≠ "java/lang/invoke/VarHandle" ∧ (parseMethodDescriptor y.desc).map (fun d => d.parameters.length) = some n) (hR : rm.frames + 1 ≤ R.frames ∧ 8 + (maxL + 11) + rm.locals ≤ R.locals) :
    vx_CSW R s args own index y bytes maxL ret hh ws rm mc ms n := by
  have ok : ∀ w ∈ va_wsS own index y ws, w.before args s = true := fun w h => ht w (hT w h).1
  have hG : GoodIn Ts ws := fun w h => hT w (by unfold va_wsS; exact List.mem_append_right _ h)
  have hc : Cond.codeWith y bytes maxL ret hh ∈ ws := by rw [hw]; exact List.mem_cons_self
  refine ⟨⟨hrc, hrs, hR.1, hR.2, pay_in ht hG, hc⟩, ht _ (hG _ hc).1, ok _ (by simp [va_wsS]), ⟨hd.1, hd.2.1⟩, fun sig h => ?_, ok _ (by simp [va_wsS]), ok _ (by simp [va_wsS])⟩
  have h2 := hd.2.2
  rw [h] at h2
  exact (Option.some.inj h2).symm
theorem vx_callSW (X : Stand p l e R s m args below meth c T locs cells slots) (hexec : p.tables.exec = Jvm.exec) {own : String} {index : Nat} {y : MethodName} {bytes : ByteArray} {maxL : Nat} {ret : Option FieldType} {hh : List (Nat × Nat × Nat × Nat)}
    (hown : s.vm.findClass own = some m.cls) (hlink : (Cond.methodLink own index y).before args s = true) (hstat : (Cond.static y).before args s = true) (hinit : (Cond.initialized y.cls).before args s = true)
    (hcode : (Cond.codeWith y bytes maxL ret hh).before args s = true) (hy : y.cls ≠ "java/lang/invoke/MethodHandle" ∧ y.cls ≠ "java/lang/invoke/VarHandle")
    {W9 : Nat} {Pre : Pt → Array Value → Prop} {Post : Pt → Array Value → Option Value → Pt → Prop} (hK : Back l R p e below s args y 3 W9 Pre Post)
    {g : JFrame} (hg : g.method = m) (hsize : g.locals.size = c.maxLocals) {argsL rest : List Value} (hlen : ∀ sig, parseMethodDescriptor y.desc = some sig → argsL.length = sig.parameters.length)
    (hstack : g.stack = argsL.reverse ++ rest) (hW : 2 * g.monitorRoom + (rest.map fun v => v.category).sum ≤ W9) (hdg : decode c.code g.pc = .ok (.invokestatic index, 3))
    (hpre : ∀ vm₁, s.WarmedH vm₁ → Pre ⟨T.setVm vm₁, locs, cells, slots⟩ argsL.toArray) :
    ∃ (v : Option Value) (vm₁ : Vm) (B : Pt), s.WarmedH vm₁ ∧ Stand p l e R s m args below meth c B.U B.locs B.cells B.slots ∧ Post ⟨T.setVm vm₁, locs, cells, slots⟩ argsL.toArray v B ∧
      ∀ target, Steps p.tables e below (B.U.setTop { g with pc := g.pc + 3, stack := v.toList ++ rest }) target → Steps p.tables e below (T.setTop g) target := by
  obtain ⟨mk, methM, cM, hnamed, hmethM, -, -, -, -, -, -, hsigM⟩ := Cond.codeWith_spec hcode
  have hstatic : methM.isStatic = true := Cond.static_spec hnamed hmethM hstat
  obtain ⟨kP, hkP, -⟩ := className_of_methodNamed hnamed
  have hinitP : kP.init = .initialized := Cond.initialized_spec (findClass_of_methodNamed hnamed) hkP hinit
  obtain ⟨vm₁, X₁, hstep₁⟩ := X.invokestatic hexec hown hlink hnamed hmethM hstatic hkP hinitP hy (g := g) hg (argsL := argsL) (rest := rest) (hlen _ hsigM) hstack hdg
  obtain ⟨v, B, X', hpost, hsteps⟩ := hK m meth c ⟨T.setVm vm₁, locs, cells, slots⟩ { g with stack := rest } (.invokestatic index) mk argsL.toArray X₁ hg hsize hdg hW (X₁.named hnamed) (hpre vm₁ X₁.warmed)
  exact ⟨v, vm₁, B, X₁.warmed, X', hpost, fun target h => hstep₁ _ fun acts => by rw [doInvoke_state]; exact hsteps.trans h⟩
theorem vx_runSW {y : MethodName} {bytes cc : ByteArray} {maxL nL mc ms n index : Nat} {ret : Option FieldType} {hh : List (Nat × Nat × Nat × Nat)} {ws : List Cond} {rm : Room} {Pc : Array Value → State → Prop} {Qc : Array Value → State → Outcome → State → Prop} {free : Addr → Prop} {Ts : List Cond} {own : String} {As rest : List Value} {g : JFrame}
    (S : CallFix p m c cc nL s args Ts own) (hM : Met l y ws rm Pc Qc mc ms free) (cw : vx_CSW R s args own index y bytes maxL ret hh ws rm mc ms n) (hp : PreS s H Pc As)
    (hg : g.method = m) (hn : As.length = n) (hsize : g.locals.size = nL) (hstack : g.stack = As.reverse ++ rest) (hW : 2 * g.monitorRoom + (rest.map fun v => v.category).sum ≤ 8) (hdg : decode cc g.pc = .ok (.invokestatic index, 3)) (hf : cells + mc ≤ R.cells ∧ slots + ms ≤ R.slots) :
    va_Run p l e R s m args below meth c H locs cells slots mc ms g rest (Qc As.toArray) (free) := by
  obtain ⟨⟨hrc, hrs, hfr, hlo, hws, hcw⟩, hcode, hini, hy, hlen, hl, hstt⟩ := cw
  have hK : Back l R p e below s args y 3 8 (PreOf R mc ms Pc) (PostOf Qc mc ms free) := va_backW (hh := hh) (bytes := bytes) (maxL := maxL) (ret := ret) hM hp.1 hrc hrs hfr hlo hws hcw (fun a' U hW => word_at hW (Or.inl (by first | rfl | simp [Cond.onTables, Cond.keeps, Cond.steady])) hini)
  obtain ⟨hx, hb, hml, ho, -⟩ := S
  intro T hT X
  obtain ⟨v, vm₁, ⟨U', l2, c2, s2⟩, hW₁, X', ⟨g', mk, t, L, e1, e2, hq, h1, hL, h2, h3⟩, st⟩ := vx_callSW X hx (hh := hh) (bytes := bytes) (maxL := maxL) (ret := ret) ho hl hstt hini hcode hy hK hg (hsize.trans hml.symm) (argsL := As) (rest := rest) (fun sig h => hn.trans (hlen sig h)) hstack hW (by rw [hb]; exact hdg)
    (fun vm₁ hW₁ => ⟨hf.1, hf.2, hp.2 (T.setVm vm₁) hT hW₁⟩)
  dsimp only [Pt.U, Pt.locs, Pt.cells, Pt.slots] at X' e1 e2 h1 h2 h3 st
  subst h1; subst h2; subst h3
  exact ⟨v, (T.setVm vm₁).calling g' mk As.toArray, t, U', L, hT, X', hL, e1, e2, hq, st⟩
/-- not caught here, past rows that name other classes: it goes on to the caller -/
theorem vx_outP {p : Program} {l : Launch} {e : Env} {R : Room} {s : State} {m : MethodId} {args : Array Value} {below : List Frame} {meth : Method} {c : Code} {H : Heap} {locs : List Loc} {cells slots : Nat} {free : Addr → Prop} {ls : Array Slot} {rest : List Value} {Qc : Array Value → State → Outcome → State → Prop} {XC : String → State → State → Prop}
    {pc : Nat} {own E : String} {ce : Cell} {q : Addr} {mc ms : Nat} (hown : s.vm.findClass own = some m.cls) (hlocks : meth.locks = false)
    (hpass : ∀ z ∈ c.exceptionTable.toList, covers z pc = false ∨ (z.catchType ≠ 0 ∧ ∃ nm : String, (Cond.classLink own z.catchType nm).before args s = true ∧ va_Nc E nm s)) (hcell : H[q]? = some ce) (hv : ce.vm = .none) (hcl : s.vm.findClass E = some ce.cls)
    (hx : ∀ t : State, t.heap = H → s.vm.Alike t.vm → XC E s t) (hf : ∀ z ∈ locs, free z.base) (hc : cells ≤ mc) (hs : slots ≤ ms) :
    vx_W p l e R s m args below meth c H locs cells slots (vx_MQ below Qc XC args s mc ms free) (F0 m pc ls rest) q := by
  intro T hT X
  have hpl : e.platform.magicAccessors = ({} : Platform).magicAccessors := by rw [X.admits.platform]
  obtain ⟨vm', hW', X', st⟩ := X.outThrough hlocks q (g := F0 m pc ls rest) rfl rfl rfl (cell := ce) (by rw [hT]; exact hcell) (by rw [hv]; rfl)
    (by obtain ⟨k9, h9, -⟩ := Vm.findClass_spec hcl; exact ⟨k9, h9⟩) (fun z hz => by
      rcases hpass z hz with h | ⟨hz0, nm, hl1, hn1⟩
      · exact Or.inl h
      · obtain ⟨c6, hc6, hcl6⟩ := Cond.classLink_spec hown hl1 e.platform hpl
        obtain ⟨a8, b8, h1, h2, h3⟩ := hn1
        cases Option.some.inj (h1.symm.trans hcl)
        cases Option.some.inj (h2.symm.trans hc6)
        exact Or.inr ⟨hz0, _, hcl6, h3⟩)
  obtain ⟨g₀, hfr⟩ := X'.frames_eq
  have hcell9 : ((T.setVm vm').setFrames (.throwing q :: below)).heap[q]? = some ce := by
    show T.heap[q]? = some ce
    rw [hT]; exact hcell
  have hend : Ended ((T.setVm vm').setFrames (.throwing q :: below)) below (.threw q) := State.frames_setFrames _ (State.cur_lt_of_frames hfr)
  refine ⟨(T.setVm vm').setFrames (.throwing q :: below), ?_, .threw q, X'.here.running, hend, Or.inr ⟨q, rfl, E, ce, locs, hx _ hT (X'.ends _).1.alike, hcell9, hv, hcl, (X'.ends _).1, (X'.ends _).2.mono hc hs, hf⟩⟩
  rw [X.pushThrowing_eq]
  exact st
/-- a thing of a world lies in the heap -/
theorem vx_lt {D : va_G} {cl : List vw_C} {ws : va_W} {H1 : Heap} (h : va_P D cl ws H1) {k : Nat} {q : Nat × va_E} (hk : ws[k]? = some q) : q.1 < H1.size := (h k q hk).lt
end VXS
/-! ===== END ===== -/
/-! ===== BEGIN methods with a table of their own: called by a name, returning or throwing ===== -/
section VXH
/-! vx_backW, vx_callVX, vx_callSX, vx_callVW, vx_runVW, vx_runVX, vx_runSX, vx_ofWH follow the same proofs as their sisters above (Free/Laws.lean, Shelf42/LK1.lean); vx_outP calls Shelf42/NT130.lean (outThrough). -/
section
variable {l : Launch} {R : Room} {p : Program} {e : Env} {below : List Frame} {s : State} {sargs : Array Value} {y : MethodName} {len W9 : Nat}
theorem vx_backW {ws : List Cond} {rm : Room} {Pc : Array Value → State → Prop} {Qc : Array Value → State → Outcome → State → Prop} {XC : String → State → State → Prop} {mc ms : Nat} {free : Addr → Prop} {bytes : ByteArray} {maxL : Nat} {ret : Option FieldType} {hh : List (Nat × Nat × Nat × Nat)}
    (hM : vx_Met l y ws rm Pc Qc XC mc ms free) (hblind : FrameBlind Pc) (hrc : rm.cells = mc) (hrs : rm.slots = ms)
    (hframes : rm.frames + 1 ≤ R.frames) (hlocals : W9 + (maxL + 11) + rm.locals ≤ R.locals)
    (hws : ∀ w ∈ ws, ∀ a' U, s.WarmedH U.vm → w.before a' U = true) (hcode : Cond.codeWith y bytes maxL ret hh ∈ ws) (hinit : ∀ a' U, s.WarmedH U.vm → (Cond.initialized y.cls).before a' U = true) :
    vx_Back l R p e below s sargs y len W9 (PreOf R mc ms Pc) (PostOf Qc mc ms free) (vx_Post XC mc ms free) := by
  intro m meth c A g ig mk a X hg hsize hdg hW hn hp
  have h1 : (headSpec ws rm).pre.before a A.U = true := atoms_intro fun w hw => hws w hw _ _ X.warmed
  have h2 : (Cond.codeWith y bytes maxL ret hh).before a A.U = true := hws _ hcode _ _ X.warmed
  have h3 : (Cond.initialized y.cls).before a A.U = true := hinit _ _ X.warmed
  have h4 : A.cells + (headSpec ws rm).room.cells ≤ R.cells := by rw [show (headSpec ws rm).room.cells = mc from hrc]; exact hp.1
  have h5 : A.slots + (headSpec ws rm).room.slots ≤ R.slots := by rw [show (headSpec ws rm).room.slots = ms from hrs]; exact hp.2.1
  have hPc : Pc a (A.U.calling g mk a) := hblind _ _ _ _ hp.2.2
  obtain ⟨U, Ls, c0, s0⟩ := A
  dsimp only [Pt.U, Pt.locs, Pt.cells, Pt.slots] at h1 h2 h3 h4 h5 X hn hPc ⊢
  obtain ⟨m9, methY, cY, hn9, hmY, hcY, -, hlY, -⟩ := Cond.codeWith_spec h2
  cases Option.some.inj (hn9.symm.trans hn)
  obtain ⟨kY, hkY, -⟩ := className_of_methodNamed hn
  have hinitY : kY.init = .initialized := Cond.initialized_spec (findClass_of_methodNamed hn) hkY h3
  have h : At U g.method c below := by rw [hg]; exact X.here
  have hlocals9 : W9 + (maxL + 11) + (headSpec ws rm).room.locals ≤ R.locals := hlocals
  have happ : (headSpec ws rm).appliesLoose y e.platform (U.calling g mk a) = true :=
    Spec.appliesLoose_calling (g := g) h hdg hn hkY hinitY
      (X.room_calling (g := g) (R' := (headSpec ws rm).room) hsize hmY hcY hframes (by rw [hlY]; omega) h4 h5) h1
  obtain ⟨mid, hmid⟩ := h.above
  have hfr : (U.setTop g).frames = (.java g :: mid) ++ below := by rw [State.frames_setTop' g h.top, hmid]; rfl
  obtain ⟨o, s₂, hsteps, -, hend, hq⟩ := Steps.callFree hM p X.admits X.cas X.clock (acts := []) hfr happ hPc trivial
  have hq' : vx_Q Qc XC mc ms free a (U.calling g mk a) o s₂ := hq
  rw [State.frames_setTop' g h.top] at hend
  obtain ⟨g₀, hg0⟩ := Option.isSome_iff_exists.mp h.top
  obtain ⟨r, hr⟩ := State.topJava?_eq_some.mp hg0
  have hr' : (({ U with heap := s₂.heap, slotsUsed := s₂.slotsUsed } : State).setVm s₂.vm).frames = .java g₀ :: r := hr
  rcases hq' with ⟨hqc, L, hfe, hL⟩ | ⟨q, rfl, E, ce, L, hx, hce, hcv, hcl, hW₂, hsm, hL⟩
  · obtain ⟨⟨v, rfl⟩, hW₂, e2, q2, q3, q4, q5, q6⟩ := id hfe
    have e3 : s₂ = ({ (U.calling g mk a).setFrames s₂.frames with heap := s₂.heap, slotsUsed := s₂.slotsUsed } : State).setVm s₂.vm := by
      have : s₂ = ({ s₂ with vm := (U.calling g mk a).vm } : State).setVm s₂.vm := rfl
      rw [e2] at this
      exact this
    obtain ⟨c₂, i₂, len₂, hc₂, hd₂, hf₂⟩ := hend
    have hW' : U.WarmedH s₂.vm := hW₂
    have hcc : c₂ = c := by
      have h1 : s₂.code? g.method = U.code? g.method := by
        rw [State.code?_eq, State.code?_eq, hW'.alike.method?]
      exact Option.some.inj (hc₂.symm.trans (h1.trans h.code))
    subst hcc
    have hlen : len₂ = len := by rw [hdg] at hd₂; cases hd₂; rfl
    subst hlen
    have hs₂ : s₂ = (({ U with heap := s₂.heap, slotsUsed := s₂.slotsUsed } : State).setVm s₂.vm).setTop { g with pc := g.pc + len₂, stack := v.toList ++ g.stack } := by
      refine e3.trans ?_
      rw [hf₂, State.calling_eq h.top, State.setFrames_setFrames, State.setTop_of_frames _ hr', hr]
      rfl
    have hsame : U.sameButNew ({ U with heap := s₂.heap, slotsUsed := s₂.slotsUsed } : State) L mc ms := by
      refine ⟨?_, q2, q3, q4, q5, q6⟩
      obtain ⟨t, ht, -⟩ := State.frames_cons hr
      show ({ U with heap := s₂.heap, slotsUsed := s₂.slotsUsed } : State) = { U.setFrames U.frames with heap := s₂.heap, slotsUsed := s₂.slotsUsed }
      rw [State.setFrames_self ht]
    subst hg
    refine Or.inl ⟨v, ⟨(({ U with heap := s₂.heap, slotsUsed := s₂.slotsUsed } : State).setVm s₂.vm), Ls ++ L, c0 + mc, s0 + ms⟩,
      ⟨X.admits, X.cas, X.clock, X.frames, X.room, X.hears, X.method, X.code, (X.here.setHeapUsed s₂.heap s₂.slotsUsed).setVm hW'.alike, X.tail, State.WarmedH.trans X.warmed hW', X.limits, X.bytes, X.same.trans (hsame.setVm s.vm)⟩,
      ⟨g, mk, s₂, L, rfl, rfl, hqc, rfl, hL, rfl, rfl⟩, ?_⟩
    show Steps p.tables e below _ ((({ U with heap := s₂.heap, slotsUsed := s₂.slotsUsed } : State).setVm s₂.vm).setTop { g with pc := g.pc + len₂, stack := v.toList ++ g.stack })
    rw [← hs₂]
    exact hsteps
  · obtain ⟨e2, q2, q3, q4, q5, q6⟩ := id hsm
    have e3 : s₂ = ({ (U.calling g mk a).setFrames s₂.frames with heap := s₂.heap, slotsUsed := s₂.slotsUsed } : State).setVm s₂.vm := by
      have : s₂ = ({ s₂ with vm := (U.calling g mk a).vm } : State).setVm s₂.vm := rfl
      rw [e2] at this
      exact this
    have hf₂ : s₂.frames = .throwing q :: .java g :: U.frames.tail := hend
    have hW' : U.WarmedH s₂.vm := hW₂
    have hs₂ : s₂ = ((({ U with heap := s₂.heap, slotsUsed := s₂.slotsUsed } : State).setVm s₂.vm).setTop g).pushFrame (.throwing q) := by
      refine e3.trans ?_
      rw [hf₂, State.calling_eq h.top, State.setFrames_setFrames, State.pushFrame, State.frames_setTop _ hr', State.setTop_of_frames _ hr', State.setFrames_setFrames, hr]
      rfl
    have hsame : U.sameButNew ({ U with heap := s₂.heap, slotsUsed := s₂.slotsUsed } : State) L mc ms := by
      refine ⟨?_, q2, q3, q4, q5, q6⟩
      obtain ⟨t, ht, -⟩ := State.frames_cons hr
      show ({ U with heap := s₂.heap, slotsUsed := s₂.slotsUsed } : State) = { U.setFrames U.frames with heap := s₂.heap, slotsUsed := s₂.slotsUsed }
      rw [State.setFrames_self ht]
    subst hg
    refine Or.inr ⟨q, ⟨(({ U with heap := s₂.heap, slotsUsed := s₂.slotsUsed } : State).setVm s₂.vm), Ls ++ L, c0 + mc, s0 + ms⟩,
      ⟨X.admits, X.cas, X.clock, X.frames, X.room, X.hears, X.method, X.code, (X.here.setHeapUsed s₂.heap s₂.slotsUsed).setVm hW'.alike, X.tail, State.WarmedH.trans X.warmed hW', X.limits, X.bytes, X.same.trans (hsame.setVm s.vm)⟩,
      ⟨g, mk, s₂, L, E, ce, rfl, rfl, hx, hce, hcv, hcl, rfl, hL, rfl, rfl⟩, ?_⟩
    show Steps p.tables e below _ (((({ U with heap := s₂.heap, slotsUsed := s₂.slotsUsed } : State).setVm s₂.vm).setTop g).pushFrame (.throwing q))
    rw [← hs₂]
    exact hsteps
end
variable {p : Program} {l : Launch} {e : Env} {R : Room} {s : State} {m : MethodId} {args : Array Value} {below : List Frame} {meth : Method} {c : Code} {T : State} {H : Heap} {locs : List Loc} {cells slots : Nat}
theorem vx_callVX (X : Stand p l e R s m args below meth c T locs cells slots) (hexec : p.tables.exec = Jvm.exec) {own C : String} {index : Nat} {y : MethodName} {bytes : ByteArray} {maxL : Nat} {ret : Option FieldType} {hh : List (Nat × Nat × Nat × Nat)}
    (hown : s.vm.findClass own = some m.cls) (hlink : (Cond.methodLink own index y).before args s = true) (hinst : (Cond.instanceMethod y).before args s = true) (hsel : (Cond.selects C y y).before args s = true)
    (hcode : (Cond.codeWith y bytes maxL ret hh).before args s = true) (hy : y.cls ≠ "java/lang/invoke/MethodHandle" ∧ y.cls ≠ "java/lang/invoke/VarHandle")
    {W9 : Nat} {Pre : Pt → Array Value → Prop} {Post : Pt → Array Value → Option Value → Pt → Prop} {PostX : Pt → Array Value → Addr → Pt → Prop} (hK : vx_Back l R p e below s args y 3 W9 Pre Post PostX)
    {b : Addr} {cellB : Cell} (hcell : T.heap[b]? = some cellB) (hobj : cellB.vm.isStatics = false) (hcls : s.vm.findClass C = some cellB.cls)
    {g : JFrame} (hg : g.method = m) (hsize : g.locals.size = c.maxLocals) {argsL rest : List Value} (hlen : ∀ sig, parseMethodDescriptor y.desc = some sig → argsL.length = sig.parameters.length)
    (hstack : g.stack = argsL.reverse ++ .ref b :: rest) (hW : 2 * g.monitorRoom + (rest.map fun v => v.category).sum ≤ W9) (hdg : decode c.code g.pc = .ok (.invokevirtual index, 3))
    (hpre : ∀ vm₁, s.WarmedH vm₁ → Pre ⟨T.setVm vm₁, locs, cells, slots⟩ (Value.ref b :: argsL).toArray) :
    (∃ (v : Option Value) (vm₁ : Vm) (B : Pt), s.WarmedH vm₁ ∧ Stand p l e R s m args below meth c B.U B.locs B.cells B.slots ∧ Post ⟨T.setVm vm₁, locs, cells, slots⟩ (Value.ref b :: argsL).toArray v B ∧
      ∀ target, Steps p.tables e below (B.U.setTop { g with pc := g.pc + 3, stack := v.toList ++ rest }) target → Steps p.tables e below (T.setTop g) target) ∨
    (∃ (q : Addr) (vm₁ : Vm) (B : Pt), s.WarmedH vm₁ ∧ Stand p l e R s m args below meth c B.U B.locs B.cells B.slots ∧ PostX ⟨T.setVm vm₁, locs, cells, slots⟩ (Value.ref b :: argsL).toArray q B ∧
      Steps p.tables e below (T.setTop g) ((B.U.setTop { g with stack := rest }).pushFrame (.throwing q))) := by
  obtain ⟨mk, methM, hnamed, hmethM, hstM, habM⟩ := Cond.instanceMethod_spec hinst
  obtain ⟨m8, methM', cM, hn8, hmethM', -, -, -, -, -, -, hsigM⟩ := Cond.codeWith_spec hcode
  cases Option.some.inj (hn8.symm.trans hnamed)
  cases hmethM.symm.trans hmethM'
  obtain ⟨c2, r2, m2, q1, q2, q3, q4, kP, hkP, hkPi⟩ := Cond.selects_spec hsel
  cases hcls.symm.trans q1
  cases (State.methodFound?_of_named hnamed hy).symm.trans q2
  cases hnamed.symm.trans q3
  have hselP : selectMethod e.platform s.vm cellB.cls mk = .method mk := by rw [Launch.admits_selectMethod X.admits]; exact q4
  obtain ⟨vm₁, X₁, hstep₁⟩ := X.invokevirtual hexec hown hlink hnamed hmethM hstM hkP hkPi hy (a := b) (cell := cellB) hcell
    (fun z h => by rw [h] at hobj; cases hobj) hselP hmethM habM hkP hkPi (g := g) hg (argsL := argsL) (rest := rest) (hlen _ hsigM) hstack hdg
  rcases hK m meth c ⟨T.setVm vm₁, locs, cells, slots⟩ { g with stack := rest } (.invokevirtual index) mk (Value.ref b :: argsL).toArray X₁ hg hsize hdg hW (X₁.named hnamed) (hpre vm₁ X₁.warmed) with ⟨v, B, X', hpost, hsteps⟩ | ⟨q, B, X', hpost, hsteps⟩
  · exact Or.inl ⟨v, vm₁, B, X₁.warmed, X', hpost, fun target h => hstep₁ _ fun acts => by rw [doInvoke_state]; exact hsteps.trans h⟩
  · exact Or.inr ⟨q, vm₁, B, X₁.warmed, X', hpost, hstep₁ _ fun acts => by rw [doInvoke_state]; exact hsteps⟩
theorem vx_callSX (X : Stand p l e R s m args below meth c T locs cells slots) (hexec : p.tables.exec = Jvm.exec) {own : String} {index : Nat} {y : MethodName} {bytes : ByteArray} {maxL : Nat} {ret : Option FieldType} {hh : List (Nat × Nat × Nat × Nat)}
    (hown : s.vm.findClass own = some m.cls) (hlink : (Cond.methodLink own index y).before args s = true) (hstat : (Cond.static y).before args s = true) (hinit : (Cond.initialized y.cls).before args s = true)
    (hcode : (Cond.codeWith y bytes maxL ret hh).before args s = true) (hy : y.cls ≠ "java/lang/invoke/MethodHandle" ∧ y.cls ≠ "java/lang/invoke/VarHandle")
    {W9 : Nat} {Pre : Pt → Array Value → Prop} {Post : Pt → Array Value → Option Value → Pt → Prop} {PostX : Pt → Array Value → Addr → Pt → Prop} (hK : vx_Back l R p e below s args y 3 W9 Pre Post PostX)
    {g : JFrame} (hg : g.method = m) (hsize : g.locals.size = c.maxLocals) {argsL rest : List Value} (hlen : ∀ sig, parseMethodDescriptor y.desc = some sig → argsL.length = sig.parameters.length)
    (hstack : g.stack = argsL.reverse ++ rest) (hW : 2 * g.monitorRoom + (rest.map fun v => v.category).sum ≤ W9) (hdg : decode c.code g.pc = .ok (.invokestatic index, 3))
    (hpre : ∀ vm₁, s.WarmedH vm₁ → Pre ⟨T.setVm vm₁, locs, cells, slots⟩ argsL.toArray) :
    (∃ (v : Option Value) (vm₁ : Vm) (B : Pt), s.WarmedH vm₁ ∧ Stand p l e R s m args below meth c B.U B.locs B.cells B.slots ∧ Post ⟨T.setVm vm₁, locs, cells, slots⟩ argsL.toArray v B ∧
      ∀ target, Steps p.tables e below (B.U.setTop { g with pc := g.pc + 3, stack := v.toList ++ rest }) target → Steps p.tables e below (T.setTop g) target) ∨
    (∃ (q : Addr) (vm₁ : Vm) (B : Pt), s.WarmedH vm₁ ∧ Stand p l e R s m args below meth c B.U B.locs B.cells B.slots ∧ PostX ⟨T.setVm vm₁, locs, cells, slots⟩ argsL.toArray q B ∧
      Steps p.tables e below (T.setTop g) ((B.U.setTop { g with stack := rest }).pushFrame (.throwing q))) := by
  obtain ⟨mk, methM, cM, hnamed, hmethM, -, -, -, -, -, -, hsigM⟩ := Cond.codeWith_spec hcode
  have hstatic : methM.isStatic = true := Cond.static_spec hnamed hmethM hstat
  obtain ⟨kP, hkP, -⟩ := className_of_methodNamed hnamed
  have hinitP : kP.init = .initialized := Cond.initialized_spec (findClass_of_methodNamed hnamed) hkP hinit
  obtain ⟨vm₁, X₁, hstep₁⟩ := X.invokestatic hexec hown hlink hnamed hmethM hstatic hkP hinitP hy (g := g) hg (argsL := argsL) (rest := rest) (hlen _ hsigM) hstack hdg
  rcases hK m meth c ⟨T.setVm vm₁, locs, cells, slots⟩ { g with stack := rest } (.invokestatic index) mk argsL.toArray X₁ hg hsize hdg hW (X₁.named hnamed) (hpre vm₁ X₁.warmed) with ⟨v, B, X', hpost, hsteps⟩ | ⟨q, B, X', hpost, hsteps⟩
  · exact Or.inl ⟨v, vm₁, B, X₁.warmed, X', hpost, fun target h => hstep₁ _ fun acts => by rw [doInvoke_state]; exact hsteps.trans h⟩
  · exact Or.inr ⟨q, vm₁, B, X₁.warmed, X', hpost, hstep₁ _ fun acts => by rw [doInvoke_state]; exact hsteps⟩
theorem vx_callVW (X : Stand p l e R s m args below meth c T locs cells slots) (hexec : p.tables.exec = Jvm.exec) {own C : String} {index : Nat} {y : MethodName} {bytes : ByteArray} {maxL : Nat} {ret : Option FieldType} {hh : List (Nat × Nat × Nat × Nat)}
    (hown : s.vm.findClass own = some m.cls) (hlink : (Cond.methodLink own index y).before args s = true) (hinst : (Cond.instanceMethod y).before args s = true) (hsel : (Cond.selects C y y).before args s = true)
    (hcode : (Cond.codeWith y bytes maxL ret hh).before args s = true) (hy : y.cls ≠ "java/lang/invoke/MethodHandle" ∧ y.cls ≠ "java/lang/invoke/VarHandle")
    {W9 : Nat} {Pre : Pt → Array Value → Prop} {Post : Pt → Array Value → Option Value → Pt → Prop} (hK : Back l R p e below s args y 3 W9 Pre Post)
    {b : Addr} {cellB : Cell} (hcell : T.heap[b]? = some cellB) (hobj : cellB.vm.isStatics = false) (hcls : s.vm.findClass C = some cellB.cls)
    {g : JFrame} (hg : g.method = m) (hsize : g.locals.size = c.maxLocals) {argsL rest : List Value} (hlen : ∀ sig, parseMethodDescriptor y.desc = some sig → argsL.length = sig.parameters.length)
    (hstack : g.stack = argsL.reverse ++ .ref b :: rest) (hW : 2 * g.monitorRoom + (rest.map fun v => v.category).sum ≤ W9) (hdg : decode c.code g.pc = .ok (.invokevirtual index, 3))
    (hpre : ∀ vm₁, s.WarmedH vm₁ → Pre ⟨T.setVm vm₁, locs, cells, slots⟩ (Value.ref b :: argsL).toArray) :
    ∃ (v : Option Value) (vm₁ : Vm) (B : Pt), s.WarmedH vm₁ ∧ Stand p l e R s m args below meth c B.U B.locs B.cells B.slots ∧ Post ⟨T.setVm vm₁, locs, cells, slots⟩ (Value.ref b :: argsL).toArray v B ∧
      ∀ target, Steps p.tables e below (B.U.setTop { g with pc := g.pc + 3, stack := v.toList ++ rest }) target → Steps p.tables e below (T.setTop g) target := by
  obtain ⟨mk, methM, hnamed, hmethM, hstM, habM⟩ := Cond.instanceMethod_spec hinst
  obtain ⟨m8, methM', cM, hn8, hmethM', -, -, -, -, -, -, hsigM⟩ := Cond.codeWith_spec hcode
  cases Option.some.inj (hn8.symm.trans hnamed)
  cases hmethM.symm.trans hmethM'
  obtain ⟨c2, r2, m2, q1, q2, q3, q4, kP, hkP, hkPi⟩ := Cond.selects_spec hsel
  cases hcls.symm.trans q1
  cases (State.methodFound?_of_named hnamed hy).symm.trans q2
  cases hnamed.symm.trans q3
  have hselP : selectMethod e.platform s.vm cellB.cls mk = .method mk := by rw [Launch.admits_selectMethod X.admits]; exact q4
  obtain ⟨vm₁, X₁, hstep₁⟩ := X.invokevirtual hexec hown hlink hnamed hmethM hstM hkP hkPi hy (a := b) (cell := cellB) hcell
    (fun z h => by rw [h] at hobj; cases hobj) hselP hmethM habM hkP hkPi (g := g) hg (argsL := argsL) (rest := rest) (hlen _ hsigM) hstack hdg
  obtain ⟨v, B, X', hpost, hsteps⟩ := hK m meth c ⟨T.setVm vm₁, locs, cells, slots⟩ { g with stack := rest } (.invokevirtual index) mk (Value.ref b :: argsL).toArray X₁ hg hsize hdg hW (X₁.named hnamed) (hpre vm₁ X₁.warmed)
  exact ⟨v, vm₁, B, X₁.warmed, X', hpost, fun target h => hstep₁ _ fun acts => by rw [doInvoke_state]; exact hsteps.trans h⟩
abbrev vx_CVW (R : Room) (s : State) (args : Array Value) (own C : String) (index : Nat) (y : MethodName) (bytes : ByteArray) (maxL : Nat) (ret : Option FieldType) (hh : List (Nat × Nat × Nat × Nat)) (ws : List Cond) (rm : Room) (mc ms n : Nat) : Prop :=
  (rm.cells = mc ∧ rm.slots = ms ∧ rm.frames + 1 ≤ R.frames ∧ 8 + (maxL + 11) + rm.locals ≤ R.locals ∧ (∀ w ∈ ws, ∀ (a' : Array Value) (U : State), s.WarmedH U.vm → w.before a' U = true) ∧ Cond.codeWith y bytes maxL ret hh ∈ ws) ∧
  (Cond.codeWith y bytes maxL ret hh).before args s = true ∧ (Cond.initialized y.cls).before args s = true ∧ (y.cls ≠ "java/lang/invoke/MethodHandle" ∧ y.cls ≠ "java/lang/invoke/VarHandle") ∧
  (∀ sig, parseMethodDescriptor y.desc = some sig → n = sig.parameters.length) ∧ (Cond.methodLink own index y).before args s = true ∧ (Cond.instanceMethod y).before args s = true ∧ (Cond.selects C y y).before args s = true
theorem vx_cwVW {own C : String} {index maxL mc ms : Nat} {y : MethodName} {bytes : ByteArray} {ret : Option FieldType} {hh : List (Nat × Nat × Nat × Nat)} {Ts ws ws' : List Cond} {rm : Room} (n : Nat) (ht : ∀ w ∈ Ts, w.before args s = true) (hT : GoodIn Ts (wsV own index C y ws)) (hw : ws = Cond.codeWith y bytes maxL ret hh :: ws') (hrc : rm.cells = mc) (hrs : rm.slots = ms)
    (hd : y.cls = C ∧ y.cls ≠ "java/lang/invoke/MethodHandle" ∧ y.cls ≠ "java/lang/invoke/VarHandle" ∧ (parseMethodDescriptor y.desc).map (fun d => d.parameters.length) = some n) (hR : rm.frames + 1 ≤ R.frames ∧ 8 + (maxL + 11) + rm.locals ≤ R.locals) :
    vx_CVW R s args own C index y bytes maxL ret hh ws rm mc ms n := by
  obtain ⟨hC, hd⟩ := hd
  subst hC
  have ok : ∀ w ∈ wsV own index y.cls y ws, w.before args s = true := fun w h => ht w (hT w h).1
  have hG : GoodIn Ts ws := fun w h => hT w (by unfold wsV; exact List.mem_append_right _ h)
  have hc : Cond.codeWith y bytes maxL ret hh ∈ ws := by rw [hw]; exact List.mem_cons_self
  refine ⟨⟨hrc, hrs, hR.1, hR.2, pay_in ht hG, hc⟩, ht _ (hG _ hc).1, ok _ (by simp [wsV]), ⟨hd.1, hd.2.1⟩, fun sig h => ?_, ok _ (by simp [wsV]), ok _ (by simp [wsV]), ok _ (by simp [wsV])⟩
  have h2 := hd.2.2
  rw [h] at h2
  exact (Option.some.inj h2).symm
theorem vx_runVW {y : MethodName} {bytes cc : ByteArray} {maxL nL mc ms n index : Nat} {ret : Option FieldType} {hh : List (Nat × Nat × Nat × Nat)} {ws : List Cond} {rm : Room} {Pc : Array Value → State → Prop} {Qc : Array Value → State → Outcome → State → Prop} {free : Addr → Prop} {Ts : List Cond} {own C : String} {b : Addr} {As rest : List Value} {g : JFrame}
    (S : CallFix p m c cc nL s args Ts own) (hM : Met l y ws rm Pc Qc mc ms free) (cw : vx_CVW R s args own C index y bytes maxL ret hh ws rm mc ms n) (hp : PreV s H C b Pc As)
    (hg : g.method = m) (hn : As.length = n) (hsize : g.locals.size = nL) (hstack : g.stack = As.reverse ++ .ref b :: rest) (hW : 2 * g.monitorRoom + (rest.map fun v => v.category).sum ≤ 8) (hdg : decode cc g.pc = .ok (.invokevirtual index, 3)) (hf : cells + mc ≤ R.cells ∧ slots + ms ≤ R.slots) :
    va_Run p l e R s m args below meth c H locs cells slots mc ms g rest (Qc (Value.ref b :: As).toArray) free := by
  obtain ⟨⟨hrc, hrs, hfr, hlo, hws, hcw⟩, hcode, hini, hy, hlen, hl, hin, hse⟩ := cw
  have hK : Back l R p e below s args y 3 8 (PreOf R mc ms Pc) (PostOf Qc mc ms free) := va_backW (hh := hh) (bytes := bytes) (maxL := maxL) (ret := ret) hM hp.1 hrc hrs hfr hlo hws hcw (fun a' U hW => word_at hW (Or.inl (by first | rfl | simp [Cond.onTables, Cond.keeps, Cond.steady])) hini)
  obtain ⟨hx, hb, hml, ho, -⟩ := S
  obtain ⟨-, ⟨cellB, hcB, hoB, hclB⟩, hPc⟩ := hp
  intro T hT X
  obtain ⟨v, vm₁, ⟨U', l2, c2, s2⟩, hW₁, X', ⟨g', mk, t, L, e1, e2, hq, h1, hL, h2, h3⟩, st⟩ := vx_callVW X hx (C := C) (hh := hh) (bytes := bytes) (maxL := maxL) (ret := ret) ho hl hin hse hcode hy hK (by rw [hT]; exact hcB) hoB hclB hg (hsize.trans hml.symm) (argsL := As) (rest := rest) (fun sig h => hn.trans (hlen sig h)) hstack hW (by rw [hb]; exact hdg)
    (fun vm₁ hW₁ => ⟨hf.1, hf.2, hPc (T.setVm vm₁) hT hW₁⟩)
  dsimp only [Pt.U, Pt.locs, Pt.cells, Pt.slots] at X' e1 e2 h1 h2 h3 st
  subst h1; subst h2; subst h3
  exact ⟨v, (T.setVm vm₁).calling g' mk (Value.ref b :: As).toArray, t, U', L, hT, X', hL, e1, e2, hq, st⟩
section
variable {y : MethodName} {bytes cc : ByteArray} {maxL nL mc ms n index : Nat} {ret : Option FieldType} {ws : List Cond} {rm : Room} {Pc : Array Value → State → Prop} {Qc : Array Value → State → Outcome → State → Prop} {XC : String → State → State → Prop} {free : Addr → Prop} {Ts : List Cond} {own C : String} {b : Addr} {As rest : List Value} {g : JFrame}
theorem vx_runVX {hh : List (Nat × Nat × Nat × Nat)} (S : CallFix p m c cc nL s args Ts own) (hM : vx_Met l y ws rm Pc Qc XC mc ms free) (cw : vx_CVW R s args own C index y bytes maxL ret hh ws rm mc ms n) (hp : PreV s H C b Pc As)
    (hg : g.method = m) (hn : As.length = n) (hsize : g.locals.size = nL) (hstack : g.stack = As.reverse ++ .ref b :: rest) (hW : 2 * g.monitorRoom + (rest.map fun v => v.category).sum ≤ 8) (hdg : decode cc g.pc = .ok (.invokevirtual index, 3)) (hf : cells + mc ≤ R.cells ∧ slots + ms ≤ R.slots) :
    vx_Run p l e R s m args below meth c H locs cells slots mc ms g rest (Qc (Value.ref b :: As).toArray) XC free := by
  obtain ⟨⟨hrc, hrs, hfr, hlo, hws, hcw⟩, hcode, hini, hy, hlen, hl, hin, hse⟩ := cw
  have hK : vx_Back l R p e below s args y 3 8 (PreOf R mc ms Pc) (PostOf Qc mc ms free) (vx_Post XC mc ms free) := vx_backW (hh := hh) (bytes := bytes) (maxL := maxL) (ret := ret) hM hp.1 hrc hrs hfr hlo hws hcw (fun a' U hW => word_at hW (Or.inl (by first | rfl | simp [Cond.onTables, Cond.keeps, Cond.steady])) hini)
  obtain ⟨hx, hb, hml, ho, -⟩ := S
  obtain ⟨-, ⟨cellB, hcB, hoB, hclB⟩, hPc⟩ := hp
  intro T hT X
  rcases vx_callVX X hx (C := C) (hh := hh) (bytes := bytes) (maxL := maxL) (ret := ret) ho hl hin hse hcode hy hK (by rw [hT]; exact hcB) hoB hclB hg (hsize.trans hml.symm) (argsL := As) (rest := rest) (fun sig h => hn.trans (hlen sig h)) hstack hW (by rw [hb]; exact hdg)
    (fun vm₁ hW₁ => ⟨hf.1, hf.2, hPc (T.setVm vm₁) hT hW₁⟩) with ⟨v, vm₁, ⟨U', l2, c2, s2⟩, hW₁, X', ⟨g', mk, t, L, e1, e2, hq, h1, hL, h2, h3⟩, st⟩ | ⟨q, vm₁, ⟨U', l2, c2, s2⟩, hW₁, X', ⟨g', mk, t, L, E, ce, e1, e2, hq, hce, hcv, hcl, h1, hL, h2, h3⟩, st⟩
  · dsimp only [Pt.U, Pt.locs, Pt.cells, Pt.slots] at X' e1 e2 h1 h2 h3 st
    subst h1; subst h2; subst h3
    exact Or.inl ⟨v, (T.setVm vm₁).calling g' mk (Value.ref b :: As).toArray, t, U', L, hT, X', hL, e1, e2, hq, st⟩
  · dsimp only [Pt.U, Pt.locs, Pt.cells, Pt.slots] at X' e1 e2 h1 h2 h3 st hcl
    subst h1; subst h2; subst h3
    exact Or.inr ⟨q, (T.setVm vm₁).calling g' mk (Value.ref b :: As).toArray, t, U', L, E, ce, hT, X', hL, e1, e2, hq, hce, hcv, vx_cls hW₁ hcl, st⟩
theorem vx_runSX {hh : List (Nat × Nat × Nat × Nat)} (S : CallFix p m c cc nL s args Ts own) (hM : vx_Met l y ws rm Pc Qc XC mc ms free) (cw : vx_CSW R s args own index y bytes maxL ret hh ws rm mc ms n) (hp : PreS s H Pc As)
    (hg : g.method = m) (hn : As.length = n) (hsize : g.locals.size = nL) (hstack : g.stack = As.reverse ++ rest) (hW : 2 * g.monitorRoom + (rest.map fun v => v.category).sum ≤ 8) (hdg : decode cc g.pc = .ok (.invokestatic index, 3)) (hf : cells + mc ≤ R.cells ∧ slots + ms ≤ R.slots) :
    vx_Run p l e R s m args below meth c H locs cells slots mc ms g rest (Qc As.toArray) XC free := by
  obtain ⟨⟨hrc, hrs, hfr, hlo, hws, hcw⟩, hcode, hini, hy, hlen, hl, hstt⟩ := cw
  have hK : vx_Back l R p e below s args y 3 8 (PreOf R mc ms Pc) (PostOf Qc mc ms free) (vx_Post XC mc ms free) := vx_backW (hh := hh) (bytes := bytes) (maxL := maxL) (ret := ret) hM hp.1 hrc hrs hfr hlo hws hcw (fun a' U hW => word_at hW (Or.inl (by first | rfl | simp [Cond.onTables, Cond.keeps, Cond.steady])) hini)
  obtain ⟨hx, hb, hml, ho, -⟩ := S
  intro T hT X
  rcases vx_callSX X hx (hh := hh) (bytes := bytes) (maxL := maxL) (ret := ret) ho hl hstt hini hcode hy hK hg (hsize.trans hml.symm) (argsL := As) (rest := rest) (fun sig h => hn.trans (hlen sig h)) hstack hW (by rw [hb]; exact hdg)
    (fun vm₁ hW₁ => ⟨hf.1, hf.2, hp.2 (T.setVm vm₁) hT hW₁⟩) with ⟨v, vm₁, ⟨U', l2, c2, s2⟩, hW₁, X', ⟨g', mk, t, L, e1, e2, hq, h1, hL, h2, h3⟩, st⟩ | ⟨q, vm₁, ⟨U', l2, c2, s2⟩, hW₁, X', ⟨g', mk, t, L, E, ce, e1, e2, hq, hce, hcv, hcl, h1, hL, h2, h3⟩, st⟩
  · dsimp only [Pt.U, Pt.locs, Pt.cells, Pt.slots] at X' e1 e2 h1 h2 h3 st
    subst h1; subst h2; subst h3
    exact Or.inl ⟨v, (T.setVm vm₁).calling g' mk As.toArray, t, U', L, hT, X', hL, e1, e2, hq, st⟩
  · dsimp only [Pt.U, Pt.locs, Pt.cells, Pt.slots] at X' e1 e2 h1 h2 h3 st hcl
    subst h1; subst h2; subst h3
    exact Or.inr ⟨q, (T.setVm vm₁).calling g' mk As.toArray, t, U', L, E, ce, hT, X', hL, e1, e2, hq, hce, hcv, vx_cls hW₁ hcl, st⟩
end
end VXH
theorem vx_ofWH {l : Launch} {y : MethodName} {ws ws' : List Cond} {rm : Room} {Pc : Array Value → State → Prop} {Qc : Array Value → State → Outcome → State → Prop} {XC : String → State → State → Prop} {mc ms : Nat} {free : Addr → Prop} {cc : ByteArray} {maxL : Nat} {ret : Option FieldType} {hh : List (Nat × Nat × Nat × Nat)}
    (hy : plainName y.cls = true) (hw : ws = Cond.codeWith y cc maxL ret hh :: ws')
    (body : ∀ p e s m args below meth c s₁, BodyLoose p l y (headSpec ws rm) cc maxL ret e s m args below meth c s₁ → c.maxLocals = maxL → Pc args s →
      W p l e (headSpec ws rm).room s m args below meth c s.heap [] 0 0 (vx_MQ below Qc XC args s mc ms free) (entryFrame m args maxL)) : vx_Met l y ws rm Pc Qc XC mc ms free := by
  refine MetFree.of_bodyS (code := cc) (maxLocals := maxL) (ret := ret) hy ?_ ?_
  · intro args s m h hn
    obtain ⟨m9, meth, c, hn9, h1, h2, h3, h4, -, h5, h6, -⟩ := Cond.codeWith_spec (atoms_spec (ws := ws) h _ (by rw [hw]; exact List.mem_cons_self))
    cases hn.symm.trans hn9
    exact ⟨meth, c, h1, h2, h3, h4, h5, h6⟩
  · intro p e s m args below meth c s₁ B hml hP _
    have hh0 : s₁.heap = s.heap := by rw [B.state]; rfl
    obtain ⟨t, a1, o, b1, b2, b3⟩ := body p e s m args below meth c s₁ B hml hP s₁ hh0 (Stand.of_body B)
    exact ⟨t, o, a1, b1, b2, b3⟩
/-! ===== END ===== -/
end
section

/-! ===== BEGIN printed: names, fields, word lists, decode rows ===== -/
def RX0 : String := "LandmarkLea$Graph"
def TX0 : u_T := fun k => match k with
  | 0 => ("LandmarkLea$Graph", "neighbourSets", "[J", true)
  | 1 => ("LandmarkLea$Graph", "vertexCount", "I", false)
  | _ => ("LandmarkLea$Graph", "edgeCount", "I", false)
def tyX0 : Nat → FieldType := fun k => match k with
  | 0 => .array .long
  | 1 => .int
  | _ => .int
abbrev wsX00 : List Cond := u_ws RX0 TX0 3
theorem nmX0 : ∀ a, a < 3 → ∀ b, b < 3 → a ≠ b → (TX0 a).2.1 ≠ (TX0 b).2.1 := by decide +kernel
theorem tyX0_ok : ∀ k, k < 3 → parseFieldDescriptor (TX0 k).2.2.1 = some (tyX0 k) := by decide +kernel
abbrev cX0_init : ByteArray := prog_2_method_1_code
def yX0_init : MethodName := ⟨RX0, "<init>", "()V"⟩
abbrev cX0_size : ByteArray := prog_2_method_2_code
def yX0_size : MethodName := ⟨RX0, "size", "()I"⟩
abbrev cX0_countOfEdges : ByteArray := prog_2_method_3_code
def yX0_countOfEdges : MethodName := ⟨RX0, "countOfEdges", "()I"⟩
abbrev cX0_has : ByteArray := prog_2_method_4_code
def yX0_has : MethodName := ⟨RX0, "has", "(I)Z"⟩
abbrev cX0_adjacent : ByteArray := prog_2_method_5_code
def yX0_adjacent : MethodName := ⟨RX0, "adjacent", "(I)J"⟩
abbrev cX0_joins : ByteArray := prog_2_method_6_code
def yX0_joins : MethodName := ⟨RX0, "joins", "(II)Z"⟩
abbrev cX0_degree : ByteArray := prog_2_method_7_code
def yX0_degree : MethodName := ⟨RX0, "degree", "(I)I"⟩
abbrev cX0_grow : ByteArray := prog_2_method_8_code
def yX0_grow : MethodName := ⟨RX0, "grow", "()I"⟩
abbrev cX0_join : ByteArray := prog_2_method_9_code
def yX0_join : MethodName := ⟨RX0, "join", "(II)V"⟩
abbrev cX0_cutAll : ByteArray := prog_2_method_10_code
def yX0_cutAll : MethodName := ⟨RX0, "cutAll", "()V"⟩
def RX1 : String := "LandmarkLea$Labels"
def TX1 : u_T := fun k => match k with
  | 0 => ("LandmarkLea$Labels", "ranks", "[I", true)
  | 1 => ("LandmarkLea$Labels", "verticesByRank", "[I", true)
  | 2 => ("LandmarkLea$Labels", "rankedCount", "I", false)
  | 3 => ("LandmarkLea$Labels", "hubSets", "[J", true)
  | 4 => ("LandmarkLea$Labels", "distances", "[I", true)
  | _ => ("LandmarkLea$Labels", "parents", "[I", true)
def tyX1 : Nat → FieldType := fun k => match k with
  | 0 => .array .int
  | 1 => .array .int
  | 2 => .int
  | 3 => .array .long
  | 4 => .array .int
  | _ => .array .int
abbrev wsX10 : List Cond := u_ws RX1 TX1 6
theorem nmX1 : ∀ a, a < 6 → ∀ b, b < 6 → a ≠ b → (TX1 a).2.1 ≠ (TX1 b).2.1 := by decide +kernel
theorem tyX1_ok : ∀ k, k < 6 → parseFieldDescriptor (TX1 k).2.2.1 = some (tyX1 k) := by decide +kernel
abbrev cX1_init : ByteArray := prog_3_method_1_code
def yX1_init : MethodName := ⟨RX1, "<init>", "()V"⟩
abbrev cX1_forget : ByteArray := prog_3_method_2_code
def yX1_forget : MethodName := ⟨RX1, "forget", "()V"⟩
abbrev cX1_rankAll : ByteArray := prog_3_method_3_code
def yX1_rankAll : MethodName := ⟨RX1, "rankAll", "(LLandmarkLea$Graph;)V"⟩
abbrev cX1_rankNext : ByteArray := prog_3_method_4_code
def yX1_rankNext : MethodName := ⟨RX1, "rankNext", "(I)V"⟩
abbrev cX1_rankOf : ByteArray := prog_3_method_5_code
def yX1_rankOf : MethodName := ⟨RX1, "rankOf", "(I)I"⟩
abbrev cX1_vertexOf : ByteArray := prog_3_method_6_code
def yX1_vertexOf : MethodName := ⟨RX1, "vertexOf", "(I)I"⟩
abbrev cX1_put : ByteArray := prog_3_method_7_code
def yX1_put : MethodName := ⟨RX1, "put", "(IIII)V"⟩
abbrev cX1_hasEntry : ByteArray := prog_3_method_8_code
def yX1_hasEntry : MethodName := ⟨RX1, "hasEntry", "(II)Z"⟩
abbrev cX1_distanceTo : ByteArray := prog_3_method_9_code
def yX1_distanceTo : MethodName := ⟨RX1, "distanceTo", "(II)I"⟩
abbrev cX1_parentTowards : ByteArray := prog_3_method_10_code
def yX1_parentTowards : MethodName := ⟨RX1, "parentTowards", "(II)I"⟩
abbrev cX1_countOf : ByteArray := prog_3_method_11_code
def yX1_countOf : MethodName := ⟨RX1, "countOf", "(I)I"⟩
abbrev cX1_countAll : ByteArray := prog_3_method_12_code
def yX1_countAll : MethodName := ⟨RX1, "countAll", "()I"⟩
abbrev cX1_hubRankOfEntry : ByteArray := prog_3_method_13_code
def yX1_hubRankOfEntry : MethodName := ⟨RX1, "hubRankOfEntry", "(II)I"⟩
abbrev cX1_reaches : ByteArray := prog_3_method_14_code
def yX1_reaches : MethodName := ⟨RX1, "reaches", "(III)Z"⟩
abbrev cX1_meetingRank : ByteArray := prog_3_method_15_code
def yX1_meetingRank : MethodName := ⟨RX1, "meetingRank", "(II)I"⟩
abbrev cX1_commonHubs : ByteArray := prog_3_method_16_code
def yX1_commonHubs : MethodName := ⟨RX1, "commonHubs", "(II)J"⟩
abbrev cX1_sumThrough : ByteArray := prog_3_method_17_code
def yX1_sumThrough : MethodName := ⟨RX1, "sumThrough", "(III)I"⟩
abbrev cX1_estimate : ByteArray := prog_3_method_18_code
def yX1_estimate : MethodName := ⟨RX1, "estimate", "(II)I"⟩
abbrev cX1_vertexOnPath : ByteArray := prog_3_method_19_code
def yX1_vertexOnPath : MethodName := ⟨RX1, "vertexOnPath", "(III)I"⟩
abbrev cX1_stepsTo : ByteArray := prog_3_method_20_code
def yX1_stepsTo : MethodName := ⟨RX1, "stepsTo", "(II)I"⟩
abbrev cX1_climb : ByteArray := prog_3_method_21_code
def yX1_climb : MethodName := ⟨RX1, "climb", "(III)I"⟩
def RX2 : String := "LandmarkLea$Searches"
def TX2 : u_T := fun k => match k with
  | 0 => ("LandmarkLea$Searches", "graph", "LLandmarkLea$Graph;", true)
  | 1 => ("LandmarkLea$Searches", "labels", "LLandmarkLea$Labels;", true)
  | 2 => ("LandmarkLea$Searches", "queueVertices", "[I", true)
  | 3 => ("LandmarkLea$Searches", "queueDistances", "[I", true)
  | 4 => ("LandmarkLea$Searches", "queueParents", "[I", true)
  | 5 => ("LandmarkLea$Searches", "queueLength", "I", false)
  | 6 => ("LandmarkLea$Searches", "queuedSet", "J", false)
  | 7 => ("LandmarkLea$Searches", "visitCount", "I", false)
  | 8 => ("LandmarkLea$Searches", "prunedCount", "I", false)
  | _ => ("LandmarkLea$Searches", "writtenCount", "I", false)
def tyX2 : Nat → FieldType := fun k => match k with
  | 0 => .object "LandmarkLea$Graph"
  | 1 => .object "LandmarkLea$Labels"
  | 2 => .array .int
  | 3 => .array .int
  | 4 => .array .int
  | 5 => .int
  | 6 => .long
  | 7 => .int
  | 8 => .int
  | _ => .int
abbrev wsX20 : List Cond := u_ws RX2 TX2 10
theorem nmX2 : ∀ a, a < 10 → ∀ b, b < 10 → a ≠ b → (TX2 a).2.1 ≠ (TX2 b).2.1 := by decide +kernel
theorem tyX2_ok : ∀ k, k < 10 → parseFieldDescriptor (TX2 k).2.2.1 = some (tyX2 k) := by decide +kernel
abbrev cX2_init : ByteArray := prog_4_method_1_code
def yX2_init : MethodName := ⟨RX2, "<init>", "(LLandmarkLea$Graph;LLandmarkLea$Labels;)V"⟩
abbrev cX2_forgetCounts : ByteArray := prog_4_method_2_code
def yX2_forgetCounts : MethodName := ⟨RX2, "forgetCounts", "()V"⟩
abbrev cX2_countOfPruned : ByteArray := prog_4_method_3_code
def yX2_countOfPruned : MethodName := ⟨RX2, "countOfPruned", "()I"⟩
abbrev cX2_countOfWritten : ByteArray := prog_4_method_4_code
def yX2_countOfWritten : MethodName := ⟨RX2, "countOfWritten", "()I"⟩
abbrev cX2_labelAll : ByteArray := prog_4_method_5_code
def yX2_labelAll : MethodName := ⟨RX2, "labelAll", "()I"⟩
abbrev cX2_extend : ByteArray := prog_4_method_6_code
def yX2_extend : MethodName := ⟨RX2, "extend", "(II)I"⟩
abbrev cX2_search : ByteArray := prog_4_method_7_code
def yX2_search : MethodName := ⟨RX2, "search", "(IIII)V"⟩
abbrev cX2_enqueue : ByteArray := prog_4_method_8_code
def yX2_enqueue : MethodName := ⟨RX2, "enqueue", "(III)V"⟩
abbrev cX2_visit : ByteArray := prog_4_method_9_code
def yX2_visit : MethodName := ⟨RX2, "visit", "(IIII)V"⟩
def RX3 : String := "LandmarkLea"
def TX3 : u_T := fun k => match k with
  | 0 => ("LandmarkLea", "graph", "LLandmarkLea$Graph;", true)
  | 1 => ("LandmarkLea", "labels", "LLandmarkLea$Labels;", true)
  | 2 => ("LandmarkLea", "searches", "LLandmarkLea$Searches;", true)
  | 3 => ("LandmarkLea", "trialLabels", "LLandmarkLea$Labels;", true)
  | 4 => ("LandmarkLea", "trialSearches", "LLandmarkLea$Searches;", true)
  | _ => ("LandmarkLea", "labelled", "Z", false)
def tyX3 : Nat → FieldType := fun k => match k with
  | 0 => .object "LandmarkLea$Graph"
  | 1 => .object "LandmarkLea$Labels"
  | 2 => .object "LandmarkLea$Searches"
  | 3 => .object "LandmarkLea$Labels"
  | 4 => .object "LandmarkLea$Searches"
  | _ => .boolean
abbrev wsX30 : List Cond := u_ws RX3 TX3 6
theorem nmX3 : ∀ a, a < 6 → ∀ b, b < 6 → a ≠ b → (TX3 a).2.1 ≠ (TX3 b).2.1 := by decide +kernel
theorem tyX3_ok : ∀ k, k < 6 → parseFieldDescriptor (TX3 k).2.2.1 = some (tyX3 k) := by decide +kernel
abbrev cX3_init : ByteArray := prog_1_method_1_code
def yX3_init : MethodName := ⟨RX3, "<init>", "()V"⟩
abbrev cX3_addVertex : ByteArray := prog_1_method_2_code
def yX3_addVertex : MethodName := ⟨RX3, "addVertex", "()I"⟩
abbrev cX3_addVertices : ByteArray := prog_1_method_3_code
def yX3_addVertices : MethodName := ⟨RX3, "addVertices", "(I)I"⟩
abbrev cX3_addEdge : ByteArray := prog_1_method_4_code
def yX3_addEdge : MethodName := ⟨RX3, "addEdge", "(II)I"⟩
abbrev cX3_clear : ByteArray := prog_1_method_5_code
def yX3_clear : MethodName := ⟨RX3, "clear", "()I"⟩
abbrev cX3_vertices : ByteArray := prog_1_method_6_code
def yX3_vertices : MethodName := ⟨RX3, "vertices", "()I"⟩
abbrev cX3_edges : ByteArray := prog_1_method_7_code
def yX3_edges : MethodName := ⟨RX3, "edges", "()I"⟩
abbrev cX3_neighbours : ByteArray := prog_1_method_8_code
def yX3_neighbours : MethodName := ⟨RX3, "neighbours", "(I)J"⟩
abbrev cX3_build : ByteArray := prog_1_method_9_code
def yX3_build : MethodName := ⟨RX3, "build", "()I"⟩
abbrev cX3_isBuilt : ByteArray := prog_1_method_10_code
def yX3_isBuilt : MethodName := ⟨RX3, "isBuilt", "()Z"⟩
abbrev cX3_rank : ByteArray := prog_1_method_11_code
def yX3_rank : MethodName := ⟨RX3, "rank", "(I)I"⟩
abbrev cX3_entries : ByteArray := prog_1_method_12_code
def yX3_entries : MethodName := ⟨RX3, "entries", "()I"⟩
abbrev cX3_entriesIfBuilt : ByteArray := prog_1_method_13_code
def yX3_entriesIfBuilt : MethodName := ⟨RX3, "entriesIfBuilt", "()I"⟩
abbrev cX3_labelSize : ByteArray := prog_1_method_14_code
def yX3_labelSize : MethodName := ⟨RX3, "labelSize", "(I)I"⟩
abbrev cX3_entryHub : ByteArray := prog_1_method_15_code
def yX3_entryHub : MethodName := ⟨RX3, "entryHub", "(II)I"⟩
abbrev cX3_entryDistance : ByteArray := prog_1_method_16_code
def yX3_entryDistance : MethodName := ⟨RX3, "entryDistance", "(II)I"⟩
abbrev cX3_entryParent : ByteArray := prog_1_method_17_code
def yX3_entryParent : MethodName := ⟨RX3, "entryParent", "(II)I"⟩
abbrev cX3_distance : ByteArray := prog_1_method_18_code
def yX3_distance : MethodName := ⟨RX3, "distance", "(II)I"⟩
abbrev cX3_hub : ByteArray := prog_1_method_19_code
def yX3_hub : MethodName := ⟨RX3, "hub", "(II)I"⟩
abbrev cX3_pathVertex : ByteArray := prog_1_method_20_code
def yX3_pathVertex : MethodName := ⟨RX3, "pathVertex", "(III)I"⟩
abbrev cX3_within : ByteArray := prog_1_method_21_code
def yX3_within : MethodName := ⟨RX3, "within", "(II)J"⟩
abbrev cX3_eccentricity : ByteArray := prog_1_method_22_code
def yX3_eccentricity : MethodName := ⟨RX3, "eccentricity", "(I)I"⟩
abbrev cX3_pruned : ByteArray := prog_1_method_23_code
def yX3_pruned : MethodName := ⟨RX3, "pruned", "()I"⟩
abbrev cX3_written : ByteArray := prog_1_method_24_code
def yX3_written : MethodName := ⟨RX3, "written", "()I"⟩
abbrev cX3_appendVertex : ByteArray := prog_1_method_25_code
def yX3_appendVertex : MethodName := ⟨RX3, "appendVertex", "()I"⟩
abbrev cX3_requireRoomFor : ByteArray := prog_1_method_26_code
def yX3_requireRoomFor : MethodName := ⟨RX3, "requireRoomFor", "(I)V"⟩
abbrev cX3_requireVertex : ByteArray := prog_1_method_27_code
def yX3_requireVertex : MethodName := ⟨RX3, "requireVertex", "(I)V"⟩
abbrev cX3_requireLabelOf : ByteArray := prog_1_method_28_code
def yX3_requireLabelOf : MethodName := ⟨RX3, "requireLabelOf", "(I)V"⟩
abbrev cX3_requireLabelsOf : ByteArray := prog_1_method_29_code
def yX3_requireLabelsOf : MethodName := ⟨RX3, "requireLabelsOf", "(II)V"⟩
abbrev cX3_requireEntry : ByteArray := prog_1_method_30_code
def yX3_requireEntry : MethodName := ⟨RX3, "requireEntry", "(II)V"⟩
abbrev cX3_isRow : ByteArray := prog_1_method_31_code
def yX3_isRow : MethodName := ⟨RX3, "isRow", "(I)Z"⟩
abbrev cX3_hasBit : ByteArray := prog_1_method_32_code
def yX3_hasBit : MethodName := ⟨RX3, "hasBit", "(JI)Z"⟩
def RX4 : String := "LandmarkLeaModel"
def TX4 : u_T := fun k => match k with
  | 0 => ("LandmarkLeaModel", "near", "[J", true)
  | 1 => ("LandmarkLeaModel", "many", "I", false)
  | 2 => ("LandmarkLeaModel", "edges", "I", false)
  | 3 => ("LandmarkLeaModel", "isBuilt", "Z", false)
  | 4 => ("LandmarkLeaModel", "distances", "[I", true)
  | 5 => ("LandmarkLeaModel", "parents", "[I", true)
  | 6 => ("LandmarkLeaModel", "hubs", "[I", true)
  | 7 => ("LandmarkLeaModel", "ranks", "[I", true)
  | 8 => ("LandmarkLeaModel", "queue", "[I", true)
  | 9 => ("LandmarkLeaModel", "far", "[I", true)
  | 10 => ("LandmarkLeaModel", "from", "[I", true)
  | 11 => ("LandmarkLeaModel", "visits", "I", false)
  | 12 => ("LandmarkLeaModel", "cut", "I", false)
  | 13 => ("LandmarkLeaModel", "put", "I", false)
  | 14 => ("LandmarkLeaModel", "pruned", "I", false)
  | 15 => ("LandmarkLeaModel", "written", "I", false)
  | _ => ("LandmarkLeaModel", "thrown", "I", false)
def tyX4 : Nat → FieldType := fun k => match k with
  | 0 => .array .long
  | 1 => .int
  | 2 => .int
  | 3 => .boolean
  | 4 => .array .int
  | 5 => .array .int
  | 6 => .array .int
  | 7 => .array .int
  | 8 => .array .int
  | 9 => .array .int
  | 10 => .array .int
  | 11 => .int
  | 12 => .int
  | 13 => .int
  | 14 => .int
  | 15 => .int
  | _ => .int
abbrev wsX40 : List Cond := u_ws RX4 TX4 17
theorem nmX4 : ∀ a, a < 17 → ∀ b, b < 17 → a ≠ b → (TX4 a).2.1 ≠ (TX4 b).2.1 := by decide +kernel
theorem tyX4_ok : ∀ k, k < 17 → parseFieldDescriptor (TX4 k).2.2.1 = some (tyX4 k) := by decide +kernel
abbrev cX4_init : ByteArray := prog_6_method_1_code
def yX4_init : MethodName := ⟨RX4, "<init>", "()V"⟩
abbrev cX4_thrown : ByteArray := prog_6_method_2_code
def yX4_thrown : MethodName := ⟨RX4, "thrown", "()I"⟩
abbrev cX4_goes : ByteArray := prog_6_method_3_code
def yX4_goes : MethodName := ⟨RX4, "goes", "(I)Z"⟩
abbrev cX4_isVertex : ByteArray := prog_6_method_4_code
def yX4_isVertex : MethodName := ⟨RX4, "isVertex", "(I)Z"⟩
abbrev cX4_at : ByteArray := prog_6_method_5_code
def yX4_at : MethodName := ⟨RX4, "at", "(III)I"⟩
abbrev cX4_isEdge : ByteArray := prog_6_method_6_code
def yX4_isEdge : MethodName := ⟨RX4, "isEdge", "(II)Z"⟩
abbrev cX4_estimate : ByteArray := prog_6_method_7_code
def yX4_estimate : MethodName := ⟨RX4, "estimate", "(IIII)I"⟩
abbrev cX4_isPruned : ByteArray := prog_6_method_8_code
def yX4_isPruned : MethodName := ⟨RX4, "isPruned", "(IIII)Z"⟩
abbrev cX4_searches : ByteArray := prog_6_method_9_code
def yX4_searches : MethodName := ⟨RX4, "searches", "(IIIII)V"⟩
abbrev cX4_counts : ByteArray := prog_6_method_10_code
def yX4_counts : MethodName := ⟨RX4, "counts", "()V"⟩
abbrev cX4_degree : ByteArray := prog_6_method_11_code
def yX4_degree : MethodName := ⟨RX4, "degree", "(I)I"⟩
abbrev cX4_givesRanks : ByteArray := prog_6_method_12_code
def yX4_givesRanks : MethodName := ⟨RX4, "givesRanks", "(I)V"⟩
abbrev cX4_empties : ByteArray := prog_6_method_13_code
def yX4_empties : MethodName := ⟨RX4, "empties", "(I)V"⟩
abbrev cX4_builds : ByteArray := prog_6_method_14_code
def yX4_builds : MethodName := ⟨RX4, "builds", "(I)V"⟩
abbrev cX4_keepsCounts : ByteArray := prog_6_method_15_code
def yX4_keepsCounts : MethodName := ⟨RX4, "keepsCounts", "()V"⟩
abbrev cX4_adds : ByteArray := prog_6_method_16_code
def yX4_adds : MethodName := ⟨RX4, "adds", "()V"⟩
abbrev cX4_addVertex : ByteArray := prog_6_method_17_code
def yX4_addVertex : MethodName := ⟨RX4, "addVertex", "()I"⟩
abbrev cX4_addVertices : ByteArray := prog_6_method_18_code
def yX4_addVertices : MethodName := ⟨RX4, "addVertices", "(I)I"⟩
abbrev cX4_extendsBy : ByteArray := prog_6_method_19_code
def yX4_extendsBy : MethodName := ⟨RX4, "extendsBy", "(II)V"⟩
abbrev cX4_addEdge : ByteArray := prog_6_method_20_code
def yX4_addEdge : MethodName := ⟨RX4, "addEdge", "(II)I"⟩
abbrev cX4_clear : ByteArray := prog_6_method_21_code
def yX4_clear : MethodName := ⟨RX4, "clear", "()I"⟩
abbrev cX4_vertices : ByteArray := prog_6_method_22_code
def yX4_vertices : MethodName := ⟨RX4, "vertices", "()I"⟩
abbrev cX4_edges : ByteArray := prog_6_method_23_code
def yX4_edges : MethodName := ⟨RX4, "edges", "()I"⟩
abbrev cX4_neighbours : ByteArray := prog_6_method_24_code
def yX4_neighbours : MethodName := ⟨RX4, "neighbours", "(I)J"⟩
abbrev cX4_build : ByteArray := prog_6_method_25_code
def yX4_build : MethodName := ⟨RX4, "build", "()I"⟩
abbrev cX4_isBuilt : ByteArray := prog_6_method_26_code
def yX4_isBuilt : MethodName := ⟨RX4, "isBuilt", "()Z"⟩
abbrev cX4_wrong : ByteArray := prog_6_method_27_code
def yX4_wrong : MethodName := ⟨RX4, "wrong", "(II)I"⟩
abbrev cX4_rank : ByteArray := prog_6_method_28_code
def yX4_rank : MethodName := ⟨RX4, "rank", "(I)I"⟩
abbrev cX4_size : ByteArray := prog_6_method_29_code
def yX4_size : MethodName := ⟨RX4, "size", "(II)I"⟩
abbrev cX4_all : ByteArray := prog_6_method_30_code
def yX4_all : MethodName := ⟨RX4, "all", "(I)I"⟩
abbrev cX4_entries : ByteArray := prog_6_method_31_code
def yX4_entries : MethodName := ⟨RX4, "entries", "()I"⟩
abbrev cX4_entriesIfBuilt : ByteArray := prog_6_method_32_code
def yX4_entriesIfBuilt : MethodName := ⟨RX4, "entriesIfBuilt", "()I"⟩
abbrev cX4_labelSize : ByteArray := prog_6_method_33_code
def yX4_labelSize : MethodName := ⟨RX4, "labelSize", "(I)I"⟩
abbrev cX4_asksEntry : ByteArray := prog_6_method_34_code
def yX4_asksEntry : MethodName := ⟨RX4, "asksEntry", "(II)I"⟩
abbrev cX4_entryHub : ByteArray := prog_6_method_35_code
def yX4_entryHub : MethodName := ⟨RX4, "entryHub", "(II)I"⟩
abbrev cX4_entryDistance : ByteArray := prog_6_method_36_code
def yX4_entryDistance : MethodName := ⟨RX4, "entryDistance", "(II)I"⟩
abbrev cX4_entryParent : ByteArray := prog_6_method_37_code
def yX4_entryParent : MethodName := ⟨RX4, "entryParent", "(II)I"⟩
abbrev cX4_between : ByteArray := prog_6_method_38_code
def yX4_between : MethodName := ⟨RX4, "between", "(II)I"⟩
abbrev cX4_distance : ByteArray := prog_6_method_39_code
def yX4_distance : MethodName := ⟨RX4, "distance", "(II)I"⟩
abbrev cX4_rankBetween : ByteArray := prog_6_method_40_code
def yX4_rankBetween : MethodName := ⟨RX4, "rankBetween", "(II)I"⟩
abbrev cX4_hub : ByteArray := prog_6_method_41_code
def yX4_hub : MethodName := ⟨RX4, "hub", "(II)I"⟩
abbrev cX4_steps : ByteArray := prog_6_method_42_code
def yX4_steps : MethodName := ⟨RX4, "steps", "(II)I"⟩
abbrev cX4_stepped : ByteArray := prog_6_method_43_code
def yX4_stepped : MethodName := ⟨RX4, "stepped", "(III)I"⟩
abbrev cX4_pathVertex : ByteArray := prog_6_method_44_code
def yX4_pathVertex : MethodName := ⟨RX4, "pathVertex", "(III)I"⟩
abbrev cX4_within : ByteArray := prog_6_method_45_code
def yX4_within : MethodName := ⟨RX4, "within", "(II)J"⟩
abbrev cX4_eccentricity : ByteArray := prog_6_method_46_code
def yX4_eccentricity : MethodName := ⟨RX4, "eccentricity", "(I)I"⟩
abbrev cX4_pruned : ByteArray := prog_6_method_47_code
def yX4_pruned : MethodName := ⟨RX4, "pruned", "()I"⟩
abbrev cX4_written : ByteArray := prog_6_method_48_code
def yX4_written : MethodName := ⟨RX4, "written", "()I"⟩
def RJ13 : String := "java/lang/Long"
def TJ13 : u_T := fun k => match k with
  | _ => ("", "", "", false)
def tyJ13 : Nat → FieldType := fun k => match k with
  | _ => .int
abbrev wsJ130 : List Cond := u_ws RJ13 TJ13 0
theorem nmJ13 : ∀ a, a < 0 → ∀ b, b < 0 → a ≠ b → (TJ13 a).2.1 ≠ (TJ13 b).2.1 := by decide +kernel
theorem tyJ13_ok : ∀ k, k < 0 → parseFieldDescriptor (TJ13 k).2.2.1 = some (tyJ13 k) := by decide +kernel
abbrev cJ13_bitCount_95d88 : ByteArray := prog_11_method_50_code
def yJ13_bitCount_95d88 : MethodName := ⟨RJ13, "bitCount", "(J)I"⟩
def RJ9 : String := "java/lang/Math"
def TJ9 : u_T := fun k => match k with
  | _ => ("", "", "", false)
def tyJ9 : Nat → FieldType := fun k => match k with
  | _ => .int
abbrev wsJ90 : List Cond := u_ws RJ9 TJ9 0
theorem nmJ9 : ∀ a, a < 0 → ∀ b, b < 0 → a ≠ b → (TJ9 a).2.1 ≠ (TJ9 b).2.1 := by decide +kernel
theorem tyJ9_ok : ∀ k, k < 0 → parseFieldDescriptor (TJ9 k).2.2.1 = some (tyJ9 k) := by decide +kernel
abbrev cJ9_max_7cf53 : ByteArray := prog_12_method_65_code
def yJ9_max_7cf53 : MethodName := ⟨RJ9, "max", "(II)I"⟩
def RJ0 : String := "java/lang/String"
def TJ0 : u_T := fun k => match k with
  | _ => ("", "", "", false)
def tyJ0 : Nat → FieldType := fun k => match k with
  | _ => .int
abbrev wsJ00 : List Cond := u_ws RJ0 TJ0 0
theorem nmJ0 : ∀ a, a < 0 → ∀ b, b < 0 → a ≠ b → (TJ0 a).2.1 ≠ (TJ0 b).2.1 := by decide +kernel
theorem tyJ0_ok : ∀ k, k < 0 → parseFieldDescriptor (TJ0 k).2.2.1 = some (tyJ0 k) := by decide +kernel
def RL : String := "LandmarkLeaLaw"
abbrev cL_addVertex : ByteArray := method_3_code
def yL_addVertex : MethodName := ⟨RL, "addVertex", "(LLandmarkLea;[J)I"⟩
abbrev cL_addVertices : ByteArray := method_4_code
def yL_addVertices : MethodName := ⟨RL, "addVertices", "(LLandmarkLea;I[J)I"⟩
abbrev cL_addEdge : ByteArray := method_5_code
def yL_addEdge : MethodName := ⟨RL, "addEdge", "(LLandmarkLea;II[J)I"⟩
abbrev cL_neighbours : ByteArray := method_6_code
def yL_neighbours : MethodName := ⟨RL, "neighbours", "(LLandmarkLea;I[J)I"⟩
abbrev cL_rank : ByteArray := method_7_code
def yL_rank : MethodName := ⟨RL, "rank", "(LLandmarkLea;I[J)I"⟩
abbrev cL_labelSize : ByteArray := method_8_code
def yL_labelSize : MethodName := ⟨RL, "labelSize", "(LLandmarkLea;I[J)I"⟩
abbrev cL_entryHub : ByteArray := method_9_code
def yL_entryHub : MethodName := ⟨RL, "entryHub", "(LLandmarkLea;II[J)I"⟩
abbrev cL_entryDistance : ByteArray := method_10_code
def yL_entryDistance : MethodName := ⟨RL, "entryDistance", "(LLandmarkLea;II[J)I"⟩
abbrev cL_entryParent : ByteArray := method_11_code
def yL_entryParent : MethodName := ⟨RL, "entryParent", "(LLandmarkLea;II[J)I"⟩
abbrev cL_distance : ByteArray := method_12_code
def yL_distance : MethodName := ⟨RL, "distance", "(LLandmarkLea;II[J)I"⟩
abbrev cL_hub : ByteArray := method_13_code
def yL_hub : MethodName := ⟨RL, "hub", "(LLandmarkLea;II[J)I"⟩
abbrev cL_pathVertex : ByteArray := method_14_code
def yL_pathVertex : MethodName := ⟨RL, "pathVertex", "(LLandmarkLea;III[J)I"⟩
abbrev cL_within : ByteArray := method_15_code
def yL_within : MethodName := ⟨RL, "within", "(LLandmarkLea;II[J)I"⟩
abbrev cL_eccentricity : ByteArray := method_16_code
def yL_eccentricity : MethodName := ⟨RL, "eccentricity", "(LLandmarkLea;I[J)I"⟩
abbrev cL_law : ByteArray := code
def yL_law : MethodName := ⟨RL, "law", "([I)Z"⟩
def wsX0_init : List Cond := .code yX0_init cX0_init 1 none :: ([.methodLink RX0 3 objectInit, .instanceMethod objectInit, .code objectInit ⟨#[0xb1]⟩ 1 none, .arrayClass .long, .fieldLink RX0 9 "LandmarkLea$Graph" "neighbourSets" "[J", .fieldLink RX0 15 "LandmarkLea$Graph" "vertexCount" "I", .fieldLink RX0 19 "LandmarkLea$Graph" "edgeCount" "I"] ++ wsX00)
def wsX0_size : List Cond := .code yX0_size cX0_size 1 (some .int) :: ([.fieldLink RX0 15 "LandmarkLea$Graph" "vertexCount" "I"] ++ wsX00)
def wsX0_countOfEdges : List Cond := .code yX0_countOfEdges cX0_countOfEdges 1 (some .int) :: ([.fieldLink RX0 19 "LandmarkLea$Graph" "edgeCount" "I"] ++ wsX00)
def wsX0_has : List Cond := .code yX0_has cX0_has 2 (some .boolean) :: ([.fieldLink RX0 15 "LandmarkLea$Graph" "vertexCount" "I"] ++ wsX00)
def wsX3_isRow : List Cond := .code yX3_isRow cX3_isRow 1 (some .boolean) :: ([])
def wsX0_adjacent : List Cond := .code yX0_adjacent cX0_adjacent 2 (some .long) :: ([.fieldLink RX0 9 "LandmarkLea$Graph" "neighbourSets" "[J", .static yX3_isRow, .initialized RX3, .code yX3_isRow cX3_isRow 1 (some .boolean)] ++ wsX00)
def wsX3_hasBit : List Cond := .code yX3_hasBit cX3_hasBit 3 (some .boolean) :: ([])
def wsX0_joins : List Cond := .code yX0_joins cX0_joins 3 (some .boolean) :: ([.static yX3_isRow, .initialized RX3, .code yX3_isRow cX3_isRow 1 (some .boolean), .methodLink RX0 26 yX0_adjacent, .instanceMethod yX0_adjacent, .selects RX0 yX0_adjacent yX0_adjacent, .initialized RX0, .code yX0_adjacent cX0_adjacent 2 (some .long), .fieldLink RX0 9 "LandmarkLea$Graph" "neighbourSets" "[J", .static yX3_hasBit, .code yX3_hasBit cX3_hasBit 3 (some .boolean)] ++ wsX00)
def wsJ13_bitCount_95d88 : List Cond := .code yJ13_bitCount_95d88 cJ13_bitCount_95d88 2 (some .int) :: ([.constantLong RJ13 314 (6148914691236517205), .constantLong RJ13 316 (3689348814741910323), .constantLong RJ13 318 (1085102592571150095)])
def wsX0_degree : List Cond := .code yX0_degree cX0_degree 2 (some .int) :: ([.methodLink RX0 26 yX0_adjacent, .instanceMethod yX0_adjacent, .selects RX0 yX0_adjacent yX0_adjacent, .initialized RX0, .code yX0_adjacent cX0_adjacent 2 (some .long), .fieldLink RX0 9 "LandmarkLea$Graph" "neighbourSets" "[J", .static yX3_isRow, .initialized RX3, .code yX3_isRow cX3_isRow 1 (some .boolean), .methodLink RX0 34 yJ13_bitCount_95d88, .static yJ13_bitCount_95d88, .initialized RJ13, .code yJ13_bitCount_95d88 cJ13_bitCount_95d88 2 (some .int), .constantLong RJ13 314 (6148914691236517205), .constantLong RJ13 316 (3689348814741910323), .constantLong RJ13 318 (1085102592571150095)] ++ wsX00)
def wsX0_grow : List Cond := .code yX0_grow cX0_grow 2 (some .int) :: ([.fieldLink RX0 15 "LandmarkLea$Graph" "vertexCount" "I"] ++ wsX00)
def wsX0_join : List Cond := .code yX0_join cX0_join 3 none :: ([.fieldLink RX0 9 "LandmarkLea$Graph" "neighbourSets" "[J", .fieldLink RX0 19 "LandmarkLea$Graph" "edgeCount" "I", .static yX3_isRow, .initialized RX3, .code yX3_isRow cX3_isRow 1 (some .boolean)] ++ wsX00)
def wsX0_cutAll : List Cond := .code yX0_cutAll cX0_cutAll 2 none :: ([.fieldLink RX0 9 "LandmarkLea$Graph" "neighbourSets" "[J", .fieldLink RX0 19 "LandmarkLea$Graph" "edgeCount" "I"] ++ wsX00)
def wsX1_init : List Cond := .code yX1_init cX1_init 1 none :: ([.methodLink RX1 3 objectInit, .instanceMethod objectInit, .code objectInit ⟨#[0xb1]⟩ 1 none, .arrayClass .int, .fieldLink RX1 9 "LandmarkLea$Labels" "ranks" "[I", .fieldLink RX1 15 "LandmarkLea$Labels" "verticesByRank" "[I", .fieldLink RX1 18 "LandmarkLea$Labels" "rankedCount" "I", .arrayClass .long, .fieldLink RX1 22 "LandmarkLea$Labels" "hubSets" "[J", .fieldLink RX1 26 "LandmarkLea$Labels" "distances" "[I", .fieldLink RX1 29 "LandmarkLea$Labels" "parents" "[I"] ++ wsX10)
def wsX1_forget : List Cond := .code yX1_forget cX1_forget 2 none :: ([.fieldLink RX1 18 "LandmarkLea$Labels" "rankedCount" "I", .fieldLink RX1 22 "LandmarkLea$Labels" "hubSets" "[J"] ++ wsX10)
def wsX1_rankNext : List Cond := .code yX1_rankNext cX1_rankNext 2 none :: ([.fieldLink RX1 18 "LandmarkLea$Labels" "rankedCount" "I", .fieldLink RX1 9 "LandmarkLea$Labels" "ranks" "[I", .fieldLink RX1 15 "LandmarkLea$Labels" "verticesByRank" "[I", .static yX3_isRow, .initialized RX3, .code yX3_isRow cX3_isRow 1 (some .boolean)] ++ wsX10)
def wsX1_rankAll_r1 : List Cond := [Cond.methodLink RX1 32 yX0_size, Cond.instanceMethod yX0_size, Cond.selects RX0 yX0_size yX0_size, Cond.initialized RX0, Cond.code yX0_size cX0_size 1 (some .int), Cond.fieldLink RX0 15 "LandmarkLea$Graph" "vertexCount" "I", Cond.methodLink RX1 38 yX0_degree, Cond.instanceMethod yX0_degree, Cond.selects RX0 yX0_degree yX0_degree, Cond.code yX0_degree cX0_degree 2 (some .int), Cond.methodLink RX0 26 yX0_adjacent, Cond.instanceMethod yX0_adjacent, Cond.selects RX0 yX0_adjacent yX0_adjacent, Cond.code yX0_adjacent cX0_adjacent 2 (some .long), Cond.fieldLink RX0 9 "LandmarkLea$Graph" "neighbourSets" "[J", Cond.static yX3_isRow, Cond.initialized RX3, Cond.code yX3_isRow cX3_isRow 1 (some .boolean), Cond.methodLink RX0 34 yJ13_bitCount_95d88, Cond.static yJ13_bitCount_95d88, Cond.initialized RJ13, Cond.code yJ13_bitCount_95d88 cJ13_bitCount_95d88 2 (some .int), Cond.constantLong RJ13 314 (6148914691236517205), Cond.constantLong RJ13 316 (3689348814741910323)]
def wsX1_rankAll_r2 : List Cond := [Cond.constantLong RJ13 318 (1085102592571150095), Cond.methodLink RX1 42 yX1_rankNext, Cond.instanceMethod yX1_rankNext, Cond.selects RX1 yX1_rankNext yX1_rankNext, Cond.initialized RX1, Cond.code yX1_rankNext cX1_rankNext 2 none, Cond.fieldLink RX1 18 "LandmarkLea$Labels" "rankedCount" "I", Cond.fieldLink RX1 9 "LandmarkLea$Labels" "ranks" "[I", Cond.fieldLink RX1 15 "LandmarkLea$Labels" "verticesByRank" "[I"]
def wsX1_rankAll : List Cond := .code yX1_rankAll cX1_rankAll 4 none :: ((wsX1_rankAll_r1 ++ wsX1_rankAll_r2) ++ wsX00 ++ wsX10)
def wsX1_rankOf : List Cond := .code yX1_rankOf cX1_rankOf 2 (some .int) :: ([.fieldLink RX1 9 "LandmarkLea$Labels" "ranks" "[I", .static yX3_isRow, .initialized RX3, .code yX3_isRow cX3_isRow 1 (some .boolean)] ++ wsX10)
def wsX1_vertexOf : List Cond := .code yX1_vertexOf cX1_vertexOf 2 (some .int) :: ([.fieldLink RX1 15 "LandmarkLea$Labels" "verticesByRank" "[I", .static yX3_isRow, .initialized RX3, .code yX3_isRow cX3_isRow 1 (some .boolean)] ++ wsX10)
def wsX1_put : List Cond := .code yX1_put cX1_put 5 none :: ([.fieldLink RX1 22 "LandmarkLea$Labels" "hubSets" "[J", .fieldLink RX1 26 "LandmarkLea$Labels" "distances" "[I", .fieldLink RX1 29 "LandmarkLea$Labels" "parents" "[I", .static yX3_isRow, .initialized RX3, .code yX3_isRow cX3_isRow 1 (some .boolean)] ++ wsX10)
def wsX1_hasEntry : List Cond := .code yX1_hasEntry cX1_hasEntry 3 (some .boolean) :: ([.fieldLink RX1 22 "LandmarkLea$Labels" "hubSets" "[J", .static yX3_isRow, .initialized RX3, .code yX3_isRow cX3_isRow 1 (some .boolean), .static yX3_hasBit, .code yX3_hasBit cX3_hasBit 3 (some .boolean)] ++ wsX10)
def wsX1_distanceTo : List Cond := .code yX1_distanceTo cX1_distanceTo 3 (some .int) :: ([.fieldLink RX1 26 "LandmarkLea$Labels" "distances" "[I", .methodLink RX1 54 yX1_hasEntry, .instanceMethod yX1_hasEntry, .selects RX1 yX1_hasEntry yX1_hasEntry, .initialized RX1, .code yX1_hasEntry cX1_hasEntry 3 (some .boolean), .fieldLink RX1 22 "LandmarkLea$Labels" "hubSets" "[J", .static yX3_isRow, .initialized RX3, .code yX3_isRow cX3_isRow 1 (some .boolean), .static yX3_hasBit, .code yX3_hasBit cX3_hasBit 3 (some .boolean)] ++ wsX10)
def wsX1_parentTowards : List Cond := .code yX1_parentTowards cX1_parentTowards 3 (some .int) :: ([.fieldLink RX1 29 "LandmarkLea$Labels" "parents" "[I", .methodLink RX1 54 yX1_hasEntry, .instanceMethod yX1_hasEntry, .selects RX1 yX1_hasEntry yX1_hasEntry, .initialized RX1, .code yX1_hasEntry cX1_hasEntry 3 (some .boolean), .fieldLink RX1 22 "LandmarkLea$Labels" "hubSets" "[J", .static yX3_isRow, .initialized RX3, .code yX3_isRow cX3_isRow 1 (some .boolean), .static yX3_hasBit, .code yX3_hasBit cX3_hasBit 3 (some .boolean)] ++ wsX10)
def wsX1_countOf : List Cond := .code yX1_countOf cX1_countOf 2 (some .int) :: ([.fieldLink RX1 22 "LandmarkLea$Labels" "hubSets" "[J", .static yX3_isRow, .initialized RX3, .code yX3_isRow cX3_isRow 1 (some .boolean), .methodLink RX1 58 yJ13_bitCount_95d88, .static yJ13_bitCount_95d88, .initialized RJ13, .code yJ13_bitCount_95d88 cJ13_bitCount_95d88 2 (some .int), .constantLong RJ13 314 (6148914691236517205), .constantLong RJ13 316 (3689348814741910323), .constantLong RJ13 318 (1085102592571150095)] ++ wsX10)
def wsX1_countAll : List Cond := .code yX1_countAll cX1_countAll 3 (some .int) :: ([.methodLink RX1 64 yX1_countOf, .instanceMethod yX1_countOf, .selects RX1 yX1_countOf yX1_countOf, .initialized RX1, .code yX1_countOf cX1_countOf 2 (some .int), .fieldLink RX1 22 "LandmarkLea$Labels" "hubSets" "[J", .static yX3_isRow, .initialized RX3, .code yX3_isRow cX3_isRow 1 (some .boolean), .methodLink RX1 58 yJ13_bitCount_95d88, .static yJ13_bitCount_95d88, .initialized RJ13, .code yJ13_bitCount_95d88 cJ13_bitCount_95d88 2 (some .int), .constantLong RJ13 314 (6148914691236517205), .constantLong RJ13 316 (3689348814741910323), .constantLong RJ13 318 (1085102592571150095)] ++ wsX10)
def wsX1_hubRankOfEntry : List Cond := .code yX1_hubRankOfEntry cX1_hubRankOfEntry 5 (some .int) :: ([.fieldLink RX1 22 "LandmarkLea$Labels" "hubSets" "[J", .static yX3_isRow, .initialized RX3, .code yX3_isRow cX3_isRow 1 (some .boolean), .static yX3_hasBit, .code yX3_hasBit cX3_hasBit 3 (some .boolean)] ++ wsX10)
def wsX1_commonHubs : List Cond := .code yX1_commonHubs cX1_commonHubs 3 (some .long) :: ([.fieldLink RX1 22 "LandmarkLea$Labels" "hubSets" "[J", .static yX3_isRow, .initialized RX3, .code yX3_isRow cX3_isRow 1 (some .boolean)] ++ wsX10)
def wsX1_sumThrough : List Cond := .code yX1_sumThrough cX1_sumThrough 4 (some .int) :: ([.fieldLink RX1 26 "LandmarkLea$Labels" "distances" "[I", .static yX3_isRow, .initialized RX3, .code yX3_isRow cX3_isRow 1 (some .boolean)] ++ wsX10)
def wsX1_reaches : List Cond := .code yX1_reaches cX1_reaches 8 (some .boolean) :: ([.methodLink RX1 67 yX1_vertexOf, .instanceMethod yX1_vertexOf, .selects RX1 yX1_vertexOf yX1_vertexOf, .initialized RX1, .code yX1_vertexOf cX1_vertexOf 2 (some .int), .fieldLink RX1 15 "LandmarkLea$Labels" "verticesByRank" "[I", .static yX3_isRow, .initialized RX3, .code yX3_isRow cX3_isRow 1 (some .boolean), .methodLink RX1 70 yX1_commonHubs, .instanceMethod yX1_commonHubs, .selects RX1 yX1_commonHubs yX1_commonHubs, .code yX1_commonHubs cX1_commonHubs 3 (some .long), .fieldLink RX1 22 "LandmarkLea$Labels" "hubSets" "[J", .static yX3_hasBit, .code yX3_hasBit cX3_hasBit 3 (some .boolean), .methodLink RX1 74 yX1_sumThrough, .instanceMethod yX1_sumThrough, .selects RX1 yX1_sumThrough yX1_sumThrough, .code yX1_sumThrough cX1_sumThrough 4 (some .int), .fieldLink RX1 26 "LandmarkLea$Labels" "distances" "[I"] ++ wsX10)
def wsX1_meetingRank : List Cond := .code yX1_meetingRank cX1_meetingRank 7 (some .int) :: ([.methodLink RX1 70 yX1_commonHubs, .instanceMethod yX1_commonHubs, .selects RX1 yX1_commonHubs yX1_commonHubs, .initialized RX1, .code yX1_commonHubs cX1_commonHubs 3 (some .long), .fieldLink RX1 22 "LandmarkLea$Labels" "hubSets" "[J", .static yX3_isRow, .initialized RX3, .code yX3_isRow cX3_isRow 1 (some .boolean), .static yX3_hasBit, .code yX3_hasBit cX3_hasBit 3 (some .boolean), .methodLink RX1 74 yX1_sumThrough, .instanceMethod yX1_sumThrough, .selects RX1 yX1_sumThrough yX1_sumThrough, .code yX1_sumThrough cX1_sumThrough 4 (some .int), .fieldLink RX1 26 "LandmarkLea$Labels" "distances" "[I"] ++ wsX10)
def wsX1_estimate : List Cond := .code yX1_estimate cX1_estimate 4 (some .int) :: ([.methodLink RX1 78 yX1_meetingRank, .instanceMethod yX1_meetingRank, .selects RX1 yX1_meetingRank yX1_meetingRank, .initialized RX1, .code yX1_meetingRank cX1_meetingRank 7 (some .int), .methodLink RX1 70 yX1_commonHubs, .instanceMethod yX1_commonHubs, .selects RX1 yX1_commonHubs yX1_commonHubs, .code yX1_commonHubs cX1_commonHubs 3 (some .long), .fieldLink RX1 22 "LandmarkLea$Labels" "hubSets" "[J", .static yX3_isRow, .initialized RX3, .code yX3_isRow cX3_isRow 1 (some .boolean), .static yX3_hasBit, .code yX3_hasBit cX3_hasBit 3 (some .boolean), .methodLink RX1 74 yX1_sumThrough, .instanceMethod yX1_sumThrough, .selects RX1 yX1_sumThrough yX1_sumThrough, .code yX1_sumThrough cX1_sumThrough 4 (some .int), .fieldLink RX1 26 "LandmarkLea$Labels" "distances" "[I"] ++ wsX10)
def wsX1_stepsTo : List Cond := .code yX1_stepsTo cX1_stepsTo 6 (some .int) :: ([.methodLink RX1 67 yX1_vertexOf, .instanceMethod yX1_vertexOf, .selects RX1 yX1_vertexOf yX1_vertexOf, .initialized RX1, .code yX1_vertexOf cX1_vertexOf 2 (some .int), .fieldLink RX1 15 "LandmarkLea$Labels" "verticesByRank" "[I", .static yX3_isRow, .initialized RX3, .code yX3_isRow cX3_isRow 1 (some .boolean), .methodLink RX1 88 yX1_parentTowards, .instanceMethod yX1_parentTowards, .selects RX1 yX1_parentTowards yX1_parentTowards, .code yX1_parentTowards cX1_parentTowards 3 (some .int), .fieldLink RX1 29 "LandmarkLea$Labels" "parents" "[I", .methodLink RX1 54 yX1_hasEntry, .instanceMethod yX1_hasEntry, .selects RX1 yX1_hasEntry yX1_hasEntry, .code yX1_hasEntry cX1_hasEntry 3 (some .boolean), .fieldLink RX1 22 "LandmarkLea$Labels" "hubSets" "[J", .static yX3_hasBit, .code yX3_hasBit cX3_hasBit 3 (some .boolean)] ++ wsX10)
def wsX1_climb : List Cond := .code yX1_climb cX1_climb 6 (some .int) :: ([.methodLink RX1 88 yX1_parentTowards, .instanceMethod yX1_parentTowards, .selects RX1 yX1_parentTowards yX1_parentTowards, .initialized RX1, .code yX1_parentTowards cX1_parentTowards 3 (some .int), .fieldLink RX1 29 "LandmarkLea$Labels" "parents" "[I", .methodLink RX1 54 yX1_hasEntry, .instanceMethod yX1_hasEntry, .selects RX1 yX1_hasEntry yX1_hasEntry, .code yX1_hasEntry cX1_hasEntry 3 (some .boolean), .fieldLink RX1 22 "LandmarkLea$Labels" "hubSets" "[J", .static yX3_isRow, .initialized RX3, .code yX3_isRow cX3_isRow 1 (some .boolean), .static yX3_hasBit, .code yX3_hasBit cX3_hasBit 3 (some .boolean)] ++ wsX10)
def wsX1_vertexOnPath_r1 : List Cond := [Cond.methodLink RX1 78 yX1_meetingRank, Cond.instanceMethod yX1_meetingRank, Cond.selects RX1 yX1_meetingRank yX1_meetingRank, Cond.initialized RX1, Cond.code yX1_meetingRank cX1_meetingRank 7 (some .int), Cond.methodLink RX1 70 yX1_commonHubs, Cond.instanceMethod yX1_commonHubs, Cond.selects RX1 yX1_commonHubs yX1_commonHubs, Cond.code yX1_commonHubs cX1_commonHubs 3 (some .long), Cond.fieldLink RX1 22 "LandmarkLea$Labels" "hubSets" "[J", Cond.static yX3_isRow, Cond.initialized RX3, Cond.code yX3_isRow cX3_isRow 1 (some .boolean), Cond.static yX3_hasBit, Cond.code yX3_hasBit cX3_hasBit 3 (some .boolean), Cond.methodLink RX1 74 yX1_sumThrough, Cond.instanceMethod yX1_sumThrough, Cond.selects RX1 yX1_sumThrough yX1_sumThrough, Cond.code yX1_sumThrough cX1_sumThrough 4 (some .int), Cond.fieldLink RX1 26 "LandmarkLea$Labels" "distances" "[I", Cond.methodLink RX1 82 yX1_stepsTo, Cond.instanceMethod yX1_stepsTo, Cond.selects RX1 yX1_stepsTo yX1_stepsTo, Cond.code yX1_stepsTo cX1_stepsTo 6 (some .int)]
def wsX1_vertexOnPath_r2 : List Cond := [Cond.methodLink RX1 67 yX1_vertexOf, Cond.instanceMethod yX1_vertexOf, Cond.selects RX1 yX1_vertexOf yX1_vertexOf, Cond.code yX1_vertexOf cX1_vertexOf 2 (some .int), Cond.fieldLink RX1 15 "LandmarkLea$Labels" "verticesByRank" "[I", Cond.methodLink RX1 88 yX1_parentTowards, Cond.instanceMethod yX1_parentTowards, Cond.selects RX1 yX1_parentTowards yX1_parentTowards, Cond.code yX1_parentTowards cX1_parentTowards 3 (some .int), Cond.fieldLink RX1 29 "LandmarkLea$Labels" "parents" "[I", Cond.methodLink RX1 54 yX1_hasEntry, Cond.instanceMethod yX1_hasEntry, Cond.selects RX1 yX1_hasEntry yX1_hasEntry, Cond.code yX1_hasEntry cX1_hasEntry 3 (some .boolean), Cond.methodLink RX1 85 yX1_climb, Cond.instanceMethod yX1_climb, Cond.selects RX1 yX1_climb yX1_climb, Cond.code yX1_climb cX1_climb 6 (some .int)]
def wsX1_vertexOnPath : List Cond := .code yX1_vertexOnPath cX1_vertexOnPath 7 (some .int) :: ((wsX1_vertexOnPath_r1 ++ wsX1_vertexOnPath_r2) ++ wsX10)
def wsX2_init : List Cond := .code yX2_init cX2_init 3 none :: ([.methodLink RX2 3 objectInit, .instanceMethod objectInit, .code objectInit ⟨#[0xb1]⟩ 1 none, .fieldLink RX2 9 "LandmarkLea$Searches" "graph" "LLandmarkLea$Graph;", .fieldLink RX2 15 "LandmarkLea$Searches" "labels" "LLandmarkLea$Labels;", .arrayClass .int, .fieldLink RX2 19 "LandmarkLea$Searches" "queueVertices" "[I", .fieldLink RX2 23 "LandmarkLea$Searches" "queueDistances" "[I", .fieldLink RX2 26 "LandmarkLea$Searches" "queueParents" "[I", .fieldLink RX2 29 "LandmarkLea$Searches" "queueLength" "I", .fieldLink RX2 33 "LandmarkLea$Searches" "queuedSet" "J", .fieldLink RX2 37 "LandmarkLea$Searches" "visitCount" "I", .fieldLink RX2 40 "LandmarkLea$Searches" "prunedCount" "I", .fieldLink RX2 43 "LandmarkLea$Searches" "writtenCount" "I"] ++ wsX20)
def wsX2_forgetCounts : List Cond := .code yX2_forgetCounts cX2_forgetCounts 1 none :: ([.fieldLink RX2 37 "LandmarkLea$Searches" "visitCount" "I", .fieldLink RX2 40 "LandmarkLea$Searches" "prunedCount" "I", .fieldLink RX2 43 "LandmarkLea$Searches" "writtenCount" "I"] ++ wsX20)
def wsX2_countOfPruned : List Cond := .code yX2_countOfPruned cX2_countOfPruned 1 (some .int) :: ([.fieldLink RX2 40 "LandmarkLea$Searches" "prunedCount" "I"] ++ wsX20)
def wsX2_countOfWritten : List Cond := .code yX2_countOfWritten cX2_countOfWritten 1 (some .int) :: ([.fieldLink RX2 43 "LandmarkLea$Searches" "writtenCount" "I"] ++ wsX20)
def wsX2_enqueue : List Cond := .code yX2_enqueue cX2_enqueue 4 none :: ([.fieldLink RX2 29 "LandmarkLea$Searches" "queueLength" "I", .fieldLink RX2 33 "LandmarkLea$Searches" "queuedSet" "J", .fieldLink RX2 19 "LandmarkLea$Searches" "queueVertices" "[I", .fieldLink RX2 23 "LandmarkLea$Searches" "queueDistances" "[I", .fieldLink RX2 26 "LandmarkLea$Searches" "queueParents" "[I", .static yX3_isRow, .initialized RX3, .code yX3_isRow cX3_isRow 1 (some .boolean)] ++ wsX20)
def wsX2_visit_r1 : List Cond := [Cond.fieldLink RX2 37 "LandmarkLea$Searches" "visitCount" "I", Cond.fieldLink RX2 15 "LandmarkLea$Searches" "labels" "LLandmarkLea$Labels;", Cond.fieldLink RX2 40 "LandmarkLea$Searches" "prunedCount" "I", Cond.fieldLink RX2 43 "LandmarkLea$Searches" "writtenCount" "I", Cond.fieldLink RX2 9 "LandmarkLea$Searches" "graph" "LLandmarkLea$Graph;", Cond.fieldLink RX2 33 "LandmarkLea$Searches" "queuedSet" "J", Cond.constantLong RX2 98 (-1), Cond.methodLink RX2 87 yX1_reaches, Cond.instanceMethod yX1_reaches, Cond.selects RX1 yX1_reaches yX1_reaches, Cond.initialized RX1, Cond.code yX1_reaches cX1_reaches 8 (some .boolean), Cond.methodLink RX1 67 yX1_vertexOf, Cond.instanceMethod yX1_vertexOf, Cond.selects RX1 yX1_vertexOf yX1_vertexOf, Cond.code yX1_vertexOf cX1_vertexOf 2 (some .int), Cond.fieldLink RX1 15 "LandmarkLea$Labels" "verticesByRank" "[I", Cond.static yX3_isRow, Cond.initialized RX3, Cond.code yX3_isRow cX3_isRow 1 (some .boolean), Cond.methodLink RX1 70 yX1_commonHubs, Cond.instanceMethod yX1_commonHubs, Cond.selects RX1 yX1_commonHubs yX1_commonHubs, Cond.code yX1_commonHubs cX1_commonHubs 3 (some .long)]
def wsX2_visit_r2 : List Cond := [Cond.fieldLink RX1 22 "LandmarkLea$Labels" "hubSets" "[J", Cond.static yX3_hasBit, Cond.code yX3_hasBit cX3_hasBit 3 (some .boolean), Cond.methodLink RX1 74 yX1_sumThrough, Cond.instanceMethod yX1_sumThrough, Cond.selects RX1 yX1_sumThrough yX1_sumThrough, Cond.code yX1_sumThrough cX1_sumThrough 4 (some .int), Cond.fieldLink RX1 26 "LandmarkLea$Labels" "distances" "[I", Cond.methodLink RX2 91 yX1_put, Cond.instanceMethod yX1_put, Cond.selects RX1 yX1_put yX1_put, Cond.code yX1_put cX1_put 5 none, Cond.fieldLink RX1 29 "LandmarkLea$Labels" "parents" "[I", Cond.methodLink RX2 94 yX0_adjacent, Cond.instanceMethod yX0_adjacent, Cond.selects RX0 yX0_adjacent yX0_adjacent, Cond.initialized RX0, Cond.code yX0_adjacent cX0_adjacent 2 (some .long), Cond.fieldLink RX0 9 "LandmarkLea$Graph" "neighbourSets" "[J", Cond.methodLink RX2 58 yX0_size, Cond.instanceMethod yX0_size, Cond.selects RX0 yX0_size yX0_size, Cond.code yX0_size cX0_size 1 (some .int), Cond.fieldLink RX0 15 "LandmarkLea$Graph" "vertexCount" "I"]
def wsX2_visit_r3 : List Cond := [Cond.methodLink RX2 76 yX2_enqueue, Cond.instanceMethod yX2_enqueue, Cond.selects RX2 yX2_enqueue yX2_enqueue, Cond.initialized RX2, Cond.code yX2_enqueue cX2_enqueue 4 none, Cond.fieldLink RX2 29 "LandmarkLea$Searches" "queueLength" "I", Cond.fieldLink RX2 19 "LandmarkLea$Searches" "queueVertices" "[I", Cond.fieldLink RX2 23 "LandmarkLea$Searches" "queueDistances" "[I", Cond.fieldLink RX2 26 "LandmarkLea$Searches" "queueParents" "[I"]
def wsX2_visit : List Cond := .code yX2_visit cX2_visit 8 none :: ((wsX2_visit_r1 ++ (wsX2_visit_r2 ++ wsX2_visit_r3)) ++ wsX20 ++ wsX10 ++ wsX00)
def wsX2_search_r1 : List Cond := [Cond.fieldLink RX2 29 "LandmarkLea$Searches" "queueLength" "I", Cond.fieldLink RX2 33 "LandmarkLea$Searches" "queuedSet" "J", Cond.fieldLink RX2 19 "LandmarkLea$Searches" "queueVertices" "[I", Cond.fieldLink RX2 23 "LandmarkLea$Searches" "queueDistances" "[I", Cond.fieldLink RX2 26 "LandmarkLea$Searches" "queueParents" "[I", Cond.methodLink RX2 76 yX2_enqueue, Cond.instanceMethod yX2_enqueue, Cond.selects RX2 yX2_enqueue yX2_enqueue, Cond.initialized RX2, Cond.code yX2_enqueue cX2_enqueue 4 none, Cond.static yX3_isRow, Cond.initialized RX3, Cond.code yX3_isRow cX3_isRow 1 (some .boolean), Cond.methodLink RX2 80 yX2_visit, Cond.instanceMethod yX2_visit, Cond.selects RX2 yX2_visit yX2_visit, Cond.code yX2_visit cX2_visit 8 none, Cond.fieldLink RX2 37 "LandmarkLea$Searches" "visitCount" "I", Cond.fieldLink RX2 15 "LandmarkLea$Searches" "labels" "LLandmarkLea$Labels;", Cond.fieldLink RX2 40 "LandmarkLea$Searches" "prunedCount" "I", Cond.fieldLink RX2 43 "LandmarkLea$Searches" "writtenCount" "I", Cond.fieldLink RX2 9 "LandmarkLea$Searches" "graph" "LLandmarkLea$Graph;", Cond.constantLong RX2 98 (-1), Cond.methodLink RX2 87 yX1_reaches]
def wsX2_search_r2 : List Cond := [Cond.instanceMethod yX1_reaches, Cond.selects RX1 yX1_reaches yX1_reaches, Cond.initialized RX1, Cond.code yX1_reaches cX1_reaches 8 (some .boolean), Cond.methodLink RX1 67 yX1_vertexOf, Cond.instanceMethod yX1_vertexOf, Cond.selects RX1 yX1_vertexOf yX1_vertexOf, Cond.code yX1_vertexOf cX1_vertexOf 2 (some .int), Cond.fieldLink RX1 15 "LandmarkLea$Labels" "verticesByRank" "[I", Cond.methodLink RX1 70 yX1_commonHubs, Cond.instanceMethod yX1_commonHubs, Cond.selects RX1 yX1_commonHubs yX1_commonHubs, Cond.code yX1_commonHubs cX1_commonHubs 3 (some .long), Cond.fieldLink RX1 22 "LandmarkLea$Labels" "hubSets" "[J", Cond.static yX3_hasBit, Cond.code yX3_hasBit cX3_hasBit 3 (some .boolean), Cond.methodLink RX1 74 yX1_sumThrough, Cond.instanceMethod yX1_sumThrough, Cond.selects RX1 yX1_sumThrough yX1_sumThrough, Cond.code yX1_sumThrough cX1_sumThrough 4 (some .int), Cond.fieldLink RX1 26 "LandmarkLea$Labels" "distances" "[I", Cond.methodLink RX2 91 yX1_put, Cond.instanceMethod yX1_put, Cond.selects RX1 yX1_put yX1_put]
def wsX2_search_r3 : List Cond := [Cond.code yX1_put cX1_put 5 none, Cond.fieldLink RX1 29 "LandmarkLea$Labels" "parents" "[I", Cond.methodLink RX2 94 yX0_adjacent, Cond.instanceMethod yX0_adjacent, Cond.selects RX0 yX0_adjacent yX0_adjacent, Cond.initialized RX0, Cond.code yX0_adjacent cX0_adjacent 2 (some .long), Cond.fieldLink RX0 9 "LandmarkLea$Graph" "neighbourSets" "[J", Cond.methodLink RX2 58 yX0_size, Cond.instanceMethod yX0_size, Cond.selects RX0 yX0_size yX0_size, Cond.code yX0_size cX0_size 1 (some .int), Cond.fieldLink RX0 15 "LandmarkLea$Graph" "vertexCount" "I"]
def wsX2_search : List Cond := .code yX2_search cX2_search 6 none :: ((wsX2_search_r1 ++ (wsX2_search_r2 ++ wsX2_search_r3)) ++ wsX20 ++ wsX10 ++ wsX00)
def wsX2_labelAll_r1 : List Cond := [Cond.fieldLink RX2 15 "LandmarkLea$Searches" "labels" "LLandmarkLea$Labels;", Cond.fieldLink RX2 9 "LandmarkLea$Searches" "graph" "LLandmarkLea$Graph;", Cond.fieldLink RX2 37 "LandmarkLea$Searches" "visitCount" "I", Cond.methodLink RX2 46 yX2_forgetCounts, Cond.instanceMethod yX2_forgetCounts, Cond.selects RX2 yX2_forgetCounts yX2_forgetCounts, Cond.initialized RX2, Cond.code yX2_forgetCounts cX2_forgetCounts 1 none, Cond.fieldLink RX2 40 "LandmarkLea$Searches" "prunedCount" "I", Cond.fieldLink RX2 43 "LandmarkLea$Searches" "writtenCount" "I", Cond.methodLink RX2 49 yX1_forget, Cond.instanceMethod yX1_forget, Cond.selects RX1 yX1_forget yX1_forget, Cond.initialized RX1, Cond.code yX1_forget cX1_forget 2 none, Cond.fieldLink RX1 18 "LandmarkLea$Labels" "rankedCount" "I", Cond.fieldLink RX1 22 "LandmarkLea$Labels" "hubSets" "[J", Cond.methodLink RX2 54 yX1_rankAll, Cond.instanceMethod yX1_rankAll, Cond.selects RX1 yX1_rankAll yX1_rankAll, Cond.code yX1_rankAll cX1_rankAll 4 none, Cond.methodLink RX1 32 yX0_size, Cond.instanceMethod yX0_size, Cond.selects RX0 yX0_size yX0_size]
def wsX2_labelAll_r2 : List Cond := [Cond.initialized RX0, Cond.code yX0_size cX0_size 1 (some .int), Cond.fieldLink RX0 15 "LandmarkLea$Graph" "vertexCount" "I", Cond.methodLink RX1 38 yX0_degree, Cond.instanceMethod yX0_degree, Cond.selects RX0 yX0_degree yX0_degree, Cond.code yX0_degree cX0_degree 2 (some .int), Cond.methodLink RX0 26 yX0_adjacent, Cond.instanceMethod yX0_adjacent, Cond.selects RX0 yX0_adjacent yX0_adjacent, Cond.code yX0_adjacent cX0_adjacent 2 (some .long), Cond.fieldLink RX0 9 "LandmarkLea$Graph" "neighbourSets" "[J", Cond.static yX3_isRow, Cond.initialized RX3, Cond.code yX3_isRow cX3_isRow 1 (some .boolean), Cond.methodLink RX0 34 yJ13_bitCount_95d88, Cond.static yJ13_bitCount_95d88, Cond.initialized RJ13, Cond.code yJ13_bitCount_95d88 cJ13_bitCount_95d88 2 (some .int), Cond.constantLong RJ13 314 (6148914691236517205), Cond.constantLong RJ13 316 (3689348814741910323), Cond.constantLong RJ13 318 (1085102592571150095), Cond.methodLink RX1 42 yX1_rankNext, Cond.instanceMethod yX1_rankNext]
def wsX2_labelAll_r3 : List Cond := [Cond.selects RX1 yX1_rankNext yX1_rankNext, Cond.code yX1_rankNext cX1_rankNext 2 none, Cond.fieldLink RX1 9 "LandmarkLea$Labels" "ranks" "[I", Cond.fieldLink RX1 15 "LandmarkLea$Labels" "verticesByRank" "[I", Cond.methodLink RX2 58 yX0_size, Cond.methodLink RX2 64 yX1_vertexOf, Cond.instanceMethod yX1_vertexOf, Cond.selects RX1 yX1_vertexOf yX1_vertexOf, Cond.code yX1_vertexOf cX1_vertexOf 2 (some .int), Cond.methodLink RX2 68 yX2_search, Cond.instanceMethod yX2_search, Cond.selects RX2 yX2_search yX2_search, Cond.code yX2_search cX2_search 6 none, Cond.fieldLink RX2 29 "LandmarkLea$Searches" "queueLength" "I", Cond.fieldLink RX2 33 "LandmarkLea$Searches" "queuedSet" "J", Cond.fieldLink RX2 19 "LandmarkLea$Searches" "queueVertices" "[I", Cond.fieldLink RX2 23 "LandmarkLea$Searches" "queueDistances" "[I", Cond.fieldLink RX2 26 "LandmarkLea$Searches" "queueParents" "[I", Cond.methodLink RX2 76 yX2_enqueue, Cond.instanceMethod yX2_enqueue, Cond.selects RX2 yX2_enqueue yX2_enqueue, Cond.code yX2_enqueue cX2_enqueue 4 none, Cond.methodLink RX2 80 yX2_visit, Cond.instanceMethod yX2_visit]
def wsX2_labelAll_r4 : List Cond := [Cond.selects RX2 yX2_visit yX2_visit, Cond.code yX2_visit cX2_visit 8 none, Cond.constantLong RX2 98 (-1), Cond.methodLink RX2 87 yX1_reaches, Cond.instanceMethod yX1_reaches, Cond.selects RX1 yX1_reaches yX1_reaches, Cond.code yX1_reaches cX1_reaches 8 (some .boolean), Cond.methodLink RX1 67 yX1_vertexOf, Cond.methodLink RX1 70 yX1_commonHubs, Cond.instanceMethod yX1_commonHubs, Cond.selects RX1 yX1_commonHubs yX1_commonHubs, Cond.code yX1_commonHubs cX1_commonHubs 3 (some .long), Cond.static yX3_hasBit, Cond.code yX3_hasBit cX3_hasBit 3 (some .boolean), Cond.methodLink RX1 74 yX1_sumThrough, Cond.instanceMethod yX1_sumThrough, Cond.selects RX1 yX1_sumThrough yX1_sumThrough, Cond.code yX1_sumThrough cX1_sumThrough 4 (some .int), Cond.fieldLink RX1 26 "LandmarkLea$Labels" "distances" "[I", Cond.methodLink RX2 91 yX1_put, Cond.instanceMethod yX1_put, Cond.selects RX1 yX1_put yX1_put, Cond.code yX1_put cX1_put 5 none, Cond.fieldLink RX1 29 "LandmarkLea$Labels" "parents" "[I"]
def wsX2_labelAll_r5 : List Cond := [Cond.methodLink RX2 94 yX0_adjacent]
def wsX2_labelAll : List Cond := .code yX2_labelAll cX2_labelAll 2 (some .int) :: ((wsX2_labelAll_r1 ++ (wsX2_labelAll_r2 ++ (wsX2_labelAll_r3 ++ (wsX2_labelAll_r4 ++ wsX2_labelAll_r5)))) ++ wsX20 ++ wsX10 ++ wsX00)
def wsX2_extend_r1 : List Cond := [Cond.fieldLink RX2 9 "LandmarkLea$Searches" "graph" "LLandmarkLea$Graph;", Cond.fieldLink RX2 15 "LandmarkLea$Searches" "labels" "LLandmarkLea$Labels;", Cond.fieldLink RX2 37 "LandmarkLea$Searches" "visitCount" "I", Cond.methodLink RX2 46 yX2_forgetCounts, Cond.instanceMethod yX2_forgetCounts, Cond.selects RX2 yX2_forgetCounts yX2_forgetCounts, Cond.initialized RX2, Cond.code yX2_forgetCounts cX2_forgetCounts 1 none, Cond.fieldLink RX2 40 "LandmarkLea$Searches" "prunedCount" "I", Cond.fieldLink RX2 43 "LandmarkLea$Searches" "writtenCount" "I", Cond.methodLink RX2 58 yX0_size, Cond.instanceMethod yX0_size, Cond.selects RX0 yX0_size yX0_size, Cond.initialized RX0, Cond.code yX0_size cX0_size 1 (some .int), Cond.fieldLink RX0 15 "LandmarkLea$Graph" "vertexCount" "I", Cond.methodLink RX2 72 yX1_distanceTo, Cond.instanceMethod yX1_distanceTo, Cond.selects RX1 yX1_distanceTo yX1_distanceTo, Cond.initialized RX1, Cond.code yX1_distanceTo cX1_distanceTo 3 (some .int), Cond.fieldLink RX1 26 "LandmarkLea$Labels" "distances" "[I", Cond.methodLink RX1 54 yX1_hasEntry, Cond.instanceMethod yX1_hasEntry]
def wsX2_extend_r2 : List Cond := [Cond.selects RX1 yX1_hasEntry yX1_hasEntry, Cond.code yX1_hasEntry cX1_hasEntry 3 (some .boolean), Cond.fieldLink RX1 22 "LandmarkLea$Labels" "hubSets" "[J", Cond.static yX3_isRow, Cond.initialized RX3, Cond.code yX3_isRow cX3_isRow 1 (some .boolean), Cond.static yX3_hasBit, Cond.code yX3_hasBit cX3_hasBit 3 (some .boolean), Cond.methodLink RX2 68 yX2_search, Cond.instanceMethod yX2_search, Cond.selects RX2 yX2_search yX2_search, Cond.code yX2_search cX2_search 6 none, Cond.fieldLink RX2 29 "LandmarkLea$Searches" "queueLength" "I", Cond.fieldLink RX2 33 "LandmarkLea$Searches" "queuedSet" "J", Cond.fieldLink RX2 19 "LandmarkLea$Searches" "queueVertices" "[I", Cond.fieldLink RX2 23 "LandmarkLea$Searches" "queueDistances" "[I", Cond.fieldLink RX2 26 "LandmarkLea$Searches" "queueParents" "[I", Cond.methodLink RX2 76 yX2_enqueue, Cond.instanceMethod yX2_enqueue, Cond.selects RX2 yX2_enqueue yX2_enqueue, Cond.code yX2_enqueue cX2_enqueue 4 none, Cond.methodLink RX2 80 yX2_visit, Cond.instanceMethod yX2_visit, Cond.selects RX2 yX2_visit yX2_visit]
def wsX2_extend_r3 : List Cond := [Cond.code yX2_visit cX2_visit 8 none, Cond.constantLong RX2 98 (-1), Cond.methodLink RX2 87 yX1_reaches, Cond.instanceMethod yX1_reaches, Cond.selects RX1 yX1_reaches yX1_reaches, Cond.code yX1_reaches cX1_reaches 8 (some .boolean), Cond.methodLink RX1 67 yX1_vertexOf, Cond.instanceMethod yX1_vertexOf, Cond.selects RX1 yX1_vertexOf yX1_vertexOf, Cond.code yX1_vertexOf cX1_vertexOf 2 (some .int), Cond.fieldLink RX1 15 "LandmarkLea$Labels" "verticesByRank" "[I", Cond.methodLink RX1 70 yX1_commonHubs, Cond.instanceMethod yX1_commonHubs, Cond.selects RX1 yX1_commonHubs yX1_commonHubs, Cond.code yX1_commonHubs cX1_commonHubs 3 (some .long), Cond.methodLink RX1 74 yX1_sumThrough, Cond.instanceMethod yX1_sumThrough, Cond.selects RX1 yX1_sumThrough yX1_sumThrough, Cond.code yX1_sumThrough cX1_sumThrough 4 (some .int), Cond.methodLink RX2 91 yX1_put, Cond.instanceMethod yX1_put, Cond.selects RX1 yX1_put yX1_put, Cond.code yX1_put cX1_put 5 none, Cond.fieldLink RX1 29 "LandmarkLea$Labels" "parents" "[I"]
def wsX2_extend_r4 : List Cond := [Cond.methodLink RX2 94 yX0_adjacent, Cond.instanceMethod yX0_adjacent, Cond.selects RX0 yX0_adjacent yX0_adjacent, Cond.code yX0_adjacent cX0_adjacent 2 (some .long), Cond.fieldLink RX0 9 "LandmarkLea$Graph" "neighbourSets" "[J"]
def wsX2_extend : List Cond := .code yX2_extend cX2_extend 6 (some .int) :: ((wsX2_extend_r1 ++ (wsX2_extend_r2 ++ (wsX2_extend_r3 ++ wsX2_extend_r4))) ++ wsX20 ++ wsX00 ++ wsX10)
def wsX3_init_r1 : List Cond := [Cond.methodLink RX3 1 objectInit, Cond.instanceMethod objectInit, Cond.code objectInit ⟨#[0xb1]⟩ 1 none, Cond.classLink RX3 7 RX0, Cond.instantiable RX0 3, Cond.initialized RX0, Cond.fieldLink RX3 10 "LandmarkLea" "graph" "LLandmarkLea$Graph;", Cond.classLink RX3 16 RX1, Cond.instantiable RX1 6, Cond.initialized RX1, Cond.fieldLink RX3 19 "LandmarkLea" "labels" "LLandmarkLea$Labels;", Cond.classLink RX3 23 RX2, Cond.instantiable RX2 10, Cond.initialized RX2, Cond.fieldLink RX3 28 "LandmarkLea" "searches" "LLandmarkLea$Searches;", Cond.fieldLink RX3 32 "LandmarkLea" "trialLabels" "LLandmarkLea$Labels;", Cond.fieldLink RX3 35 "LandmarkLea" "trialSearches" "LLandmarkLea$Searches;", Cond.fieldLink RX3 38 "LandmarkLea" "labelled" "Z", Cond.methodLink RX3 9 yX0_init, Cond.instanceMethod yX0_init, Cond.code yX0_init cX0_init 1 none, Cond.methodLink RX0 3 objectInit, Cond.arrayClass .long, Cond.fieldLink RX0 9 "LandmarkLea$Graph" "neighbourSets" "[J"]
def wsX3_init_r2 : List Cond := [Cond.fieldLink RX0 15 "LandmarkLea$Graph" "vertexCount" "I", Cond.fieldLink RX0 19 "LandmarkLea$Graph" "edgeCount" "I", Cond.methodLink RX3 18 yX1_init, Cond.instanceMethod yX1_init, Cond.code yX1_init cX1_init 1 none, Cond.methodLink RX1 3 objectInit, Cond.arrayClass .int, Cond.fieldLink RX1 9 "LandmarkLea$Labels" "ranks" "[I", Cond.fieldLink RX1 15 "LandmarkLea$Labels" "verticesByRank" "[I", Cond.fieldLink RX1 18 "LandmarkLea$Labels" "rankedCount" "I", Cond.fieldLink RX1 22 "LandmarkLea$Labels" "hubSets" "[J", Cond.fieldLink RX1 26 "LandmarkLea$Labels" "distances" "[I", Cond.fieldLink RX1 29 "LandmarkLea$Labels" "parents" "[I", Cond.methodLink RX3 25 yX2_init, Cond.instanceMethod yX2_init, Cond.code yX2_init cX2_init 3 none, Cond.methodLink RX2 3 objectInit, Cond.fieldLink RX2 9 "LandmarkLea$Searches" "graph" "LLandmarkLea$Graph;", Cond.fieldLink RX2 15 "LandmarkLea$Searches" "labels" "LLandmarkLea$Labels;", Cond.fieldLink RX2 19 "LandmarkLea$Searches" "queueVertices" "[I", Cond.fieldLink RX2 23 "LandmarkLea$Searches" "queueDistances" "[I", Cond.fieldLink RX2 26 "LandmarkLea$Searches" "queueParents" "[I", Cond.fieldLink RX2 29 "LandmarkLea$Searches" "queueLength" "I", Cond.fieldLink RX2 33 "LandmarkLea$Searches" "queuedSet" "J"]
def wsX3_init_r3 : List Cond := [Cond.fieldLink RX2 37 "LandmarkLea$Searches" "visitCount" "I", Cond.fieldLink RX2 40 "LandmarkLea$Searches" "prunedCount" "I", Cond.fieldLink RX2 43 "LandmarkLea$Searches" "writtenCount" "I"]
def wsX3_init : List Cond := .code yX3_init cX3_init 1 none :: ((wsX3_init_r1 ++ (wsX3_init_r2 ++ wsX3_init_r3)) ++ wsX00 ++ wsX30 ++ wsX10 ++ wsX20)
def wsX3_requireRoomFor : List Cond := .code yX3_requireRoomFor cX3_requireRoomFor 2 none :: ([.classLink RX3 67 "java/lang/IllegalStateException", .initialized "java/lang/IllegalStateException", .fieldLink RX3 10 "LandmarkLea" "graph" "LLandmarkLea$Graph;", .methodLink RX3 57 yX0_size, .instanceMethod yX0_size, .selects RX0 yX0_size yX0_size, .initialized RX0, .code yX0_size cX0_size 1 (some .int), .fieldLink RX0 15 "LandmarkLea$Graph" "vertexCount" "I"] ++ wsX30 ++ wsX00 ++ (vx_atS RX3 71 "java/lang/IllegalStateException" ["java/lang/RuntimeException", "java/lang/Exception"]).filter goodWord)
def wsX3_appendVertex_r1 : List Cond := [Cond.fieldLink RX3 10 "LandmarkLea" "graph" "LLandmarkLea$Graph;", Cond.fieldLink RX3 38 "LandmarkLea" "labelled" "Z", Cond.fieldLink RX3 19 "LandmarkLea" "labels" "LLandmarkLea$Labels;", Cond.methodLink RX3 155 yX0_grow, Cond.instanceMethod yX0_grow, Cond.selects RX0 yX0_grow yX0_grow, Cond.initialized RX0, Cond.code yX0_grow cX0_grow 2 (some .int), Cond.fieldLink RX0 15 "LandmarkLea$Graph" "vertexCount" "I", Cond.methodLink RX3 158 yX1_rankNext, Cond.instanceMethod yX1_rankNext, Cond.selects RX1 yX1_rankNext yX1_rankNext, Cond.initialized RX1, Cond.code yX1_rankNext cX1_rankNext 2 none, Cond.fieldLink RX1 18 "LandmarkLea$Labels" "rankedCount" "I", Cond.fieldLink RX1 9 "LandmarkLea$Labels" "ranks" "[I", Cond.fieldLink RX1 15 "LandmarkLea$Labels" "verticesByRank" "[I", Cond.static yX3_isRow, Cond.initialized RX3, Cond.code yX3_isRow cX3_isRow 1 (some .boolean), Cond.methodLink RX3 102 yX1_rankOf, Cond.instanceMethod yX1_rankOf, Cond.selects RX1 yX1_rankOf yX1_rankOf, Cond.code yX1_rankOf cX1_rankOf 2 (some .int)]
def wsX3_appendVertex_r2 : List Cond := [Cond.methodLink RX3 161 yX1_put, Cond.instanceMethod yX1_put, Cond.selects RX1 yX1_put yX1_put, Cond.code yX1_put cX1_put 5 none, Cond.fieldLink RX1 22 "LandmarkLea$Labels" "hubSets" "[J", Cond.fieldLink RX1 26 "LandmarkLea$Labels" "distances" "[I", Cond.fieldLink RX1 29 "LandmarkLea$Labels" "parents" "[I"]
def wsX3_appendVertex : List Cond := .code yX3_appendVertex cX3_appendVertex 2 (some .int) :: ((wsX3_appendVertex_r1 ++ wsX3_appendVertex_r2) ++ wsX30 ++ wsX00 ++ wsX10)
def wsX3_addVertex_r1 : List Cond := [Cond.methodLink RX3 42 yX3_requireRoomFor, Cond.instanceMethod yX3_requireRoomFor, Cond.selects RX3 yX3_requireRoomFor yX3_requireRoomFor, Cond.initialized RX3, Cond.code yX3_requireRoomFor cX3_requireRoomFor 2 none, Cond.classLink RX3 67 "java/lang/IllegalStateException", Cond.initialized "java/lang/IllegalStateException", Cond.fieldLink RX3 10 "LandmarkLea" "graph" "LLandmarkLea$Graph;", Cond.methodLink RX3 57 yX0_size, Cond.instanceMethod yX0_size, Cond.selects RX0 yX0_size yX0_size, Cond.initialized RX0, Cond.code yX0_size cX0_size 1 (some .int), Cond.fieldLink RX0 15 "LandmarkLea$Graph" "vertexCount" "I", Cond.methodLink RX3 46 yX3_appendVertex, Cond.instanceMethod yX3_appendVertex, Cond.selects RX3 yX3_appendVertex yX3_appendVertex, Cond.code yX3_appendVertex cX3_appendVertex 2 (some .int), Cond.fieldLink RX3 38 "LandmarkLea" "labelled" "Z", Cond.fieldLink RX3 19 "LandmarkLea" "labels" "LLandmarkLea$Labels;", Cond.methodLink RX3 155 yX0_grow, Cond.instanceMethod yX0_grow, Cond.selects RX0 yX0_grow yX0_grow, Cond.code yX0_grow cX0_grow 2 (some .int)]
def wsX3_addVertex_r2 : List Cond := [Cond.methodLink RX3 158 yX1_rankNext, Cond.instanceMethod yX1_rankNext, Cond.selects RX1 yX1_rankNext yX1_rankNext, Cond.initialized RX1, Cond.code yX1_rankNext cX1_rankNext 2 none, Cond.fieldLink RX1 18 "LandmarkLea$Labels" "rankedCount" "I", Cond.fieldLink RX1 9 "LandmarkLea$Labels" "ranks" "[I", Cond.fieldLink RX1 15 "LandmarkLea$Labels" "verticesByRank" "[I", Cond.static yX3_isRow, Cond.code yX3_isRow cX3_isRow 1 (some .boolean), Cond.methodLink RX3 102 yX1_rankOf, Cond.instanceMethod yX1_rankOf, Cond.selects RX1 yX1_rankOf yX1_rankOf, Cond.code yX1_rankOf cX1_rankOf 2 (some .int), Cond.methodLink RX3 161 yX1_put, Cond.instanceMethod yX1_put, Cond.selects RX1 yX1_put yX1_put, Cond.code yX1_put cX1_put 5 none, Cond.fieldLink RX1 22 "LandmarkLea$Labels" "hubSets" "[J", Cond.fieldLink RX1 26 "LandmarkLea$Labels" "distances" "[I", Cond.fieldLink RX1 29 "LandmarkLea$Labels" "parents" "[I"]
def wsX3_addVertex : List Cond := .code yX3_addVertex cX3_addVertex 1 (some .int) :: ((wsX3_addVertex_r1 ++ wsX3_addVertex_r2) ++ wsX30 ++ wsX00 ++ wsX10 ++ (vx_atS RX3 71 "java/lang/IllegalStateException" ["java/lang/RuntimeException", "java/lang/Exception"]).filter goodWord)
def wsX3_addVertices_r1 : List Cond := [Cond.classLink RX3 50 "java/lang/IllegalArgumentException", Cond.initialized "java/lang/IllegalArgumentException", Cond.fieldLink RX3 10 "LandmarkLea" "graph" "LLandmarkLea$Graph;", Cond.methodLink RX3 42 yX3_requireRoomFor, Cond.instanceMethod yX3_requireRoomFor, Cond.selects RX3 yX3_requireRoomFor yX3_requireRoomFor, Cond.initialized RX3, Cond.code yX3_requireRoomFor cX3_requireRoomFor 2 none, Cond.classLink RX3 67 "java/lang/IllegalStateException", Cond.initialized "java/lang/IllegalStateException", Cond.methodLink RX3 57 yX0_size, Cond.instanceMethod yX0_size, Cond.selects RX0 yX0_size yX0_size, Cond.initialized RX0, Cond.code yX0_size cX0_size 1 (some .int), Cond.fieldLink RX0 15 "LandmarkLea$Graph" "vertexCount" "I", Cond.methodLink RX3 46 yX3_appendVertex, Cond.instanceMethod yX3_appendVertex, Cond.selects RX3 yX3_appendVertex yX3_appendVertex, Cond.code yX3_appendVertex cX3_appendVertex 2 (some .int), Cond.fieldLink RX3 38 "LandmarkLea" "labelled" "Z", Cond.fieldLink RX3 19 "LandmarkLea" "labels" "LLandmarkLea$Labels;", Cond.methodLink RX3 155 yX0_grow, Cond.instanceMethod yX0_grow]
def wsX3_addVertices_r2 : List Cond := [Cond.selects RX0 yX0_grow yX0_grow, Cond.code yX0_grow cX0_grow 2 (some .int), Cond.methodLink RX3 158 yX1_rankNext, Cond.instanceMethod yX1_rankNext, Cond.selects RX1 yX1_rankNext yX1_rankNext, Cond.initialized RX1, Cond.code yX1_rankNext cX1_rankNext 2 none, Cond.fieldLink RX1 18 "LandmarkLea$Labels" "rankedCount" "I", Cond.fieldLink RX1 9 "LandmarkLea$Labels" "ranks" "[I", Cond.fieldLink RX1 15 "LandmarkLea$Labels" "verticesByRank" "[I", Cond.static yX3_isRow, Cond.code yX3_isRow cX3_isRow 1 (some .boolean), Cond.methodLink RX3 102 yX1_rankOf, Cond.instanceMethod yX1_rankOf, Cond.selects RX1 yX1_rankOf yX1_rankOf, Cond.code yX1_rankOf cX1_rankOf 2 (some .int), Cond.methodLink RX3 161 yX1_put, Cond.instanceMethod yX1_put, Cond.selects RX1 yX1_put yX1_put, Cond.code yX1_put cX1_put 5 none, Cond.fieldLink RX1 22 "LandmarkLea$Labels" "hubSets" "[J", Cond.fieldLink RX1 26 "LandmarkLea$Labels" "distances" "[I", Cond.fieldLink RX1 29 "LandmarkLea$Labels" "parents" "[I"]
def wsX3_addVertices : List Cond := .code yX3_addVertices cX3_addVertices 3 (some .int) :: ((wsX3_addVertices_r1 ++ wsX3_addVertices_r2) ++ wsX30 ++ wsX00 ++ wsX10 ++ (vx_atS RX3 54 "java/lang/IllegalArgumentException" ["java/lang/RuntimeException", "java/lang/Exception"]).filter goodWord ++ (vx_atS RX3 71 "java/lang/IllegalStateException" ["java/lang/RuntimeException", "java/lang/Exception"]).filter goodWord)
def wsX3_requireVertex : List Cond := .code yX3_requireVertex cX3_requireVertex 2 none :: ([.classLink RX3 171 "java/lang/IndexOutOfBoundsException", .initialized "java/lang/IndexOutOfBoundsException", .fieldLink RX3 10 "LandmarkLea" "graph" "LLandmarkLea$Graph;", .methodLink RX3 167 yX0_has, .instanceMethod yX0_has, .selects RX0 yX0_has yX0_has, .initialized RX0, .code yX0_has cX0_has 2 (some .boolean), .fieldLink RX0 15 "LandmarkLea$Graph" "vertexCount" "I"] ++ wsX30 ++ wsX00 ++ (vx_atS RX3 175 "java/lang/IndexOutOfBoundsException" ["java/lang/RuntimeException", "java/lang/Exception"]).filter goodWord)
def wsX3_addEdge_r1 : List Cond := [Cond.classLink RX3 67 "java/lang/IllegalStateException", Cond.initialized "java/lang/IllegalStateException", Cond.fieldLink RX3 10 "LandmarkLea" "graph" "LLandmarkLea$Graph;", Cond.fieldLink RX3 38 "LandmarkLea" "labelled" "Z", Cond.fieldLink RX3 28 "LandmarkLea" "searches" "LLandmarkLea$Searches;", Cond.methodLink RX3 60 yX3_requireVertex, Cond.instanceMethod yX3_requireVertex, Cond.selects RX3 yX3_requireVertex yX3_requireVertex, Cond.initialized RX3, Cond.code yX3_requireVertex cX3_requireVertex 2 none, Cond.classLink RX3 171 "java/lang/IndexOutOfBoundsException", Cond.initialized "java/lang/IndexOutOfBoundsException", Cond.methodLink RX3 167 yX0_has, Cond.instanceMethod yX0_has, Cond.selects RX0 yX0_has yX0_has, Cond.initialized RX0, Cond.code yX0_has cX0_has 2 (some .boolean), Cond.fieldLink RX0 15 "LandmarkLea$Graph" "vertexCount" "I", Cond.methodLink RX3 63 yX0_joins, Cond.instanceMethod yX0_joins, Cond.selects RX0 yX0_joins yX0_joins, Cond.code yX0_joins cX0_joins 3 (some .boolean), Cond.static yX3_isRow, Cond.code yX3_isRow cX3_isRow 1 (some .boolean)]
def wsX3_addEdge_r2 : List Cond := [Cond.methodLink RX0 26 yX0_adjacent, Cond.instanceMethod yX0_adjacent, Cond.selects RX0 yX0_adjacent yX0_adjacent, Cond.code yX0_adjacent cX0_adjacent 2 (some .long), Cond.fieldLink RX0 9 "LandmarkLea$Graph" "neighbourSets" "[J", Cond.static yX3_hasBit, Cond.code yX3_hasBit cX3_hasBit 3 (some .boolean), Cond.methodLink RX3 72 yX0_join, Cond.instanceMethod yX0_join, Cond.selects RX0 yX0_join yX0_join, Cond.code yX0_join cX0_join 3 none, Cond.fieldLink RX0 19 "LandmarkLea$Graph" "edgeCount" "I", Cond.methodLink RX3 76 yX2_extend, Cond.instanceMethod yX2_extend, Cond.selects RX2 yX2_extend yX2_extend, Cond.initialized RX2, Cond.code yX2_extend cX2_extend 6 (some .int), Cond.fieldLink RX2 9 "LandmarkLea$Searches" "graph" "LLandmarkLea$Graph;", Cond.fieldLink RX2 15 "LandmarkLea$Searches" "labels" "LLandmarkLea$Labels;", Cond.fieldLink RX2 37 "LandmarkLea$Searches" "visitCount" "I", Cond.methodLink RX2 46 yX2_forgetCounts, Cond.instanceMethod yX2_forgetCounts, Cond.selects RX2 yX2_forgetCounts yX2_forgetCounts, Cond.code yX2_forgetCounts cX2_forgetCounts 1 none]
def wsX3_addEdge_r3 : List Cond := [Cond.fieldLink RX2 40 "LandmarkLea$Searches" "prunedCount" "I", Cond.fieldLink RX2 43 "LandmarkLea$Searches" "writtenCount" "I", Cond.methodLink RX2 58 yX0_size, Cond.instanceMethod yX0_size, Cond.selects RX0 yX0_size yX0_size, Cond.code yX0_size cX0_size 1 (some .int), Cond.methodLink RX2 72 yX1_distanceTo, Cond.instanceMethod yX1_distanceTo, Cond.selects RX1 yX1_distanceTo yX1_distanceTo, Cond.initialized RX1, Cond.code yX1_distanceTo cX1_distanceTo 3 (some .int), Cond.fieldLink RX1 26 "LandmarkLea$Labels" "distances" "[I", Cond.methodLink RX1 54 yX1_hasEntry, Cond.instanceMethod yX1_hasEntry, Cond.selects RX1 yX1_hasEntry yX1_hasEntry, Cond.code yX1_hasEntry cX1_hasEntry 3 (some .boolean), Cond.fieldLink RX1 22 "LandmarkLea$Labels" "hubSets" "[J", Cond.methodLink RX2 68 yX2_search, Cond.instanceMethod yX2_search, Cond.selects RX2 yX2_search yX2_search, Cond.code yX2_search cX2_search 6 none, Cond.fieldLink RX2 29 "LandmarkLea$Searches" "queueLength" "I", Cond.fieldLink RX2 33 "LandmarkLea$Searches" "queuedSet" "J", Cond.fieldLink RX2 19 "LandmarkLea$Searches" "queueVertices" "[I"]
def wsX3_addEdge_r4 : List Cond := [Cond.fieldLink RX2 23 "LandmarkLea$Searches" "queueDistances" "[I", Cond.fieldLink RX2 26 "LandmarkLea$Searches" "queueParents" "[I", Cond.methodLink RX2 76 yX2_enqueue, Cond.instanceMethod yX2_enqueue, Cond.selects RX2 yX2_enqueue yX2_enqueue, Cond.code yX2_enqueue cX2_enqueue 4 none, Cond.methodLink RX2 80 yX2_visit, Cond.instanceMethod yX2_visit, Cond.selects RX2 yX2_visit yX2_visit, Cond.code yX2_visit cX2_visit 8 none, Cond.constantLong RX2 98 (-1), Cond.methodLink RX2 87 yX1_reaches, Cond.instanceMethod yX1_reaches, Cond.selects RX1 yX1_reaches yX1_reaches, Cond.code yX1_reaches cX1_reaches 8 (some .boolean), Cond.methodLink RX1 67 yX1_vertexOf, Cond.instanceMethod yX1_vertexOf, Cond.selects RX1 yX1_vertexOf yX1_vertexOf, Cond.code yX1_vertexOf cX1_vertexOf 2 (some .int), Cond.fieldLink RX1 15 "LandmarkLea$Labels" "verticesByRank" "[I", Cond.methodLink RX1 70 yX1_commonHubs, Cond.instanceMethod yX1_commonHubs, Cond.selects RX1 yX1_commonHubs yX1_commonHubs, Cond.code yX1_commonHubs cX1_commonHubs 3 (some .long)]
def wsX3_addEdge_r5 : List Cond := [Cond.methodLink RX1 74 yX1_sumThrough, Cond.instanceMethod yX1_sumThrough, Cond.selects RX1 yX1_sumThrough yX1_sumThrough, Cond.code yX1_sumThrough cX1_sumThrough 4 (some .int), Cond.methodLink RX2 91 yX1_put, Cond.instanceMethod yX1_put, Cond.selects RX1 yX1_put yX1_put, Cond.code yX1_put cX1_put 5 none, Cond.fieldLink RX1 29 "LandmarkLea$Labels" "parents" "[I", Cond.methodLink RX2 94 yX0_adjacent]
def wsX3_addEdge : List Cond := .code yX3_addEdge cX3_addEdge 3 (some .int) :: ((wsX3_addEdge_r1 ++ (wsX3_addEdge_r2 ++ (wsX3_addEdge_r3 ++ (wsX3_addEdge_r4 ++ wsX3_addEdge_r5)))) ++ wsX30 ++ wsX00 ++ wsX20 ++ wsX10 ++ (vx_atS RX3 71 "java/lang/IllegalStateException" ["java/lang/RuntimeException", "java/lang/Exception"]).filter goodWord ++ (vx_atS RX3 175 "java/lang/IndexOutOfBoundsException" ["java/lang/RuntimeException", "java/lang/Exception"]).filter goodWord)
def wsX3_clear_r1 : List Cond := [Cond.fieldLink RX3 10 "LandmarkLea" "graph" "LLandmarkLea$Graph;", Cond.fieldLink RX3 19 "LandmarkLea" "labels" "LLandmarkLea$Labels;", Cond.fieldLink RX3 28 "LandmarkLea" "searches" "LLandmarkLea$Searches;", Cond.fieldLink RX3 38 "LandmarkLea" "labelled" "Z", Cond.methodLink RX3 80 yX0_countOfEdges, Cond.instanceMethod yX0_countOfEdges, Cond.selects RX0 yX0_countOfEdges yX0_countOfEdges, Cond.initialized RX0, Cond.code yX0_countOfEdges cX0_countOfEdges 1 (some .int), Cond.fieldLink RX0 19 "LandmarkLea$Graph" "edgeCount" "I", Cond.methodLink RX3 83 yX0_cutAll, Cond.instanceMethod yX0_cutAll, Cond.selects RX0 yX0_cutAll yX0_cutAll, Cond.code yX0_cutAll cX0_cutAll 2 none, Cond.fieldLink RX0 9 "LandmarkLea$Graph" "neighbourSets" "[J", Cond.methodLink RX3 86 yX1_forget, Cond.instanceMethod yX1_forget, Cond.selects RX1 yX1_forget yX1_forget, Cond.initialized RX1, Cond.code yX1_forget cX1_forget 2 none, Cond.fieldLink RX1 18 "LandmarkLea$Labels" "rankedCount" "I", Cond.fieldLink RX1 22 "LandmarkLea$Labels" "hubSets" "[J", Cond.methodLink RX3 89 yX2_forgetCounts, Cond.instanceMethod yX2_forgetCounts]
def wsX3_clear_r2 : List Cond := [Cond.selects RX2 yX2_forgetCounts yX2_forgetCounts, Cond.initialized RX2, Cond.code yX2_forgetCounts cX2_forgetCounts 1 none, Cond.fieldLink RX2 37 "LandmarkLea$Searches" "visitCount" "I", Cond.fieldLink RX2 40 "LandmarkLea$Searches" "prunedCount" "I", Cond.fieldLink RX2 43 "LandmarkLea$Searches" "writtenCount" "I"]
def wsX3_clear : List Cond := .code yX3_clear cX3_clear 2 (some .int) :: ((wsX3_clear_r1 ++ wsX3_clear_r2) ++ wsX30 ++ wsX00 ++ wsX10 ++ wsX20)
def wsX3_vertices : List Cond := .code yX3_vertices cX3_vertices 1 (some .int) :: ([.fieldLink RX3 10 "LandmarkLea" "graph" "LLandmarkLea$Graph;", .methodLink RX3 57 yX0_size, .instanceMethod yX0_size, .selects RX0 yX0_size yX0_size, .initialized RX0, .code yX0_size cX0_size 1 (some .int), .fieldLink RX0 15 "LandmarkLea$Graph" "vertexCount" "I"] ++ wsX30 ++ wsX00)
def wsX3_edges : List Cond := .code yX3_edges cX3_edges 1 (some .int) :: ([.fieldLink RX3 10 "LandmarkLea" "graph" "LLandmarkLea$Graph;", .methodLink RX3 80 yX0_countOfEdges, .instanceMethod yX0_countOfEdges, .selects RX0 yX0_countOfEdges yX0_countOfEdges, .initialized RX0, .code yX0_countOfEdges cX0_countOfEdges 1 (some .int), .fieldLink RX0 19 "LandmarkLea$Graph" "edgeCount" "I"] ++ wsX30 ++ wsX00)
def wsX3_neighbours : List Cond := .code yX3_neighbours cX3_neighbours 2 (some .long) :: ([.fieldLink RX3 10 "LandmarkLea" "graph" "LLandmarkLea$Graph;", .methodLink RX3 60 yX3_requireVertex, .instanceMethod yX3_requireVertex, .selects RX3 yX3_requireVertex yX3_requireVertex, .initialized RX3, .code yX3_requireVertex cX3_requireVertex 2 none, .classLink RX3 171 "java/lang/IndexOutOfBoundsException", .initialized "java/lang/IndexOutOfBoundsException", .methodLink RX3 167 yX0_has, .instanceMethod yX0_has, .selects RX0 yX0_has yX0_has, .initialized RX0, .code yX0_has cX0_has 2 (some .boolean), .fieldLink RX0 15 "LandmarkLea$Graph" "vertexCount" "I", .methodLink RX3 92 yX0_adjacent, .instanceMethod yX0_adjacent, .selects RX0 yX0_adjacent yX0_adjacent, .code yX0_adjacent cX0_adjacent 2 (some .long), .fieldLink RX0 9 "LandmarkLea$Graph" "neighbourSets" "[J", .static yX3_isRow, .code yX3_isRow cX3_isRow 1 (some .boolean)] ++ wsX30 ++ wsX00 ++ (vx_atS RX3 175 "java/lang/IndexOutOfBoundsException" ["java/lang/RuntimeException", "java/lang/Exception"]).filter goodWord)
def wsX3_build_r1 : List Cond := [Cond.fieldLink RX3 38 "LandmarkLea" "labelled" "Z", Cond.fieldLink RX3 28 "LandmarkLea" "searches" "LLandmarkLea$Searches;", Cond.methodLink RX3 96 yX2_labelAll, Cond.instanceMethod yX2_labelAll, Cond.selects RX2 yX2_labelAll yX2_labelAll, Cond.initialized RX2, Cond.code yX2_labelAll cX2_labelAll 2 (some .int), Cond.fieldLink RX2 15 "LandmarkLea$Searches" "labels" "LLandmarkLea$Labels;", Cond.fieldLink RX2 9 "LandmarkLea$Searches" "graph" "LLandmarkLea$Graph;", Cond.fieldLink RX2 37 "LandmarkLea$Searches" "visitCount" "I", Cond.methodLink RX2 46 yX2_forgetCounts, Cond.instanceMethod yX2_forgetCounts, Cond.selects RX2 yX2_forgetCounts yX2_forgetCounts, Cond.code yX2_forgetCounts cX2_forgetCounts 1 none, Cond.fieldLink RX2 40 "LandmarkLea$Searches" "prunedCount" "I", Cond.fieldLink RX2 43 "LandmarkLea$Searches" "writtenCount" "I", Cond.methodLink RX2 49 yX1_forget, Cond.instanceMethod yX1_forget, Cond.selects RX1 yX1_forget yX1_forget, Cond.initialized RX1, Cond.code yX1_forget cX1_forget 2 none, Cond.fieldLink RX1 18 "LandmarkLea$Labels" "rankedCount" "I", Cond.fieldLink RX1 22 "LandmarkLea$Labels" "hubSets" "[J", Cond.methodLink RX2 54 yX1_rankAll]
def wsX3_build_r2 : List Cond := [Cond.instanceMethod yX1_rankAll, Cond.selects RX1 yX1_rankAll yX1_rankAll, Cond.code yX1_rankAll cX1_rankAll 4 none, Cond.methodLink RX1 32 yX0_size, Cond.instanceMethod yX0_size, Cond.selects RX0 yX0_size yX0_size, Cond.initialized RX0, Cond.code yX0_size cX0_size 1 (some .int), Cond.fieldLink RX0 15 "LandmarkLea$Graph" "vertexCount" "I", Cond.methodLink RX1 38 yX0_degree, Cond.instanceMethod yX0_degree, Cond.selects RX0 yX0_degree yX0_degree, Cond.code yX0_degree cX0_degree 2 (some .int), Cond.methodLink RX0 26 yX0_adjacent, Cond.instanceMethod yX0_adjacent, Cond.selects RX0 yX0_adjacent yX0_adjacent, Cond.code yX0_adjacent cX0_adjacent 2 (some .long), Cond.fieldLink RX0 9 "LandmarkLea$Graph" "neighbourSets" "[J", Cond.static yX3_isRow, Cond.initialized RX3, Cond.code yX3_isRow cX3_isRow 1 (some .boolean), Cond.methodLink RX0 34 yJ13_bitCount_95d88, Cond.static yJ13_bitCount_95d88, Cond.initialized RJ13]
def wsX3_build_r3 : List Cond := [Cond.code yJ13_bitCount_95d88 cJ13_bitCount_95d88 2 (some .int), Cond.constantLong RJ13 314 (6148914691236517205), Cond.constantLong RJ13 316 (3689348814741910323), Cond.constantLong RJ13 318 (1085102592571150095), Cond.methodLink RX1 42 yX1_rankNext, Cond.instanceMethod yX1_rankNext, Cond.selects RX1 yX1_rankNext yX1_rankNext, Cond.code yX1_rankNext cX1_rankNext 2 none, Cond.fieldLink RX1 9 "LandmarkLea$Labels" "ranks" "[I", Cond.fieldLink RX1 15 "LandmarkLea$Labels" "verticesByRank" "[I", Cond.methodLink RX2 58 yX0_size, Cond.methodLink RX2 64 yX1_vertexOf, Cond.instanceMethod yX1_vertexOf, Cond.selects RX1 yX1_vertexOf yX1_vertexOf, Cond.code yX1_vertexOf cX1_vertexOf 2 (some .int), Cond.methodLink RX2 68 yX2_search, Cond.instanceMethod yX2_search, Cond.selects RX2 yX2_search yX2_search, Cond.code yX2_search cX2_search 6 none, Cond.fieldLink RX2 29 "LandmarkLea$Searches" "queueLength" "I", Cond.fieldLink RX2 33 "LandmarkLea$Searches" "queuedSet" "J", Cond.fieldLink RX2 19 "LandmarkLea$Searches" "queueVertices" "[I", Cond.fieldLink RX2 23 "LandmarkLea$Searches" "queueDistances" "[I", Cond.fieldLink RX2 26 "LandmarkLea$Searches" "queueParents" "[I"]
def wsX3_build_r4 : List Cond := [Cond.methodLink RX2 76 yX2_enqueue, Cond.instanceMethod yX2_enqueue, Cond.selects RX2 yX2_enqueue yX2_enqueue, Cond.code yX2_enqueue cX2_enqueue 4 none, Cond.methodLink RX2 80 yX2_visit, Cond.instanceMethod yX2_visit, Cond.selects RX2 yX2_visit yX2_visit, Cond.code yX2_visit cX2_visit 8 none, Cond.constantLong RX2 98 (-1), Cond.methodLink RX2 87 yX1_reaches, Cond.instanceMethod yX1_reaches, Cond.selects RX1 yX1_reaches yX1_reaches, Cond.code yX1_reaches cX1_reaches 8 (some .boolean), Cond.methodLink RX1 67 yX1_vertexOf, Cond.methodLink RX1 70 yX1_commonHubs, Cond.instanceMethod yX1_commonHubs, Cond.selects RX1 yX1_commonHubs yX1_commonHubs, Cond.code yX1_commonHubs cX1_commonHubs 3 (some .long), Cond.static yX3_hasBit, Cond.code yX3_hasBit cX3_hasBit 3 (some .boolean), Cond.methodLink RX1 74 yX1_sumThrough, Cond.instanceMethod yX1_sumThrough, Cond.selects RX1 yX1_sumThrough yX1_sumThrough, Cond.code yX1_sumThrough cX1_sumThrough 4 (some .int)]
def wsX3_build_r5 : List Cond := [Cond.fieldLink RX1 26 "LandmarkLea$Labels" "distances" "[I", Cond.methodLink RX2 91 yX1_put, Cond.instanceMethod yX1_put, Cond.selects RX1 yX1_put yX1_put, Cond.code yX1_put cX1_put 5 none, Cond.fieldLink RX1 29 "LandmarkLea$Labels" "parents" "[I", Cond.methodLink RX2 94 yX0_adjacent]
def wsX3_build : List Cond := .code yX3_build cX3_build 1 (some .int) :: ((wsX3_build_r1 ++ (wsX3_build_r2 ++ (wsX3_build_r3 ++ (wsX3_build_r4 ++ wsX3_build_r5)))) ++ wsX30 ++ wsX20 ++ wsX10 ++ wsX00)
def wsX3_isBuilt : List Cond := .code yX3_isBuilt cX3_isBuilt 1 (some .boolean) :: ([.fieldLink RX3 38 "LandmarkLea" "labelled" "Z"] ++ wsX30)
def wsX3_requireLabelsOf : List Cond := .code yX3_requireLabelsOf cX3_requireLabelsOf 3 none :: ([.classLink RX3 67 "java/lang/IllegalStateException", .initialized "java/lang/IllegalStateException", .fieldLink RX3 38 "LandmarkLea" "labelled" "Z", .methodLink RX3 60 yX3_requireVertex, .instanceMethod yX3_requireVertex, .selects RX3 yX3_requireVertex yX3_requireVertex, .initialized RX3, .code yX3_requireVertex cX3_requireVertex 2 none, .classLink RX3 171 "java/lang/IndexOutOfBoundsException", .initialized "java/lang/IndexOutOfBoundsException", .fieldLink RX3 10 "LandmarkLea" "graph" "LLandmarkLea$Graph;", .methodLink RX3 167 yX0_has, .instanceMethod yX0_has, .selects RX0 yX0_has yX0_has, .initialized RX0, .code yX0_has cX0_has 2 (some .boolean), .fieldLink RX0 15 "LandmarkLea$Graph" "vertexCount" "I"] ++ wsX30 ++ wsX00 ++ (vx_atS RX3 71 "java/lang/IllegalStateException" ["java/lang/RuntimeException", "java/lang/Exception"]).filter goodWord ++ (vx_atS RX3 175 "java/lang/IndexOutOfBoundsException" ["java/lang/RuntimeException", "java/lang/Exception"]).filter goodWord)
def wsX3_requireLabelOf : List Cond := .code yX3_requireLabelOf cX3_requireLabelOf 2 none :: ([.methodLink RX3 127 yX3_requireLabelsOf, .instanceMethod yX3_requireLabelsOf, .selects RX3 yX3_requireLabelsOf yX3_requireLabelsOf, .initialized RX3, .code yX3_requireLabelsOf cX3_requireLabelsOf 3 none, .classLink RX3 67 "java/lang/IllegalStateException", .initialized "java/lang/IllegalStateException", .fieldLink RX3 38 "LandmarkLea" "labelled" "Z", .methodLink RX3 60 yX3_requireVertex, .instanceMethod yX3_requireVertex, .selects RX3 yX3_requireVertex yX3_requireVertex, .code yX3_requireVertex cX3_requireVertex 2 none, .classLink RX3 171 "java/lang/IndexOutOfBoundsException", .initialized "java/lang/IndexOutOfBoundsException", .fieldLink RX3 10 "LandmarkLea" "graph" "LLandmarkLea$Graph;", .methodLink RX3 167 yX0_has, .instanceMethod yX0_has, .selects RX0 yX0_has yX0_has, .initialized RX0, .code yX0_has cX0_has 2 (some .boolean), .fieldLink RX0 15 "LandmarkLea$Graph" "vertexCount" "I"] ++ wsX30 ++ wsX00 ++ (vx_atS RX3 71 "java/lang/IllegalStateException" ["java/lang/RuntimeException", "java/lang/Exception"]).filter goodWord ++ (vx_atS RX3 175 "java/lang/IndexOutOfBoundsException" ["java/lang/RuntimeException", "java/lang/Exception"]).filter goodWord)
def wsX3_rank_r1 : List Cond := [Cond.fieldLink RX3 19 "LandmarkLea" "labels" "LLandmarkLea$Labels;", Cond.methodLink RX3 99 yX3_requireLabelOf, Cond.instanceMethod yX3_requireLabelOf, Cond.selects RX3 yX3_requireLabelOf yX3_requireLabelOf, Cond.initialized RX3, Cond.code yX3_requireLabelOf cX3_requireLabelOf 2 none, Cond.methodLink RX3 127 yX3_requireLabelsOf, Cond.instanceMethod yX3_requireLabelsOf, Cond.selects RX3 yX3_requireLabelsOf yX3_requireLabelsOf, Cond.code yX3_requireLabelsOf cX3_requireLabelsOf 3 none, Cond.classLink RX3 67 "java/lang/IllegalStateException", Cond.initialized "java/lang/IllegalStateException", Cond.fieldLink RX3 38 "LandmarkLea" "labelled" "Z", Cond.methodLink RX3 60 yX3_requireVertex, Cond.instanceMethod yX3_requireVertex, Cond.selects RX3 yX3_requireVertex yX3_requireVertex, Cond.code yX3_requireVertex cX3_requireVertex 2 none, Cond.classLink RX3 171 "java/lang/IndexOutOfBoundsException", Cond.initialized "java/lang/IndexOutOfBoundsException", Cond.fieldLink RX3 10 "LandmarkLea" "graph" "LLandmarkLea$Graph;", Cond.methodLink RX3 167 yX0_has, Cond.instanceMethod yX0_has, Cond.selects RX0 yX0_has yX0_has, Cond.initialized RX0]
def wsX3_rank_r2 : List Cond := [Cond.code yX0_has cX0_has 2 (some .boolean), Cond.fieldLink RX0 15 "LandmarkLea$Graph" "vertexCount" "I", Cond.methodLink RX3 102 yX1_rankOf, Cond.instanceMethod yX1_rankOf, Cond.selects RX1 yX1_rankOf yX1_rankOf, Cond.initialized RX1, Cond.code yX1_rankOf cX1_rankOf 2 (some .int), Cond.fieldLink RX1 9 "LandmarkLea$Labels" "ranks" "[I", Cond.static yX3_isRow, Cond.code yX3_isRow cX3_isRow 1 (some .boolean)]
def wsX3_rank : List Cond := .code yX3_rank cX3_rank 2 (some .int) :: ((wsX3_rank_r1 ++ wsX3_rank_r2) ++ wsX30 ++ wsX00 ++ wsX10 ++ (vx_atS RX3 71 "java/lang/IllegalStateException" ["java/lang/RuntimeException", "java/lang/Exception"]).filter goodWord ++ (vx_atS RX3 175 "java/lang/IndexOutOfBoundsException" ["java/lang/RuntimeException", "java/lang/Exception"]).filter goodWord)
def wsX3_entries : List Cond := .code yX3_entries cX3_entries 1 (some .int) :: ([.fieldLink RX3 38 "LandmarkLea" "labelled" "Z", .fieldLink RX3 19 "LandmarkLea" "labels" "LLandmarkLea$Labels;", .methodLink RX3 106 yX1_countAll, .instanceMethod yX1_countAll, .selects RX1 yX1_countAll yX1_countAll, .initialized RX1, .code yX1_countAll cX1_countAll 3 (some .int), .methodLink RX1 64 yX1_countOf, .instanceMethod yX1_countOf, .selects RX1 yX1_countOf yX1_countOf, .code yX1_countOf cX1_countOf 2 (some .int), .fieldLink RX1 22 "LandmarkLea$Labels" "hubSets" "[J", .static yX3_isRow, .initialized RX3, .code yX3_isRow cX3_isRow 1 (some .boolean), .methodLink RX1 58 yJ13_bitCount_95d88, .static yJ13_bitCount_95d88, .initialized RJ13, .code yJ13_bitCount_95d88 cJ13_bitCount_95d88 2 (some .int), .constantLong RJ13 314 (6148914691236517205), .constantLong RJ13 316 (3689348814741910323), .constantLong RJ13 318 (1085102592571150095)] ++ wsX30 ++ wsX10)
def wsX3_entriesIfBuilt_r1 : List Cond := [Cond.fieldLink RX3 35 "LandmarkLea" "trialSearches" "LLandmarkLea$Searches;", Cond.fieldLink RX3 32 "LandmarkLea" "trialLabels" "LLandmarkLea$Labels;", Cond.methodLink RX3 96 yX2_labelAll, Cond.instanceMethod yX2_labelAll, Cond.selects RX2 yX2_labelAll yX2_labelAll, Cond.initialized RX2, Cond.code yX2_labelAll cX2_labelAll 2 (some .int), Cond.fieldLink RX2 15 "LandmarkLea$Searches" "labels" "LLandmarkLea$Labels;", Cond.fieldLink RX2 9 "LandmarkLea$Searches" "graph" "LLandmarkLea$Graph;", Cond.fieldLink RX2 37 "LandmarkLea$Searches" "visitCount" "I", Cond.methodLink RX2 46 yX2_forgetCounts, Cond.instanceMethod yX2_forgetCounts, Cond.selects RX2 yX2_forgetCounts yX2_forgetCounts, Cond.code yX2_forgetCounts cX2_forgetCounts 1 none, Cond.fieldLink RX2 40 "LandmarkLea$Searches" "prunedCount" "I", Cond.fieldLink RX2 43 "LandmarkLea$Searches" "writtenCount" "I", Cond.methodLink RX2 49 yX1_forget, Cond.instanceMethod yX1_forget, Cond.selects RX1 yX1_forget yX1_forget, Cond.initialized RX1, Cond.code yX1_forget cX1_forget 2 none, Cond.fieldLink RX1 18 "LandmarkLea$Labels" "rankedCount" "I", Cond.fieldLink RX1 22 "LandmarkLea$Labels" "hubSets" "[J", Cond.methodLink RX2 54 yX1_rankAll]
def wsX3_entriesIfBuilt_r2 : List Cond := [Cond.instanceMethod yX1_rankAll, Cond.selects RX1 yX1_rankAll yX1_rankAll, Cond.code yX1_rankAll cX1_rankAll 4 none, Cond.methodLink RX1 32 yX0_size, Cond.instanceMethod yX0_size, Cond.selects RX0 yX0_size yX0_size, Cond.initialized RX0, Cond.code yX0_size cX0_size 1 (some .int), Cond.fieldLink RX0 15 "LandmarkLea$Graph" "vertexCount" "I", Cond.methodLink RX1 38 yX0_degree, Cond.instanceMethod yX0_degree, Cond.selects RX0 yX0_degree yX0_degree, Cond.code yX0_degree cX0_degree 2 (some .int), Cond.methodLink RX0 26 yX0_adjacent, Cond.instanceMethod yX0_adjacent, Cond.selects RX0 yX0_adjacent yX0_adjacent, Cond.code yX0_adjacent cX0_adjacent 2 (some .long), Cond.fieldLink RX0 9 "LandmarkLea$Graph" "neighbourSets" "[J", Cond.static yX3_isRow, Cond.initialized RX3, Cond.code yX3_isRow cX3_isRow 1 (some .boolean), Cond.methodLink RX0 34 yJ13_bitCount_95d88, Cond.static yJ13_bitCount_95d88, Cond.initialized RJ13]
def wsX3_entriesIfBuilt_r3 : List Cond := [Cond.code yJ13_bitCount_95d88 cJ13_bitCount_95d88 2 (some .int), Cond.constantLong RJ13 314 (6148914691236517205), Cond.constantLong RJ13 316 (3689348814741910323), Cond.constantLong RJ13 318 (1085102592571150095), Cond.methodLink RX1 42 yX1_rankNext, Cond.instanceMethod yX1_rankNext, Cond.selects RX1 yX1_rankNext yX1_rankNext, Cond.code yX1_rankNext cX1_rankNext 2 none, Cond.fieldLink RX1 9 "LandmarkLea$Labels" "ranks" "[I", Cond.fieldLink RX1 15 "LandmarkLea$Labels" "verticesByRank" "[I", Cond.methodLink RX2 58 yX0_size, Cond.methodLink RX2 64 yX1_vertexOf, Cond.instanceMethod yX1_vertexOf, Cond.selects RX1 yX1_vertexOf yX1_vertexOf, Cond.code yX1_vertexOf cX1_vertexOf 2 (some .int), Cond.methodLink RX2 68 yX2_search, Cond.instanceMethod yX2_search, Cond.selects RX2 yX2_search yX2_search, Cond.code yX2_search cX2_search 6 none, Cond.fieldLink RX2 29 "LandmarkLea$Searches" "queueLength" "I", Cond.fieldLink RX2 33 "LandmarkLea$Searches" "queuedSet" "J", Cond.fieldLink RX2 19 "LandmarkLea$Searches" "queueVertices" "[I", Cond.fieldLink RX2 23 "LandmarkLea$Searches" "queueDistances" "[I", Cond.fieldLink RX2 26 "LandmarkLea$Searches" "queueParents" "[I"]
def wsX3_entriesIfBuilt_r4 : List Cond := [Cond.methodLink RX2 76 yX2_enqueue, Cond.instanceMethod yX2_enqueue, Cond.selects RX2 yX2_enqueue yX2_enqueue, Cond.code yX2_enqueue cX2_enqueue 4 none, Cond.methodLink RX2 80 yX2_visit, Cond.instanceMethod yX2_visit, Cond.selects RX2 yX2_visit yX2_visit, Cond.code yX2_visit cX2_visit 8 none, Cond.constantLong RX2 98 (-1), Cond.methodLink RX2 87 yX1_reaches, Cond.instanceMethod yX1_reaches, Cond.selects RX1 yX1_reaches yX1_reaches, Cond.code yX1_reaches cX1_reaches 8 (some .boolean), Cond.methodLink RX1 67 yX1_vertexOf, Cond.methodLink RX1 70 yX1_commonHubs, Cond.instanceMethod yX1_commonHubs, Cond.selects RX1 yX1_commonHubs yX1_commonHubs, Cond.code yX1_commonHubs cX1_commonHubs 3 (some .long), Cond.static yX3_hasBit, Cond.code yX3_hasBit cX3_hasBit 3 (some .boolean), Cond.methodLink RX1 74 yX1_sumThrough, Cond.instanceMethod yX1_sumThrough, Cond.selects RX1 yX1_sumThrough yX1_sumThrough, Cond.code yX1_sumThrough cX1_sumThrough 4 (some .int)]
def wsX3_entriesIfBuilt_r5 : List Cond := [Cond.fieldLink RX1 26 "LandmarkLea$Labels" "distances" "[I", Cond.methodLink RX2 91 yX1_put, Cond.instanceMethod yX1_put, Cond.selects RX1 yX1_put yX1_put, Cond.code yX1_put cX1_put 5 none, Cond.fieldLink RX1 29 "LandmarkLea$Labels" "parents" "[I", Cond.methodLink RX2 94 yX0_adjacent, Cond.methodLink RX3 106 yX1_countAll, Cond.instanceMethod yX1_countAll, Cond.selects RX1 yX1_countAll yX1_countAll, Cond.code yX1_countAll cX1_countAll 3 (some .int), Cond.methodLink RX1 64 yX1_countOf, Cond.instanceMethod yX1_countOf, Cond.selects RX1 yX1_countOf yX1_countOf, Cond.code yX1_countOf cX1_countOf 2 (some .int), Cond.methodLink RX1 58 yJ13_bitCount_95d88]
def wsX3_entriesIfBuilt : List Cond := .code yX3_entriesIfBuilt cX3_entriesIfBuilt 1 (some .int) :: ((wsX3_entriesIfBuilt_r1 ++ (wsX3_entriesIfBuilt_r2 ++ (wsX3_entriesIfBuilt_r3 ++ (wsX3_entriesIfBuilt_r4 ++ wsX3_entriesIfBuilt_r5)))) ++ wsX30 ++ wsX20 ++ wsX10 ++ wsX00)
def wsX3_labelSize_r1 : List Cond := [Cond.fieldLink RX3 19 "LandmarkLea" "labels" "LLandmarkLea$Labels;", Cond.methodLink RX3 99 yX3_requireLabelOf, Cond.instanceMethod yX3_requireLabelOf, Cond.selects RX3 yX3_requireLabelOf yX3_requireLabelOf, Cond.initialized RX3, Cond.code yX3_requireLabelOf cX3_requireLabelOf 2 none, Cond.methodLink RX3 127 yX3_requireLabelsOf, Cond.instanceMethod yX3_requireLabelsOf, Cond.selects RX3 yX3_requireLabelsOf yX3_requireLabelsOf, Cond.code yX3_requireLabelsOf cX3_requireLabelsOf 3 none, Cond.classLink RX3 67 "java/lang/IllegalStateException", Cond.initialized "java/lang/IllegalStateException", Cond.fieldLink RX3 38 "LandmarkLea" "labelled" "Z", Cond.methodLink RX3 60 yX3_requireVertex, Cond.instanceMethod yX3_requireVertex, Cond.selects RX3 yX3_requireVertex yX3_requireVertex, Cond.code yX3_requireVertex cX3_requireVertex 2 none, Cond.classLink RX3 171 "java/lang/IndexOutOfBoundsException", Cond.initialized "java/lang/IndexOutOfBoundsException", Cond.fieldLink RX3 10 "LandmarkLea" "graph" "LLandmarkLea$Graph;", Cond.methodLink RX3 167 yX0_has, Cond.instanceMethod yX0_has, Cond.selects RX0 yX0_has yX0_has, Cond.initialized RX0]
def wsX3_labelSize_r2 : List Cond := [Cond.code yX0_has cX0_has 2 (some .boolean), Cond.fieldLink RX0 15 "LandmarkLea$Graph" "vertexCount" "I", Cond.methodLink RX3 109 yX1_countOf, Cond.instanceMethod yX1_countOf, Cond.selects RX1 yX1_countOf yX1_countOf, Cond.initialized RX1, Cond.code yX1_countOf cX1_countOf 2 (some .int), Cond.fieldLink RX1 22 "LandmarkLea$Labels" "hubSets" "[J", Cond.static yX3_isRow, Cond.code yX3_isRow cX3_isRow 1 (some .boolean), Cond.methodLink RX1 58 yJ13_bitCount_95d88, Cond.static yJ13_bitCount_95d88, Cond.initialized RJ13, Cond.code yJ13_bitCount_95d88 cJ13_bitCount_95d88 2 (some .int), Cond.constantLong RJ13 314 (6148914691236517205), Cond.constantLong RJ13 316 (3689348814741910323), Cond.constantLong RJ13 318 (1085102592571150095)]
def wsX3_labelSize : List Cond := .code yX3_labelSize cX3_labelSize 2 (some .int) :: ((wsX3_labelSize_r1 ++ wsX3_labelSize_r2) ++ wsX30 ++ wsX00 ++ wsX10 ++ (vx_atS RX3 71 "java/lang/IllegalStateException" ["java/lang/RuntimeException", "java/lang/Exception"]).filter goodWord ++ (vx_atS RX3 175 "java/lang/IndexOutOfBoundsException" ["java/lang/RuntimeException", "java/lang/Exception"]).filter goodWord)
def wsX3_requireEntry : List Cond := .code yX3_requireEntry cX3_requireEntry 3 none :: ([.classLink RX3 50 "java/lang/IllegalArgumentException", .initialized "java/lang/IllegalArgumentException", .fieldLink RX3 19 "LandmarkLea" "labels" "LLandmarkLea$Labels;", .methodLink RX3 109 yX1_countOf, .instanceMethod yX1_countOf, .selects RX1 yX1_countOf yX1_countOf, .initialized RX1, .code yX1_countOf cX1_countOf 2 (some .int), .fieldLink RX1 22 "LandmarkLea$Labels" "hubSets" "[J", .static yX3_isRow, .initialized RX3, .code yX3_isRow cX3_isRow 1 (some .boolean), .methodLink RX1 58 yJ13_bitCount_95d88, .static yJ13_bitCount_95d88, .initialized RJ13, .code yJ13_bitCount_95d88 cJ13_bitCount_95d88 2 (some .int), .constantLong RJ13 314 (6148914691236517205), .constantLong RJ13 316 (3689348814741910323), .constantLong RJ13 318 (1085102592571150095)] ++ wsX30 ++ wsX10 ++ (vx_atS RX3 54 "java/lang/IllegalArgumentException" ["java/lang/RuntimeException", "java/lang/Exception"]).filter goodWord)
def wsX3_entryHub_r1 : List Cond := [Cond.fieldLink RX3 19 "LandmarkLea" "labels" "LLandmarkLea$Labels;", Cond.methodLink RX3 99 yX3_requireLabelOf, Cond.instanceMethod yX3_requireLabelOf, Cond.selects RX3 yX3_requireLabelOf yX3_requireLabelOf, Cond.initialized RX3, Cond.code yX3_requireLabelOf cX3_requireLabelOf 2 none, Cond.methodLink RX3 127 yX3_requireLabelsOf, Cond.instanceMethod yX3_requireLabelsOf, Cond.selects RX3 yX3_requireLabelsOf yX3_requireLabelsOf, Cond.code yX3_requireLabelsOf cX3_requireLabelsOf 3 none, Cond.classLink RX3 67 "java/lang/IllegalStateException", Cond.initialized "java/lang/IllegalStateException", Cond.fieldLink RX3 38 "LandmarkLea" "labelled" "Z", Cond.methodLink RX3 60 yX3_requireVertex, Cond.instanceMethod yX3_requireVertex, Cond.selects RX3 yX3_requireVertex yX3_requireVertex, Cond.code yX3_requireVertex cX3_requireVertex 2 none, Cond.classLink RX3 171 "java/lang/IndexOutOfBoundsException", Cond.initialized "java/lang/IndexOutOfBoundsException", Cond.fieldLink RX3 10 "LandmarkLea" "graph" "LLandmarkLea$Graph;", Cond.methodLink RX3 167 yX0_has, Cond.instanceMethod yX0_has, Cond.selects RX0 yX0_has yX0_has, Cond.initialized RX0]
def wsX3_entryHub_r2 : List Cond := [Cond.code yX0_has cX0_has 2 (some .boolean), Cond.fieldLink RX0 15 "LandmarkLea$Graph" "vertexCount" "I", Cond.methodLink RX3 112 yX3_requireEntry, Cond.instanceMethod yX3_requireEntry, Cond.selects RX3 yX3_requireEntry yX3_requireEntry, Cond.code yX3_requireEntry cX3_requireEntry 3 none, Cond.classLink RX3 50 "java/lang/IllegalArgumentException", Cond.initialized "java/lang/IllegalArgumentException", Cond.methodLink RX3 109 yX1_countOf, Cond.instanceMethod yX1_countOf, Cond.selects RX1 yX1_countOf yX1_countOf, Cond.initialized RX1, Cond.code yX1_countOf cX1_countOf 2 (some .int), Cond.fieldLink RX1 22 "LandmarkLea$Labels" "hubSets" "[J", Cond.static yX3_isRow, Cond.code yX3_isRow cX3_isRow 1 (some .boolean), Cond.methodLink RX1 58 yJ13_bitCount_95d88, Cond.static yJ13_bitCount_95d88, Cond.initialized RJ13, Cond.code yJ13_bitCount_95d88 cJ13_bitCount_95d88 2 (some .int), Cond.constantLong RJ13 314 (6148914691236517205), Cond.constantLong RJ13 316 (3689348814741910323), Cond.constantLong RJ13 318 (1085102592571150095), Cond.methodLink RX3 115 yX1_hubRankOfEntry]
def wsX3_entryHub_r3 : List Cond := [Cond.instanceMethod yX1_hubRankOfEntry, Cond.selects RX1 yX1_hubRankOfEntry yX1_hubRankOfEntry, Cond.code yX1_hubRankOfEntry cX1_hubRankOfEntry 5 (some .int), Cond.static yX3_hasBit, Cond.code yX3_hasBit cX3_hasBit 3 (some .boolean), Cond.methodLink RX3 118 yX1_vertexOf, Cond.instanceMethod yX1_vertexOf, Cond.selects RX1 yX1_vertexOf yX1_vertexOf, Cond.code yX1_vertexOf cX1_vertexOf 2 (some .int), Cond.fieldLink RX1 15 "LandmarkLea$Labels" "verticesByRank" "[I"]
def wsX3_entryHub : List Cond := .code yX3_entryHub cX3_entryHub 3 (some .int) :: ((wsX3_entryHub_r1 ++ (wsX3_entryHub_r2 ++ wsX3_entryHub_r3)) ++ wsX30 ++ wsX00 ++ wsX10 ++ (vx_atS RX3 71 "java/lang/IllegalStateException" ["java/lang/RuntimeException", "java/lang/Exception"]).filter goodWord ++ (vx_atS RX3 175 "java/lang/IndexOutOfBoundsException" ["java/lang/RuntimeException", "java/lang/Exception"]).filter goodWord ++ (vx_atS RX3 54 "java/lang/IllegalArgumentException" ["java/lang/RuntimeException", "java/lang/Exception"]).filter goodWord)
def wsX3_entryDistance_r1 : List Cond := [Cond.fieldLink RX3 19 "LandmarkLea" "labels" "LLandmarkLea$Labels;", Cond.methodLink RX3 99 yX3_requireLabelOf, Cond.instanceMethod yX3_requireLabelOf, Cond.selects RX3 yX3_requireLabelOf yX3_requireLabelOf, Cond.initialized RX3, Cond.code yX3_requireLabelOf cX3_requireLabelOf 2 none, Cond.methodLink RX3 127 yX3_requireLabelsOf, Cond.instanceMethod yX3_requireLabelsOf, Cond.selects RX3 yX3_requireLabelsOf yX3_requireLabelsOf, Cond.code yX3_requireLabelsOf cX3_requireLabelsOf 3 none, Cond.classLink RX3 67 "java/lang/IllegalStateException", Cond.initialized "java/lang/IllegalStateException", Cond.fieldLink RX3 38 "LandmarkLea" "labelled" "Z", Cond.methodLink RX3 60 yX3_requireVertex, Cond.instanceMethod yX3_requireVertex, Cond.selects RX3 yX3_requireVertex yX3_requireVertex, Cond.code yX3_requireVertex cX3_requireVertex 2 none, Cond.classLink RX3 171 "java/lang/IndexOutOfBoundsException", Cond.initialized "java/lang/IndexOutOfBoundsException", Cond.fieldLink RX3 10 "LandmarkLea" "graph" "LLandmarkLea$Graph;", Cond.methodLink RX3 167 yX0_has, Cond.instanceMethod yX0_has, Cond.selects RX0 yX0_has yX0_has, Cond.initialized RX0]
def wsX3_entryDistance_r2 : List Cond := [Cond.code yX0_has cX0_has 2 (some .boolean), Cond.fieldLink RX0 15 "LandmarkLea$Graph" "vertexCount" "I", Cond.methodLink RX3 112 yX3_requireEntry, Cond.instanceMethod yX3_requireEntry, Cond.selects RX3 yX3_requireEntry yX3_requireEntry, Cond.code yX3_requireEntry cX3_requireEntry 3 none, Cond.classLink RX3 50 "java/lang/IllegalArgumentException", Cond.initialized "java/lang/IllegalArgumentException", Cond.methodLink RX3 109 yX1_countOf, Cond.instanceMethod yX1_countOf, Cond.selects RX1 yX1_countOf yX1_countOf, Cond.initialized RX1, Cond.code yX1_countOf cX1_countOf 2 (some .int), Cond.fieldLink RX1 22 "LandmarkLea$Labels" "hubSets" "[J", Cond.static yX3_isRow, Cond.code yX3_isRow cX3_isRow 1 (some .boolean), Cond.methodLink RX1 58 yJ13_bitCount_95d88, Cond.static yJ13_bitCount_95d88, Cond.initialized RJ13, Cond.code yJ13_bitCount_95d88 cJ13_bitCount_95d88 2 (some .int), Cond.constantLong RJ13 314 (6148914691236517205), Cond.constantLong RJ13 316 (3689348814741910323), Cond.constantLong RJ13 318 (1085102592571150095), Cond.methodLink RX3 115 yX1_hubRankOfEntry]
def wsX3_entryDistance_r3 : List Cond := [Cond.instanceMethod yX1_hubRankOfEntry, Cond.selects RX1 yX1_hubRankOfEntry yX1_hubRankOfEntry, Cond.code yX1_hubRankOfEntry cX1_hubRankOfEntry 5 (some .int), Cond.static yX3_hasBit, Cond.code yX3_hasBit cX3_hasBit 3 (some .boolean), Cond.methodLink RX3 121 yX1_distanceTo, Cond.instanceMethod yX1_distanceTo, Cond.selects RX1 yX1_distanceTo yX1_distanceTo, Cond.code yX1_distanceTo cX1_distanceTo 3 (some .int), Cond.fieldLink RX1 26 "LandmarkLea$Labels" "distances" "[I", Cond.methodLink RX1 54 yX1_hasEntry, Cond.instanceMethod yX1_hasEntry, Cond.selects RX1 yX1_hasEntry yX1_hasEntry, Cond.code yX1_hasEntry cX1_hasEntry 3 (some .boolean)]
def wsX3_entryDistance : List Cond := .code yX3_entryDistance cX3_entryDistance 3 (some .int) :: ((wsX3_entryDistance_r1 ++ (wsX3_entryDistance_r2 ++ wsX3_entryDistance_r3)) ++ wsX30 ++ wsX00 ++ wsX10 ++ (vx_atS RX3 71 "java/lang/IllegalStateException" ["java/lang/RuntimeException", "java/lang/Exception"]).filter goodWord ++ (vx_atS RX3 175 "java/lang/IndexOutOfBoundsException" ["java/lang/RuntimeException", "java/lang/Exception"]).filter goodWord ++ (vx_atS RX3 54 "java/lang/IllegalArgumentException" ["java/lang/RuntimeException", "java/lang/Exception"]).filter goodWord)
def wsX3_entryParent_r1 : List Cond := [Cond.fieldLink RX3 19 "LandmarkLea" "labels" "LLandmarkLea$Labels;", Cond.methodLink RX3 99 yX3_requireLabelOf, Cond.instanceMethod yX3_requireLabelOf, Cond.selects RX3 yX3_requireLabelOf yX3_requireLabelOf, Cond.initialized RX3, Cond.code yX3_requireLabelOf cX3_requireLabelOf 2 none, Cond.methodLink RX3 127 yX3_requireLabelsOf, Cond.instanceMethod yX3_requireLabelsOf, Cond.selects RX3 yX3_requireLabelsOf yX3_requireLabelsOf, Cond.code yX3_requireLabelsOf cX3_requireLabelsOf 3 none, Cond.classLink RX3 67 "java/lang/IllegalStateException", Cond.initialized "java/lang/IllegalStateException", Cond.fieldLink RX3 38 "LandmarkLea" "labelled" "Z", Cond.methodLink RX3 60 yX3_requireVertex, Cond.instanceMethod yX3_requireVertex, Cond.selects RX3 yX3_requireVertex yX3_requireVertex, Cond.code yX3_requireVertex cX3_requireVertex 2 none, Cond.classLink RX3 171 "java/lang/IndexOutOfBoundsException", Cond.initialized "java/lang/IndexOutOfBoundsException", Cond.fieldLink RX3 10 "LandmarkLea" "graph" "LLandmarkLea$Graph;", Cond.methodLink RX3 167 yX0_has, Cond.instanceMethod yX0_has, Cond.selects RX0 yX0_has yX0_has, Cond.initialized RX0]
def wsX3_entryParent_r2 : List Cond := [Cond.code yX0_has cX0_has 2 (some .boolean), Cond.fieldLink RX0 15 "LandmarkLea$Graph" "vertexCount" "I", Cond.methodLink RX3 112 yX3_requireEntry, Cond.instanceMethod yX3_requireEntry, Cond.selects RX3 yX3_requireEntry yX3_requireEntry, Cond.code yX3_requireEntry cX3_requireEntry 3 none, Cond.classLink RX3 50 "java/lang/IllegalArgumentException", Cond.initialized "java/lang/IllegalArgumentException", Cond.methodLink RX3 109 yX1_countOf, Cond.instanceMethod yX1_countOf, Cond.selects RX1 yX1_countOf yX1_countOf, Cond.initialized RX1, Cond.code yX1_countOf cX1_countOf 2 (some .int), Cond.fieldLink RX1 22 "LandmarkLea$Labels" "hubSets" "[J", Cond.static yX3_isRow, Cond.code yX3_isRow cX3_isRow 1 (some .boolean), Cond.methodLink RX1 58 yJ13_bitCount_95d88, Cond.static yJ13_bitCount_95d88, Cond.initialized RJ13, Cond.code yJ13_bitCount_95d88 cJ13_bitCount_95d88 2 (some .int), Cond.constantLong RJ13 314 (6148914691236517205), Cond.constantLong RJ13 316 (3689348814741910323), Cond.constantLong RJ13 318 (1085102592571150095), Cond.methodLink RX3 115 yX1_hubRankOfEntry]
def wsX3_entryParent_r3 : List Cond := [Cond.instanceMethod yX1_hubRankOfEntry, Cond.selects RX1 yX1_hubRankOfEntry yX1_hubRankOfEntry, Cond.code yX1_hubRankOfEntry cX1_hubRankOfEntry 5 (some .int), Cond.static yX3_hasBit, Cond.code yX3_hasBit cX3_hasBit 3 (some .boolean), Cond.methodLink RX3 124 yX1_parentTowards, Cond.instanceMethod yX1_parentTowards, Cond.selects RX1 yX1_parentTowards yX1_parentTowards, Cond.code yX1_parentTowards cX1_parentTowards 3 (some .int), Cond.fieldLink RX1 29 "LandmarkLea$Labels" "parents" "[I", Cond.methodLink RX1 54 yX1_hasEntry, Cond.instanceMethod yX1_hasEntry, Cond.selects RX1 yX1_hasEntry yX1_hasEntry, Cond.code yX1_hasEntry cX1_hasEntry 3 (some .boolean)]
def wsX3_entryParent : List Cond := .code yX3_entryParent cX3_entryParent 3 (some .int) :: ((wsX3_entryParent_r1 ++ (wsX3_entryParent_r2 ++ wsX3_entryParent_r3)) ++ wsX30 ++ wsX00 ++ wsX10 ++ (vx_atS RX3 71 "java/lang/IllegalStateException" ["java/lang/RuntimeException", "java/lang/Exception"]).filter goodWord ++ (vx_atS RX3 175 "java/lang/IndexOutOfBoundsException" ["java/lang/RuntimeException", "java/lang/Exception"]).filter goodWord ++ (vx_atS RX3 54 "java/lang/IllegalArgumentException" ["java/lang/RuntimeException", "java/lang/Exception"]).filter goodWord)
def wsX3_distance_r1 : List Cond := [Cond.fieldLink RX3 19 "LandmarkLea" "labels" "LLandmarkLea$Labels;", Cond.methodLink RX3 127 yX3_requireLabelsOf, Cond.instanceMethod yX3_requireLabelsOf, Cond.selects RX3 yX3_requireLabelsOf yX3_requireLabelsOf, Cond.initialized RX3, Cond.code yX3_requireLabelsOf cX3_requireLabelsOf 3 none, Cond.classLink RX3 67 "java/lang/IllegalStateException", Cond.initialized "java/lang/IllegalStateException", Cond.fieldLink RX3 38 "LandmarkLea" "labelled" "Z", Cond.methodLink RX3 60 yX3_requireVertex, Cond.instanceMethod yX3_requireVertex, Cond.selects RX3 yX3_requireVertex yX3_requireVertex, Cond.code yX3_requireVertex cX3_requireVertex 2 none, Cond.classLink RX3 171 "java/lang/IndexOutOfBoundsException", Cond.initialized "java/lang/IndexOutOfBoundsException", Cond.fieldLink RX3 10 "LandmarkLea" "graph" "LLandmarkLea$Graph;", Cond.methodLink RX3 167 yX0_has, Cond.instanceMethod yX0_has, Cond.selects RX0 yX0_has yX0_has, Cond.initialized RX0, Cond.code yX0_has cX0_has 2 (some .boolean), Cond.fieldLink RX0 15 "LandmarkLea$Graph" "vertexCount" "I", Cond.methodLink RX3 130 yX1_estimate, Cond.instanceMethod yX1_estimate]
def wsX3_distance_r2 : List Cond := [Cond.selects RX1 yX1_estimate yX1_estimate, Cond.initialized RX1, Cond.code yX1_estimate cX1_estimate 4 (some .int), Cond.methodLink RX1 78 yX1_meetingRank, Cond.instanceMethod yX1_meetingRank, Cond.selects RX1 yX1_meetingRank yX1_meetingRank, Cond.code yX1_meetingRank cX1_meetingRank 7 (some .int), Cond.methodLink RX1 70 yX1_commonHubs, Cond.instanceMethod yX1_commonHubs, Cond.selects RX1 yX1_commonHubs yX1_commonHubs, Cond.code yX1_commonHubs cX1_commonHubs 3 (some .long), Cond.fieldLink RX1 22 "LandmarkLea$Labels" "hubSets" "[J", Cond.static yX3_isRow, Cond.code yX3_isRow cX3_isRow 1 (some .boolean), Cond.static yX3_hasBit, Cond.code yX3_hasBit cX3_hasBit 3 (some .boolean), Cond.methodLink RX1 74 yX1_sumThrough, Cond.instanceMethod yX1_sumThrough, Cond.selects RX1 yX1_sumThrough yX1_sumThrough, Cond.code yX1_sumThrough cX1_sumThrough 4 (some .int), Cond.fieldLink RX1 26 "LandmarkLea$Labels" "distances" "[I"]
def wsX3_distance : List Cond := .code yX3_distance cX3_distance 3 (some .int) :: ((wsX3_distance_r1 ++ wsX3_distance_r2) ++ wsX30 ++ wsX00 ++ wsX10 ++ (vx_atS RX3 71 "java/lang/IllegalStateException" ["java/lang/RuntimeException", "java/lang/Exception"]).filter goodWord ++ (vx_atS RX3 175 "java/lang/IndexOutOfBoundsException" ["java/lang/RuntimeException", "java/lang/Exception"]).filter goodWord)
def wsX3_hub_r1 : List Cond := [Cond.fieldLink RX3 19 "LandmarkLea" "labels" "LLandmarkLea$Labels;", Cond.methodLink RX3 127 yX3_requireLabelsOf, Cond.instanceMethod yX3_requireLabelsOf, Cond.selects RX3 yX3_requireLabelsOf yX3_requireLabelsOf, Cond.initialized RX3, Cond.code yX3_requireLabelsOf cX3_requireLabelsOf 3 none, Cond.classLink RX3 67 "java/lang/IllegalStateException", Cond.initialized "java/lang/IllegalStateException", Cond.fieldLink RX3 38 "LandmarkLea" "labelled" "Z", Cond.methodLink RX3 60 yX3_requireVertex, Cond.instanceMethod yX3_requireVertex, Cond.selects RX3 yX3_requireVertex yX3_requireVertex, Cond.code yX3_requireVertex cX3_requireVertex 2 none, Cond.classLink RX3 171 "java/lang/IndexOutOfBoundsException", Cond.initialized "java/lang/IndexOutOfBoundsException", Cond.fieldLink RX3 10 "LandmarkLea" "graph" "LLandmarkLea$Graph;", Cond.methodLink RX3 167 yX0_has, Cond.instanceMethod yX0_has, Cond.selects RX0 yX0_has yX0_has, Cond.initialized RX0, Cond.code yX0_has cX0_has 2 (some .boolean), Cond.fieldLink RX0 15 "LandmarkLea$Graph" "vertexCount" "I", Cond.methodLink RX3 133 yX1_meetingRank, Cond.instanceMethod yX1_meetingRank]
def wsX3_hub_r2 : List Cond := [Cond.selects RX1 yX1_meetingRank yX1_meetingRank, Cond.initialized RX1, Cond.code yX1_meetingRank cX1_meetingRank 7 (some .int), Cond.methodLink RX1 70 yX1_commonHubs, Cond.instanceMethod yX1_commonHubs, Cond.selects RX1 yX1_commonHubs yX1_commonHubs, Cond.code yX1_commonHubs cX1_commonHubs 3 (some .long), Cond.fieldLink RX1 22 "LandmarkLea$Labels" "hubSets" "[J", Cond.static yX3_isRow, Cond.code yX3_isRow cX3_isRow 1 (some .boolean), Cond.static yX3_hasBit, Cond.code yX3_hasBit cX3_hasBit 3 (some .boolean), Cond.methodLink RX1 74 yX1_sumThrough, Cond.instanceMethod yX1_sumThrough, Cond.selects RX1 yX1_sumThrough yX1_sumThrough, Cond.code yX1_sumThrough cX1_sumThrough 4 (some .int), Cond.fieldLink RX1 26 "LandmarkLea$Labels" "distances" "[I", Cond.methodLink RX3 118 yX1_vertexOf, Cond.instanceMethod yX1_vertexOf, Cond.selects RX1 yX1_vertexOf yX1_vertexOf, Cond.code yX1_vertexOf cX1_vertexOf 2 (some .int), Cond.fieldLink RX1 15 "LandmarkLea$Labels" "verticesByRank" "[I"]
def wsX3_hub : List Cond := .code yX3_hub cX3_hub 3 (some .int) :: ((wsX3_hub_r1 ++ wsX3_hub_r2) ++ wsX30 ++ wsX00 ++ wsX10 ++ (vx_atS RX3 71 "java/lang/IllegalStateException" ["java/lang/RuntimeException", "java/lang/Exception"]).filter goodWord ++ (vx_atS RX3 175 "java/lang/IndexOutOfBoundsException" ["java/lang/RuntimeException", "java/lang/Exception"]).filter goodWord)
def wsX3_pathVertex_r1 : List Cond := [Cond.classLink RX3 50 "java/lang/IllegalArgumentException", Cond.initialized "java/lang/IllegalArgumentException", Cond.fieldLink RX3 19 "LandmarkLea" "labels" "LLandmarkLea$Labels;", Cond.methodLink RX3 127 yX3_requireLabelsOf, Cond.instanceMethod yX3_requireLabelsOf, Cond.selects RX3 yX3_requireLabelsOf yX3_requireLabelsOf, Cond.initialized RX3, Cond.code yX3_requireLabelsOf cX3_requireLabelsOf 3 none, Cond.classLink RX3 67 "java/lang/IllegalStateException", Cond.initialized "java/lang/IllegalStateException", Cond.fieldLink RX3 38 "LandmarkLea" "labelled" "Z", Cond.methodLink RX3 60 yX3_requireVertex, Cond.instanceMethod yX3_requireVertex, Cond.selects RX3 yX3_requireVertex yX3_requireVertex, Cond.code yX3_requireVertex cX3_requireVertex 2 none, Cond.classLink RX3 171 "java/lang/IndexOutOfBoundsException", Cond.initialized "java/lang/IndexOutOfBoundsException", Cond.fieldLink RX3 10 "LandmarkLea" "graph" "LLandmarkLea$Graph;", Cond.methodLink RX3 167 yX0_has, Cond.instanceMethod yX0_has, Cond.selects RX0 yX0_has yX0_has, Cond.initialized RX0, Cond.code yX0_has cX0_has 2 (some .boolean), Cond.fieldLink RX0 15 "LandmarkLea$Graph" "vertexCount" "I"]
def wsX3_pathVertex_r2 : List Cond := [Cond.methodLink RX3 138 yX1_vertexOnPath, Cond.instanceMethod yX1_vertexOnPath, Cond.selects RX1 yX1_vertexOnPath yX1_vertexOnPath, Cond.initialized RX1, Cond.code yX1_vertexOnPath cX1_vertexOnPath 7 (some .int), Cond.methodLink RX1 78 yX1_meetingRank, Cond.instanceMethod yX1_meetingRank, Cond.selects RX1 yX1_meetingRank yX1_meetingRank, Cond.code yX1_meetingRank cX1_meetingRank 7 (some .int), Cond.methodLink RX1 70 yX1_commonHubs, Cond.instanceMethod yX1_commonHubs, Cond.selects RX1 yX1_commonHubs yX1_commonHubs, Cond.code yX1_commonHubs cX1_commonHubs 3 (some .long), Cond.fieldLink RX1 22 "LandmarkLea$Labels" "hubSets" "[J", Cond.static yX3_isRow, Cond.code yX3_isRow cX3_isRow 1 (some .boolean), Cond.static yX3_hasBit, Cond.code yX3_hasBit cX3_hasBit 3 (some .boolean), Cond.methodLink RX1 74 yX1_sumThrough, Cond.instanceMethod yX1_sumThrough, Cond.selects RX1 yX1_sumThrough yX1_sumThrough, Cond.code yX1_sumThrough cX1_sumThrough 4 (some .int), Cond.fieldLink RX1 26 "LandmarkLea$Labels" "distances" "[I", Cond.methodLink RX1 82 yX1_stepsTo]
def wsX3_pathVertex_r3 : List Cond := [Cond.instanceMethod yX1_stepsTo, Cond.selects RX1 yX1_stepsTo yX1_stepsTo, Cond.code yX1_stepsTo cX1_stepsTo 6 (some .int), Cond.methodLink RX1 67 yX1_vertexOf, Cond.instanceMethod yX1_vertexOf, Cond.selects RX1 yX1_vertexOf yX1_vertexOf, Cond.code yX1_vertexOf cX1_vertexOf 2 (some .int), Cond.fieldLink RX1 15 "LandmarkLea$Labels" "verticesByRank" "[I", Cond.methodLink RX1 88 yX1_parentTowards, Cond.instanceMethod yX1_parentTowards, Cond.selects RX1 yX1_parentTowards yX1_parentTowards, Cond.code yX1_parentTowards cX1_parentTowards 3 (some .int), Cond.fieldLink RX1 29 "LandmarkLea$Labels" "parents" "[I", Cond.methodLink RX1 54 yX1_hasEntry, Cond.instanceMethod yX1_hasEntry, Cond.selects RX1 yX1_hasEntry yX1_hasEntry, Cond.code yX1_hasEntry cX1_hasEntry 3 (some .boolean), Cond.methodLink RX1 85 yX1_climb, Cond.instanceMethod yX1_climb, Cond.selects RX1 yX1_climb yX1_climb, Cond.code yX1_climb cX1_climb 6 (some .int)]
def wsX3_pathVertex : List Cond := .code yX3_pathVertex cX3_pathVertex 4 (some .int) :: ((wsX3_pathVertex_r1 ++ (wsX3_pathVertex_r2 ++ wsX3_pathVertex_r3)) ++ wsX30 ++ wsX00 ++ wsX10 ++ (vx_atS RX3 54 "java/lang/IllegalArgumentException" ["java/lang/RuntimeException", "java/lang/Exception"]).filter goodWord ++ (vx_atS RX3 71 "java/lang/IllegalStateException" ["java/lang/RuntimeException", "java/lang/Exception"]).filter goodWord ++ (vx_atS RX3 175 "java/lang/IndexOutOfBoundsException" ["java/lang/RuntimeException", "java/lang/Exception"]).filter goodWord)
def wsX3_within_r1 : List Cond := [Cond.classLink RX3 50 "java/lang/IllegalArgumentException", Cond.initialized "java/lang/IllegalArgumentException", Cond.fieldLink RX3 10 "LandmarkLea" "graph" "LLandmarkLea$Graph;", Cond.fieldLink RX3 19 "LandmarkLea" "labels" "LLandmarkLea$Labels;", Cond.methodLink RX3 99 yX3_requireLabelOf, Cond.instanceMethod yX3_requireLabelOf, Cond.selects RX3 yX3_requireLabelOf yX3_requireLabelOf, Cond.initialized RX3, Cond.code yX3_requireLabelOf cX3_requireLabelOf 2 none, Cond.methodLink RX3 127 yX3_requireLabelsOf, Cond.instanceMethod yX3_requireLabelsOf, Cond.selects RX3 yX3_requireLabelsOf yX3_requireLabelsOf, Cond.code yX3_requireLabelsOf cX3_requireLabelsOf 3 none, Cond.classLink RX3 67 "java/lang/IllegalStateException", Cond.initialized "java/lang/IllegalStateException", Cond.fieldLink RX3 38 "LandmarkLea" "labelled" "Z", Cond.methodLink RX3 60 yX3_requireVertex, Cond.instanceMethod yX3_requireVertex, Cond.selects RX3 yX3_requireVertex yX3_requireVertex, Cond.code yX3_requireVertex cX3_requireVertex 2 none, Cond.classLink RX3 171 "java/lang/IndexOutOfBoundsException", Cond.initialized "java/lang/IndexOutOfBoundsException", Cond.methodLink RX3 167 yX0_has, Cond.instanceMethod yX0_has]
def wsX3_within_r2 : List Cond := [Cond.selects RX0 yX0_has yX0_has, Cond.initialized RX0, Cond.code yX0_has cX0_has 2 (some .boolean), Cond.fieldLink RX0 15 "LandmarkLea$Graph" "vertexCount" "I", Cond.methodLink RX3 57 yX0_size, Cond.instanceMethod yX0_size, Cond.selects RX0 yX0_size yX0_size, Cond.code yX0_size cX0_size 1 (some .int), Cond.methodLink RX3 130 yX1_estimate, Cond.instanceMethod yX1_estimate, Cond.selects RX1 yX1_estimate yX1_estimate, Cond.initialized RX1, Cond.code yX1_estimate cX1_estimate 4 (some .int), Cond.methodLink RX1 78 yX1_meetingRank, Cond.instanceMethod yX1_meetingRank, Cond.selects RX1 yX1_meetingRank yX1_meetingRank, Cond.code yX1_meetingRank cX1_meetingRank 7 (some .int), Cond.methodLink RX1 70 yX1_commonHubs, Cond.instanceMethod yX1_commonHubs, Cond.selects RX1 yX1_commonHubs yX1_commonHubs, Cond.code yX1_commonHubs cX1_commonHubs 3 (some .long), Cond.fieldLink RX1 22 "LandmarkLea$Labels" "hubSets" "[J", Cond.static yX3_isRow, Cond.code yX3_isRow cX3_isRow 1 (some .boolean)]
def wsX3_within_r3 : List Cond := [Cond.static yX3_hasBit, Cond.code yX3_hasBit cX3_hasBit 3 (some .boolean), Cond.methodLink RX1 74 yX1_sumThrough, Cond.instanceMethod yX1_sumThrough, Cond.selects RX1 yX1_sumThrough yX1_sumThrough, Cond.code yX1_sumThrough cX1_sumThrough 4 (some .int), Cond.fieldLink RX1 26 "LandmarkLea$Labels" "distances" "[I"]
def wsX3_within : List Cond := .code yX3_within cX3_within 7 (some .long) :: ((wsX3_within_r1 ++ (wsX3_within_r2 ++ wsX3_within_r3)) ++ wsX30 ++ wsX00 ++ wsX10 ++ (vx_atS RX3 54 "java/lang/IllegalArgumentException" ["java/lang/RuntimeException", "java/lang/Exception"]).filter goodWord ++ (vx_atS RX3 71 "java/lang/IllegalStateException" ["java/lang/RuntimeException", "java/lang/Exception"]).filter goodWord ++ (vx_atS RX3 175 "java/lang/IndexOutOfBoundsException" ["java/lang/RuntimeException", "java/lang/Exception"]).filter goodWord)
def wsX3_eccentricity_r1 : List Cond := [Cond.fieldLink RX3 10 "LandmarkLea" "graph" "LLandmarkLea$Graph;", Cond.fieldLink RX3 19 "LandmarkLea" "labels" "LLandmarkLea$Labels;", Cond.methodLink RX3 144 Lib.Math.max.name, Cond.static Lib.Math.max.name, Cond.initialized "java/lang/Math", Cond.code Lib.Math.max.name Lib.Math.max.code 2 (some .int), Cond.methodLink RX3 99 yX3_requireLabelOf, Cond.instanceMethod yX3_requireLabelOf, Cond.selects RX3 yX3_requireLabelOf yX3_requireLabelOf, Cond.initialized RX3, Cond.code yX3_requireLabelOf cX3_requireLabelOf 2 none, Cond.methodLink RX3 127 yX3_requireLabelsOf, Cond.instanceMethod yX3_requireLabelsOf, Cond.selects RX3 yX3_requireLabelsOf yX3_requireLabelsOf, Cond.code yX3_requireLabelsOf cX3_requireLabelsOf 3 none, Cond.classLink RX3 67 "java/lang/IllegalStateException", Cond.initialized "java/lang/IllegalStateException", Cond.fieldLink RX3 38 "LandmarkLea" "labelled" "Z", Cond.methodLink RX3 60 yX3_requireVertex, Cond.instanceMethod yX3_requireVertex, Cond.selects RX3 yX3_requireVertex yX3_requireVertex, Cond.code yX3_requireVertex cX3_requireVertex 2 none, Cond.classLink RX3 171 "java/lang/IndexOutOfBoundsException", Cond.initialized "java/lang/IndexOutOfBoundsException"]
def wsX3_eccentricity_r2 : List Cond := [Cond.methodLink RX3 167 yX0_has, Cond.instanceMethod yX0_has, Cond.selects RX0 yX0_has yX0_has, Cond.initialized RX0, Cond.code yX0_has cX0_has 2 (some .boolean), Cond.fieldLink RX0 15 "LandmarkLea$Graph" "vertexCount" "I", Cond.methodLink RX3 57 yX0_size, Cond.instanceMethod yX0_size, Cond.selects RX0 yX0_size yX0_size, Cond.code yX0_size cX0_size 1 (some .int), Cond.methodLink RX3 130 yX1_estimate, Cond.instanceMethod yX1_estimate, Cond.selects RX1 yX1_estimate yX1_estimate, Cond.initialized RX1, Cond.code yX1_estimate cX1_estimate 4 (some .int), Cond.methodLink RX1 78 yX1_meetingRank, Cond.instanceMethod yX1_meetingRank, Cond.selects RX1 yX1_meetingRank yX1_meetingRank, Cond.code yX1_meetingRank cX1_meetingRank 7 (some .int), Cond.methodLink RX1 70 yX1_commonHubs, Cond.instanceMethod yX1_commonHubs, Cond.selects RX1 yX1_commonHubs yX1_commonHubs, Cond.code yX1_commonHubs cX1_commonHubs 3 (some .long), Cond.fieldLink RX1 22 "LandmarkLea$Labels" "hubSets" "[J"]
def wsX3_eccentricity_r3 : List Cond := [Cond.static yX3_isRow, Cond.code yX3_isRow cX3_isRow 1 (some .boolean), Cond.static yX3_hasBit, Cond.code yX3_hasBit cX3_hasBit 3 (some .boolean), Cond.methodLink RX1 74 yX1_sumThrough, Cond.instanceMethod yX1_sumThrough, Cond.selects RX1 yX1_sumThrough yX1_sumThrough, Cond.code yX1_sumThrough cX1_sumThrough 4 (some .int), Cond.fieldLink RX1 26 "LandmarkLea$Labels" "distances" "[I"]
def wsX3_eccentricity : List Cond := .code yX3_eccentricity cX3_eccentricity 4 (some .int) :: ((wsX3_eccentricity_r1 ++ (wsX3_eccentricity_r2 ++ wsX3_eccentricity_r3)) ++ wsX30 ++ wsX00 ++ wsX10 ++ (vx_atS RX3 71 "java/lang/IllegalStateException" ["java/lang/RuntimeException", "java/lang/Exception"]).filter goodWord ++ (vx_atS RX3 175 "java/lang/IndexOutOfBoundsException" ["java/lang/RuntimeException", "java/lang/Exception"]).filter goodWord)
def wsX3_pruned : List Cond := .code yX3_pruned cX3_pruned 1 (some .int) :: ([.fieldLink RX3 28 "LandmarkLea" "searches" "LLandmarkLea$Searches;", .methodLink RX3 149 yX2_countOfPruned, .instanceMethod yX2_countOfPruned, .selects RX2 yX2_countOfPruned yX2_countOfPruned, .initialized RX2, .code yX2_countOfPruned cX2_countOfPruned 1 (some .int), .fieldLink RX2 40 "LandmarkLea$Searches" "prunedCount" "I"] ++ wsX30 ++ wsX20)
def wsX3_written : List Cond := .code yX3_written cX3_written 1 (some .int) :: ([.fieldLink RX3 28 "LandmarkLea" "searches" "LLandmarkLea$Searches;", .methodLink RX3 152 yX2_countOfWritten, .instanceMethod yX2_countOfWritten, .selects RX2 yX2_countOfWritten yX2_countOfWritten, .initialized RX2, .code yX2_countOfWritten cX2_countOfWritten 1 (some .int), .fieldLink RX2 43 "LandmarkLea$Searches" "writtenCount" "I"] ++ wsX30 ++ wsX20)
def wsX4_init : List Cond := .code yX4_init cX4_init 1 none :: ([.methodLink RX4 1 objectInit, .instanceMethod objectInit, .code objectInit ⟨#[0xb1]⟩ 1 none, .arrayClass .long, .fieldLink RX4 7 "LandmarkLeaModel" "near" "[J", .arrayClass .int, .fieldLink RX4 13 "LandmarkLeaModel" "distances" "[I", .fieldLink RX4 17 "LandmarkLeaModel" "parents" "[I", .fieldLink RX4 20 "LandmarkLeaModel" "hubs" "[I", .fieldLink RX4 23 "LandmarkLeaModel" "ranks" "[I", .fieldLink RX4 26 "LandmarkLeaModel" "queue" "[I", .fieldLink RX4 29 "LandmarkLeaModel" "far" "[I", .fieldLink RX4 32 "LandmarkLeaModel" "from" "[I"] ++ wsX40)
def wsX4_thrown : List Cond := .code yX4_thrown cX4_thrown 1 (some .int) :: ([.fieldLink RX4 35 "LandmarkLeaModel" "thrown" "I"] ++ wsX40)
def wsX4_goes : List Cond := .code yX4_goes cX4_goes 2 (some .boolean) :: ([.fieldLink RX4 35 "LandmarkLeaModel" "thrown" "I"] ++ wsX40)
def wsX4_isVertex : List Cond := .code yX4_isVertex cX4_isVertex 2 (some .boolean) :: ([.fieldLink RX4 39 "LandmarkLeaModel" "many" "I"] ++ wsX40)
def wsX4_at : List Cond := .code yX4_at cX4_at 3 (some .int) :: ([])
def wsX4_isEdge : List Cond := .code yX4_isEdge cX4_isEdge 3 (some .boolean) :: ([.fieldLink RX4 7 "LandmarkLeaModel" "near" "[J"] ++ wsX40)
def wsX4_estimate : List Cond := .code yX4_estimate cX4_estimate 10 (some .int) :: ([.fieldLink RX4 13 "LandmarkLeaModel" "distances" "[I", .methodLink RX4 42 yX4_at, .static yX4_at, .initialized RX4, .code yX4_at cX4_at 3 (some .int)] ++ wsX40)
def wsX4_isPruned : List Cond := .code yX4_isPruned cX4_isPruned 6 (some .boolean) :: ([.fieldLink RX4 20 "LandmarkLeaModel" "hubs" "[I", .methodLink RX4 46 yX4_estimate, .instanceMethod yX4_estimate, .selects RX4 yX4_estimate yX4_estimate, .initialized RX4, .code yX4_estimate cX4_estimate 10 (some .int), .fieldLink RX4 13 "LandmarkLeaModel" "distances" "[I", .methodLink RX4 42 yX4_at, .static yX4_at, .code yX4_at cX4_at 3 (some .int)] ++ wsX40)
def wsX4_searches_r1 : List Cond := [Cond.fieldLink RX4 26 "LandmarkLeaModel" "queue" "[I", Cond.fieldLink RX4 29 "LandmarkLeaModel" "far" "[I", Cond.fieldLink RX4 32 "LandmarkLeaModel" "from" "[I", Cond.fieldLink RX4 54 "LandmarkLeaModel" "visits" "I", Cond.fieldLink RX4 57 "LandmarkLeaModel" "cut" "I", Cond.fieldLink RX4 13 "LandmarkLeaModel" "distances" "[I", Cond.fieldLink RX4 17 "LandmarkLeaModel" "parents" "[I", Cond.fieldLink RX4 60 "LandmarkLeaModel" "put" "I", Cond.fieldLink RX4 39 "LandmarkLeaModel" "many" "I", Cond.methodLink RX4 50 yX4_isPruned, Cond.instanceMethod yX4_isPruned, Cond.selects RX4 yX4_isPruned yX4_isPruned, Cond.initialized RX4, Cond.code yX4_isPruned cX4_isPruned 6 (some .boolean), Cond.fieldLink RX4 20 "LandmarkLeaModel" "hubs" "[I", Cond.methodLink RX4 46 yX4_estimate, Cond.instanceMethod yX4_estimate, Cond.selects RX4 yX4_estimate yX4_estimate, Cond.code yX4_estimate cX4_estimate 10 (some .int), Cond.methodLink RX4 42 yX4_at, Cond.static yX4_at, Cond.code yX4_at cX4_at 3 (some .int), Cond.methodLink RX4 63 yX4_isEdge, Cond.instanceMethod yX4_isEdge]
def wsX4_searches_r2 : List Cond := [Cond.selects RX4 yX4_isEdge yX4_isEdge, Cond.code yX4_isEdge cX4_isEdge 3 (some .boolean), Cond.fieldLink RX4 7 "LandmarkLeaModel" "near" "[J"]
def wsX4_searches : List Cond := .code yX4_searches cX4_searches 13 none :: ((wsX4_searches_r1 ++ wsX4_searches_r2) ++ wsX40)
def wsX4_counts : List Cond := .code yX4_counts cX4_counts 1 none :: ([.fieldLink RX4 54 "LandmarkLeaModel" "visits" "I", .fieldLink RX4 57 "LandmarkLeaModel" "cut" "I", .fieldLink RX4 60 "LandmarkLeaModel" "put" "I"] ++ wsX40)
def wsX4_degree : List Cond := .code yX4_degree cX4_degree 4 (some .int) :: ([.fieldLink RX4 39 "LandmarkLeaModel" "many" "I", .methodLink RX4 63 yX4_isEdge, .instanceMethod yX4_isEdge, .selects RX4 yX4_isEdge yX4_isEdge, .initialized RX4, .code yX4_isEdge cX4_isEdge 3 (some .boolean), .fieldLink RX4 7 "LandmarkLeaModel" "near" "[J"] ++ wsX40)
def wsX4_givesRanks : List Cond := .code yX4_givesRanks cX4_givesRanks 6 none :: ([.fieldLink RX4 39 "LandmarkLeaModel" "many" "I", .fieldLink RX4 23 "LandmarkLeaModel" "ranks" "[I", .fieldLink RX4 20 "LandmarkLeaModel" "hubs" "[I", .methodLink RX4 67 yX4_degree, .instanceMethod yX4_degree, .selects RX4 yX4_degree yX4_degree, .initialized RX4, .code yX4_degree cX4_degree 4 (some .int), .methodLink RX4 63 yX4_isEdge, .instanceMethod yX4_isEdge, .selects RX4 yX4_isEdge yX4_isEdge, .code yX4_isEdge cX4_isEdge 3 (some .boolean), .fieldLink RX4 7 "LandmarkLeaModel" "near" "[J"] ++ wsX40)
def wsX4_empties : List Cond := .code yX4_empties cX4_empties 3 none :: ([.fieldLink RX4 13 "LandmarkLeaModel" "distances" "[I", .fieldLink RX4 17 "LandmarkLeaModel" "parents" "[I"] ++ wsX40)
def wsX4_builds_r1 : List Cond := [Cond.fieldLink RX4 39 "LandmarkLeaModel" "many" "I", Cond.fieldLink RX4 20 "LandmarkLeaModel" "hubs" "[I", Cond.methodLink RX4 71 yX4_empties, Cond.instanceMethod yX4_empties, Cond.selects RX4 yX4_empties yX4_empties, Cond.initialized RX4, Cond.code yX4_empties cX4_empties 3 none, Cond.fieldLink RX4 13 "LandmarkLeaModel" "distances" "[I", Cond.fieldLink RX4 17 "LandmarkLeaModel" "parents" "[I", Cond.methodLink RX4 75 yX4_givesRanks, Cond.instanceMethod yX4_givesRanks, Cond.selects RX4 yX4_givesRanks yX4_givesRanks, Cond.code yX4_givesRanks cX4_givesRanks 6 none, Cond.fieldLink RX4 23 "LandmarkLeaModel" "ranks" "[I", Cond.methodLink RX4 67 yX4_degree, Cond.instanceMethod yX4_degree, Cond.selects RX4 yX4_degree yX4_degree, Cond.code yX4_degree cX4_degree 4 (some .int), Cond.methodLink RX4 63 yX4_isEdge, Cond.instanceMethod yX4_isEdge, Cond.selects RX4 yX4_isEdge yX4_isEdge, Cond.code yX4_isEdge cX4_isEdge 3 (some .boolean), Cond.fieldLink RX4 7 "LandmarkLeaModel" "near" "[J", Cond.methodLink RX4 78 yX4_counts]
def wsX4_builds_r2 : List Cond := [Cond.instanceMethod yX4_counts, Cond.selects RX4 yX4_counts yX4_counts, Cond.code yX4_counts cX4_counts 1 none, Cond.fieldLink RX4 54 "LandmarkLeaModel" "visits" "I", Cond.fieldLink RX4 57 "LandmarkLeaModel" "cut" "I", Cond.fieldLink RX4 60 "LandmarkLeaModel" "put" "I", Cond.methodLink RX4 81 yX4_searches, Cond.instanceMethod yX4_searches, Cond.selects RX4 yX4_searches yX4_searches, Cond.code yX4_searches cX4_searches 13 none, Cond.fieldLink RX4 26 "LandmarkLeaModel" "queue" "[I", Cond.fieldLink RX4 29 "LandmarkLeaModel" "far" "[I", Cond.fieldLink RX4 32 "LandmarkLeaModel" "from" "[I", Cond.methodLink RX4 50 yX4_isPruned, Cond.instanceMethod yX4_isPruned, Cond.selects RX4 yX4_isPruned yX4_isPruned, Cond.code yX4_isPruned cX4_isPruned 6 (some .boolean), Cond.methodLink RX4 46 yX4_estimate, Cond.instanceMethod yX4_estimate, Cond.selects RX4 yX4_estimate yX4_estimate, Cond.code yX4_estimate cX4_estimate 10 (some .int), Cond.methodLink RX4 42 yX4_at, Cond.static yX4_at, Cond.code yX4_at cX4_at 3 (some .int)]
def wsX4_builds : List Cond := .code yX4_builds cX4_builds 3 none :: ((wsX4_builds_r1 ++ wsX4_builds_r2) ++ wsX40)
def wsX4_keepsCounts : List Cond := .code yX4_keepsCounts cX4_keepsCounts 1 none :: ([.fieldLink RX4 57 "LandmarkLeaModel" "cut" "I", .fieldLink RX4 85 "LandmarkLeaModel" "pruned" "I", .fieldLink RX4 60 "LandmarkLeaModel" "put" "I", .fieldLink RX4 88 "LandmarkLeaModel" "written" "I"] ++ wsX40)
def wsX4_adds : List Cond := .code yX4_adds cX4_adds 2 none :: ([.fieldLink RX4 7 "LandmarkLeaModel" "near" "[J", .fieldLink RX4 39 "LandmarkLeaModel" "many" "I", .fieldLink RX4 91 "LandmarkLeaModel" "isBuilt" "Z", .fieldLink RX4 13 "LandmarkLeaModel" "distances" "[I", .fieldLink RX4 17 "LandmarkLeaModel" "parents" "[I", .fieldLink RX4 23 "LandmarkLeaModel" "ranks" "[I", .fieldLink RX4 20 "LandmarkLeaModel" "hubs" "[I", .methodLink RX4 42 yX4_at, .static yX4_at, .initialized RX4, .code yX4_at cX4_at 3 (some .int)] ++ wsX40)
def wsX4_addVertex : List Cond := .code yX4_addVertex cX4_addVertex 1 (some .int) :: ([.fieldLink RX4 39 "LandmarkLeaModel" "many" "I", .methodLink RX4 95 yX4_goes, .instanceMethod yX4_goes, .selects RX4 yX4_goes yX4_goes, .initialized RX4, .code yX4_goes cX4_goes 2 (some .boolean), .fieldLink RX4 35 "LandmarkLeaModel" "thrown" "I", .methodLink RX4 99 yX4_adds, .instanceMethod yX4_adds, .selects RX4 yX4_adds yX4_adds, .code yX4_adds cX4_adds 2 none, .fieldLink RX4 7 "LandmarkLeaModel" "near" "[J", .fieldLink RX4 91 "LandmarkLeaModel" "isBuilt" "Z", .fieldLink RX4 13 "LandmarkLeaModel" "distances" "[I", .fieldLink RX4 17 "LandmarkLeaModel" "parents" "[I", .fieldLink RX4 23 "LandmarkLeaModel" "ranks" "[I", .fieldLink RX4 20 "LandmarkLeaModel" "hubs" "[I", .methodLink RX4 42 yX4_at, .static yX4_at, .code yX4_at cX4_at 3 (some .int)] ++ wsX40)
def wsX4_addVertices : List Cond := .code yX4_addVertices cX4_addVertices 3 (some .int) :: ([.fieldLink RX4 39 "LandmarkLeaModel" "many" "I", .methodLink RX4 95 yX4_goes, .instanceMethod yX4_goes, .selects RX4 yX4_goes yX4_goes, .initialized RX4, .code yX4_goes cX4_goes 2 (some .boolean), .fieldLink RX4 35 "LandmarkLeaModel" "thrown" "I", .methodLink RX4 99 yX4_adds, .instanceMethod yX4_adds, .selects RX4 yX4_adds yX4_adds, .code yX4_adds cX4_adds 2 none, .fieldLink RX4 7 "LandmarkLeaModel" "near" "[J", .fieldLink RX4 91 "LandmarkLeaModel" "isBuilt" "Z", .fieldLink RX4 13 "LandmarkLeaModel" "distances" "[I", .fieldLink RX4 17 "LandmarkLeaModel" "parents" "[I", .fieldLink RX4 23 "LandmarkLeaModel" "ranks" "[I", .fieldLink RX4 20 "LandmarkLeaModel" "hubs" "[I", .methodLink RX4 42 yX4_at, .static yX4_at, .code yX4_at cX4_at 3 (some .int)] ++ wsX40)
def wsX4_extendsBy_r1 : List Cond := [Cond.fieldLink RX4 39 "LandmarkLeaModel" "many" "I", Cond.fieldLink RX4 13 "LandmarkLeaModel" "distances" "[I", Cond.methodLink RX4 78 yX4_counts, Cond.instanceMethod yX4_counts, Cond.selects RX4 yX4_counts yX4_counts, Cond.initialized RX4, Cond.code yX4_counts cX4_counts 1 none, Cond.fieldLink RX4 54 "LandmarkLeaModel" "visits" "I", Cond.fieldLink RX4 57 "LandmarkLeaModel" "cut" "I", Cond.fieldLink RX4 60 "LandmarkLeaModel" "put" "I", Cond.methodLink RX4 42 yX4_at, Cond.static yX4_at, Cond.code yX4_at cX4_at 3 (some .int), Cond.methodLink RX4 81 yX4_searches, Cond.instanceMethod yX4_searches, Cond.selects RX4 yX4_searches yX4_searches, Cond.code yX4_searches cX4_searches 13 none, Cond.fieldLink RX4 26 "LandmarkLeaModel" "queue" "[I", Cond.fieldLink RX4 29 "LandmarkLeaModel" "far" "[I", Cond.fieldLink RX4 32 "LandmarkLeaModel" "from" "[I", Cond.fieldLink RX4 17 "LandmarkLeaModel" "parents" "[I", Cond.methodLink RX4 50 yX4_isPruned, Cond.instanceMethod yX4_isPruned, Cond.selects RX4 yX4_isPruned yX4_isPruned]
def wsX4_extendsBy_r2 : List Cond := [Cond.code yX4_isPruned cX4_isPruned 6 (some .boolean), Cond.fieldLink RX4 20 "LandmarkLeaModel" "hubs" "[I", Cond.methodLink RX4 46 yX4_estimate, Cond.instanceMethod yX4_estimate, Cond.selects RX4 yX4_estimate yX4_estimate, Cond.code yX4_estimate cX4_estimate 10 (some .int), Cond.methodLink RX4 63 yX4_isEdge, Cond.instanceMethod yX4_isEdge, Cond.selects RX4 yX4_isEdge yX4_isEdge, Cond.code yX4_isEdge cX4_isEdge 3 (some .boolean), Cond.fieldLink RX4 7 "LandmarkLeaModel" "near" "[J", Cond.methodLink RX4 102 yX4_keepsCounts, Cond.instanceMethod yX4_keepsCounts, Cond.selects RX4 yX4_keepsCounts yX4_keepsCounts, Cond.code yX4_keepsCounts cX4_keepsCounts 1 none, Cond.fieldLink RX4 85 "LandmarkLeaModel" "pruned" "I", Cond.fieldLink RX4 88 "LandmarkLeaModel" "written" "I"]
def wsX4_extendsBy : List Cond := .code yX4_extendsBy cX4_extendsBy 6 none :: ((wsX4_extendsBy_r1 ++ wsX4_extendsBy_r2) ++ wsX40)
def wsX4_addEdge_r1 : List Cond := [Cond.fieldLink RX4 7 "LandmarkLeaModel" "near" "[J", Cond.fieldLink RX4 108 "LandmarkLeaModel" "edges" "I", Cond.fieldLink RX4 91 "LandmarkLeaModel" "isBuilt" "Z", Cond.fieldLink RX4 54 "LandmarkLeaModel" "visits" "I", Cond.methodLink RX4 105 yX4_isVertex, Cond.instanceMethod yX4_isVertex, Cond.selects RX4 yX4_isVertex yX4_isVertex, Cond.initialized RX4, Cond.code yX4_isVertex cX4_isVertex 2 (some .boolean), Cond.fieldLink RX4 39 "LandmarkLeaModel" "many" "I", Cond.methodLink RX4 63 yX4_isEdge, Cond.instanceMethod yX4_isEdge, Cond.selects RX4 yX4_isEdge yX4_isEdge, Cond.code yX4_isEdge cX4_isEdge 3 (some .boolean), Cond.methodLink RX4 95 yX4_goes, Cond.instanceMethod yX4_goes, Cond.selects RX4 yX4_goes yX4_goes, Cond.code yX4_goes cX4_goes 2 (some .boolean), Cond.fieldLink RX4 35 "LandmarkLeaModel" "thrown" "I", Cond.methodLink RX4 111 yX4_extendsBy, Cond.instanceMethod yX4_extendsBy, Cond.selects RX4 yX4_extendsBy yX4_extendsBy, Cond.code yX4_extendsBy cX4_extendsBy 6 none, Cond.fieldLink RX4 13 "LandmarkLeaModel" "distances" "[I"]
def wsX4_addEdge_r2 : List Cond := [Cond.methodLink RX4 78 yX4_counts, Cond.instanceMethod yX4_counts, Cond.selects RX4 yX4_counts yX4_counts, Cond.code yX4_counts cX4_counts 1 none, Cond.fieldLink RX4 57 "LandmarkLeaModel" "cut" "I", Cond.fieldLink RX4 60 "LandmarkLeaModel" "put" "I", Cond.methodLink RX4 42 yX4_at, Cond.static yX4_at, Cond.code yX4_at cX4_at 3 (some .int), Cond.methodLink RX4 81 yX4_searches, Cond.instanceMethod yX4_searches, Cond.selects RX4 yX4_searches yX4_searches, Cond.code yX4_searches cX4_searches 13 none, Cond.fieldLink RX4 26 "LandmarkLeaModel" "queue" "[I", Cond.fieldLink RX4 29 "LandmarkLeaModel" "far" "[I", Cond.fieldLink RX4 32 "LandmarkLeaModel" "from" "[I", Cond.fieldLink RX4 17 "LandmarkLeaModel" "parents" "[I", Cond.methodLink RX4 50 yX4_isPruned, Cond.instanceMethod yX4_isPruned, Cond.selects RX4 yX4_isPruned yX4_isPruned, Cond.code yX4_isPruned cX4_isPruned 6 (some .boolean), Cond.fieldLink RX4 20 "LandmarkLeaModel" "hubs" "[I", Cond.methodLink RX4 46 yX4_estimate, Cond.instanceMethod yX4_estimate]
def wsX4_addEdge_r3 : List Cond := [Cond.selects RX4 yX4_estimate yX4_estimate, Cond.code yX4_estimate cX4_estimate 10 (some .int), Cond.methodLink RX4 102 yX4_keepsCounts, Cond.instanceMethod yX4_keepsCounts, Cond.selects RX4 yX4_keepsCounts yX4_keepsCounts, Cond.code yX4_keepsCounts cX4_keepsCounts 1 none, Cond.fieldLink RX4 85 "LandmarkLeaModel" "pruned" "I", Cond.fieldLink RX4 88 "LandmarkLeaModel" "written" "I"]
def wsX4_addEdge : List Cond := .code yX4_addEdge cX4_addEdge 3 (some .int) :: ((wsX4_addEdge_r1 ++ (wsX4_addEdge_r2 ++ wsX4_addEdge_r3)) ++ wsX40)
def wsX4_clear : List Cond := .code yX4_clear cX4_clear 3 (some .int) :: ([.fieldLink RX4 35 "LandmarkLeaModel" "thrown" "I", .fieldLink RX4 108 "LandmarkLeaModel" "edges" "I", .fieldLink RX4 39 "LandmarkLeaModel" "many" "I", .fieldLink RX4 7 "LandmarkLeaModel" "near" "[J", .fieldLink RX4 91 "LandmarkLeaModel" "isBuilt" "Z", .fieldLink RX4 85 "LandmarkLeaModel" "pruned" "I", .fieldLink RX4 88 "LandmarkLeaModel" "written" "I"] ++ wsX40)
def wsX4_vertices : List Cond := .code yX4_vertices cX4_vertices 1 (some .int) :: ([.fieldLink RX4 35 "LandmarkLeaModel" "thrown" "I", .fieldLink RX4 39 "LandmarkLeaModel" "many" "I"] ++ wsX40)
def wsX4_edges : List Cond := .code yX4_edges cX4_edges 1 (some .int) :: ([.fieldLink RX4 35 "LandmarkLeaModel" "thrown" "I", .fieldLink RX4 108 "LandmarkLeaModel" "edges" "I"] ++ wsX40)
def wsX4_neighbours : List Cond := .code yX4_neighbours cX4_neighbours 2 (some .long) :: ([.fieldLink RX4 7 "LandmarkLeaModel" "near" "[J", .methodLink RX4 105 yX4_isVertex, .instanceMethod yX4_isVertex, .selects RX4 yX4_isVertex yX4_isVertex, .initialized RX4, .code yX4_isVertex cX4_isVertex 2 (some .boolean), .fieldLink RX4 39 "LandmarkLeaModel" "many" "I", .methodLink RX4 95 yX4_goes, .instanceMethod yX4_goes, .selects RX4 yX4_goes yX4_goes, .code yX4_goes cX4_goes 2 (some .boolean), .fieldLink RX4 35 "LandmarkLeaModel" "thrown" "I"] ++ wsX40)
def wsX4_build_r1 : List Cond := [Cond.fieldLink RX4 35 "LandmarkLeaModel" "thrown" "I", Cond.fieldLink RX4 91 "LandmarkLeaModel" "isBuilt" "Z", Cond.fieldLink RX4 54 "LandmarkLeaModel" "visits" "I", Cond.methodLink RX4 115 yX4_builds, Cond.instanceMethod yX4_builds, Cond.selects RX4 yX4_builds yX4_builds, Cond.initialized RX4, Cond.code yX4_builds cX4_builds 3 none, Cond.fieldLink RX4 39 "LandmarkLeaModel" "many" "I", Cond.fieldLink RX4 20 "LandmarkLeaModel" "hubs" "[I", Cond.methodLink RX4 71 yX4_empties, Cond.instanceMethod yX4_empties, Cond.selects RX4 yX4_empties yX4_empties, Cond.code yX4_empties cX4_empties 3 none, Cond.fieldLink RX4 13 "LandmarkLeaModel" "distances" "[I", Cond.fieldLink RX4 17 "LandmarkLeaModel" "parents" "[I", Cond.methodLink RX4 75 yX4_givesRanks, Cond.instanceMethod yX4_givesRanks, Cond.selects RX4 yX4_givesRanks yX4_givesRanks, Cond.code yX4_givesRanks cX4_givesRanks 6 none, Cond.fieldLink RX4 23 "LandmarkLeaModel" "ranks" "[I", Cond.methodLink RX4 67 yX4_degree, Cond.instanceMethod yX4_degree, Cond.selects RX4 yX4_degree yX4_degree]
def wsX4_build_r2 : List Cond := [Cond.code yX4_degree cX4_degree 4 (some .int), Cond.methodLink RX4 63 yX4_isEdge, Cond.instanceMethod yX4_isEdge, Cond.selects RX4 yX4_isEdge yX4_isEdge, Cond.code yX4_isEdge cX4_isEdge 3 (some .boolean), Cond.fieldLink RX4 7 "LandmarkLeaModel" "near" "[J", Cond.methodLink RX4 78 yX4_counts, Cond.instanceMethod yX4_counts, Cond.selects RX4 yX4_counts yX4_counts, Cond.code yX4_counts cX4_counts 1 none, Cond.fieldLink RX4 57 "LandmarkLeaModel" "cut" "I", Cond.fieldLink RX4 60 "LandmarkLeaModel" "put" "I", Cond.methodLink RX4 81 yX4_searches, Cond.instanceMethod yX4_searches, Cond.selects RX4 yX4_searches yX4_searches, Cond.code yX4_searches cX4_searches 13 none, Cond.fieldLink RX4 26 "LandmarkLeaModel" "queue" "[I", Cond.fieldLink RX4 29 "LandmarkLeaModel" "far" "[I", Cond.fieldLink RX4 32 "LandmarkLeaModel" "from" "[I", Cond.methodLink RX4 50 yX4_isPruned, Cond.instanceMethod yX4_isPruned, Cond.selects RX4 yX4_isPruned yX4_isPruned, Cond.code yX4_isPruned cX4_isPruned 6 (some .boolean), Cond.methodLink RX4 46 yX4_estimate]
def wsX4_build_r3 : List Cond := [Cond.instanceMethod yX4_estimate, Cond.selects RX4 yX4_estimate yX4_estimate, Cond.code yX4_estimate cX4_estimate 10 (some .int), Cond.methodLink RX4 42 yX4_at, Cond.static yX4_at, Cond.code yX4_at cX4_at 3 (some .int), Cond.methodLink RX4 102 yX4_keepsCounts, Cond.instanceMethod yX4_keepsCounts, Cond.selects RX4 yX4_keepsCounts yX4_keepsCounts, Cond.code yX4_keepsCounts cX4_keepsCounts 1 none, Cond.fieldLink RX4 85 "LandmarkLeaModel" "pruned" "I", Cond.fieldLink RX4 88 "LandmarkLeaModel" "written" "I"]
def wsX4_build : List Cond := .code yX4_build cX4_build 1 (some .int) :: ((wsX4_build_r1 ++ (wsX4_build_r2 ++ wsX4_build_r3)) ++ wsX40)
def wsX4_isBuilt : List Cond := .code yX4_isBuilt cX4_isBuilt 1 (some .boolean) :: ([.fieldLink RX4 35 "LandmarkLeaModel" "thrown" "I", .fieldLink RX4 91 "LandmarkLeaModel" "isBuilt" "Z"] ++ wsX40)
def wsX4_wrong : List Cond := .code yX4_wrong cX4_wrong 3 (some .int) :: ([.fieldLink RX4 91 "LandmarkLeaModel" "isBuilt" "Z", .methodLink RX4 105 yX4_isVertex, .instanceMethod yX4_isVertex, .selects RX4 yX4_isVertex yX4_isVertex, .initialized RX4, .code yX4_isVertex cX4_isVertex 2 (some .boolean), .fieldLink RX4 39 "LandmarkLeaModel" "many" "I"] ++ wsX40)
def wsX4_rank : List Cond := .code yX4_rank cX4_rank 2 (some .int) :: ([.fieldLink RX4 23 "LandmarkLeaModel" "ranks" "[I", .methodLink RX4 118 yX4_wrong, .instanceMethod yX4_wrong, .selects RX4 yX4_wrong yX4_wrong, .initialized RX4, .code yX4_wrong cX4_wrong 3 (some .int), .fieldLink RX4 91 "LandmarkLeaModel" "isBuilt" "Z", .methodLink RX4 105 yX4_isVertex, .instanceMethod yX4_isVertex, .selects RX4 yX4_isVertex yX4_isVertex, .code yX4_isVertex cX4_isVertex 2 (some .boolean), .fieldLink RX4 39 "LandmarkLeaModel" "many" "I", .methodLink RX4 95 yX4_goes, .instanceMethod yX4_goes, .selects RX4 yX4_goes yX4_goes, .code yX4_goes cX4_goes 2 (some .boolean), .fieldLink RX4 35 "LandmarkLeaModel" "thrown" "I"] ++ wsX40)
def wsX4_size : List Cond := .code yX4_size cX4_size 5 (some .int) :: ([.fieldLink RX4 39 "LandmarkLeaModel" "many" "I", .fieldLink RX4 13 "LandmarkLeaModel" "distances" "[I", .methodLink RX4 42 yX4_at, .static yX4_at, .initialized RX4, .code yX4_at cX4_at 3 (some .int)] ++ wsX40)
def wsX4_all : List Cond := .code yX4_all cX4_all 4 (some .int) :: ([.fieldLink RX4 39 "LandmarkLeaModel" "many" "I", .methodLink RX4 122 yX4_size, .instanceMethod yX4_size, .selects RX4 yX4_size yX4_size, .initialized RX4, .code yX4_size cX4_size 5 (some .int), .fieldLink RX4 13 "LandmarkLeaModel" "distances" "[I", .methodLink RX4 42 yX4_at, .static yX4_at, .code yX4_at cX4_at 3 (some .int)] ++ wsX40)
def wsX4_entries : List Cond := .code yX4_entries cX4_entries 1 (some .int) :: ([.fieldLink RX4 35 "LandmarkLeaModel" "thrown" "I", .fieldLink RX4 91 "LandmarkLeaModel" "isBuilt" "Z", .methodLink RX4 125 yX4_all, .instanceMethod yX4_all, .selects RX4 yX4_all yX4_all, .initialized RX4, .code yX4_all cX4_all 4 (some .int), .fieldLink RX4 39 "LandmarkLeaModel" "many" "I", .methodLink RX4 122 yX4_size, .instanceMethod yX4_size, .selects RX4 yX4_size yX4_size, .code yX4_size cX4_size 5 (some .int), .fieldLink RX4 13 "LandmarkLeaModel" "distances" "[I", .methodLink RX4 42 yX4_at, .static yX4_at, .code yX4_at cX4_at 3 (some .int)] ++ wsX40)
def wsX4_entriesIfBuilt_r1 : List Cond := [Cond.fieldLink RX4 35 "LandmarkLeaModel" "thrown" "I", Cond.methodLink RX4 115 yX4_builds, Cond.instanceMethod yX4_builds, Cond.selects RX4 yX4_builds yX4_builds, Cond.initialized RX4, Cond.code yX4_builds cX4_builds 3 none, Cond.fieldLink RX4 39 "LandmarkLeaModel" "many" "I", Cond.fieldLink RX4 20 "LandmarkLeaModel" "hubs" "[I", Cond.methodLink RX4 71 yX4_empties, Cond.instanceMethod yX4_empties, Cond.selects RX4 yX4_empties yX4_empties, Cond.code yX4_empties cX4_empties 3 none, Cond.fieldLink RX4 13 "LandmarkLeaModel" "distances" "[I", Cond.fieldLink RX4 17 "LandmarkLeaModel" "parents" "[I", Cond.methodLink RX4 75 yX4_givesRanks, Cond.instanceMethod yX4_givesRanks, Cond.selects RX4 yX4_givesRanks yX4_givesRanks, Cond.code yX4_givesRanks cX4_givesRanks 6 none, Cond.fieldLink RX4 23 "LandmarkLeaModel" "ranks" "[I", Cond.methodLink RX4 67 yX4_degree, Cond.instanceMethod yX4_degree, Cond.selects RX4 yX4_degree yX4_degree, Cond.code yX4_degree cX4_degree 4 (some .int), Cond.methodLink RX4 63 yX4_isEdge]
def wsX4_entriesIfBuilt_r2 : List Cond := [Cond.instanceMethod yX4_isEdge, Cond.selects RX4 yX4_isEdge yX4_isEdge, Cond.code yX4_isEdge cX4_isEdge 3 (some .boolean), Cond.fieldLink RX4 7 "LandmarkLeaModel" "near" "[J", Cond.methodLink RX4 78 yX4_counts, Cond.instanceMethod yX4_counts, Cond.selects RX4 yX4_counts yX4_counts, Cond.code yX4_counts cX4_counts 1 none, Cond.fieldLink RX4 54 "LandmarkLeaModel" "visits" "I", Cond.fieldLink RX4 57 "LandmarkLeaModel" "cut" "I", Cond.fieldLink RX4 60 "LandmarkLeaModel" "put" "I", Cond.methodLink RX4 81 yX4_searches, Cond.instanceMethod yX4_searches, Cond.selects RX4 yX4_searches yX4_searches, Cond.code yX4_searches cX4_searches 13 none, Cond.fieldLink RX4 26 "LandmarkLeaModel" "queue" "[I", Cond.fieldLink RX4 29 "LandmarkLeaModel" "far" "[I", Cond.fieldLink RX4 32 "LandmarkLeaModel" "from" "[I", Cond.methodLink RX4 50 yX4_isPruned, Cond.instanceMethod yX4_isPruned, Cond.selects RX4 yX4_isPruned yX4_isPruned, Cond.code yX4_isPruned cX4_isPruned 6 (some .boolean), Cond.methodLink RX4 46 yX4_estimate, Cond.instanceMethod yX4_estimate]
def wsX4_entriesIfBuilt_r3 : List Cond := [Cond.selects RX4 yX4_estimate yX4_estimate, Cond.code yX4_estimate cX4_estimate 10 (some .int), Cond.methodLink RX4 42 yX4_at, Cond.static yX4_at, Cond.code yX4_at cX4_at 3 (some .int), Cond.methodLink RX4 125 yX4_all, Cond.instanceMethod yX4_all, Cond.selects RX4 yX4_all yX4_all, Cond.code yX4_all cX4_all 4 (some .int), Cond.methodLink RX4 122 yX4_size, Cond.instanceMethod yX4_size, Cond.selects RX4 yX4_size yX4_size, Cond.code yX4_size cX4_size 5 (some .int)]
def wsX4_entriesIfBuilt : List Cond := .code yX4_entriesIfBuilt cX4_entriesIfBuilt 1 (some .int) :: ((wsX4_entriesIfBuilt_r1 ++ (wsX4_entriesIfBuilt_r2 ++ wsX4_entriesIfBuilt_r3)) ++ wsX40)
def wsX4_labelSize : List Cond := .code yX4_labelSize cX4_labelSize 2 (some .int) :: ([.methodLink RX4 118 yX4_wrong, .instanceMethod yX4_wrong, .selects RX4 yX4_wrong yX4_wrong, .initialized RX4, .code yX4_wrong cX4_wrong 3 (some .int), .fieldLink RX4 91 "LandmarkLeaModel" "isBuilt" "Z", .methodLink RX4 105 yX4_isVertex, .instanceMethod yX4_isVertex, .selects RX4 yX4_isVertex yX4_isVertex, .code yX4_isVertex cX4_isVertex 2 (some .boolean), .fieldLink RX4 39 "LandmarkLeaModel" "many" "I", .methodLink RX4 95 yX4_goes, .instanceMethod yX4_goes, .selects RX4 yX4_goes yX4_goes, .code yX4_goes cX4_goes 2 (some .boolean), .fieldLink RX4 35 "LandmarkLeaModel" "thrown" "I", .methodLink RX4 122 yX4_size, .instanceMethod yX4_size, .selects RX4 yX4_size yX4_size, .code yX4_size cX4_size 5 (some .int), .fieldLink RX4 13 "LandmarkLeaModel" "distances" "[I", .methodLink RX4 42 yX4_at, .static yX4_at, .code yX4_at cX4_at 3 (some .int)] ++ wsX40)
def wsX4_asksEntry : List Cond := .code yX4_asksEntry cX4_asksEntry 7 (some .int) :: ([.fieldLink RX4 39 "LandmarkLeaModel" "many" "I", .fieldLink RX4 13 "LandmarkLeaModel" "distances" "[I", .methodLink RX4 118 yX4_wrong, .instanceMethod yX4_wrong, .selects RX4 yX4_wrong yX4_wrong, .initialized RX4, .code yX4_wrong cX4_wrong 3 (some .int), .fieldLink RX4 91 "LandmarkLeaModel" "isBuilt" "Z", .methodLink RX4 105 yX4_isVertex, .instanceMethod yX4_isVertex, .selects RX4 yX4_isVertex yX4_isVertex, .code yX4_isVertex cX4_isVertex 2 (some .boolean), .methodLink RX4 95 yX4_goes, .instanceMethod yX4_goes, .selects RX4 yX4_goes yX4_goes, .code yX4_goes cX4_goes 2 (some .boolean), .fieldLink RX4 35 "LandmarkLeaModel" "thrown" "I", .methodLink RX4 42 yX4_at, .static yX4_at, .code yX4_at cX4_at 3 (some .int)] ++ wsX40)
def wsX4_entryHub_r1 : List Cond := [Cond.fieldLink RX4 20 "LandmarkLeaModel" "hubs" "[I", Cond.methodLink RX4 128 yX4_asksEntry, Cond.instanceMethod yX4_asksEntry, Cond.selects RX4 yX4_asksEntry yX4_asksEntry, Cond.initialized RX4, Cond.code yX4_asksEntry cX4_asksEntry 7 (some .int), Cond.fieldLink RX4 39 "LandmarkLeaModel" "many" "I", Cond.fieldLink RX4 13 "LandmarkLeaModel" "distances" "[I", Cond.methodLink RX4 118 yX4_wrong, Cond.instanceMethod yX4_wrong, Cond.selects RX4 yX4_wrong yX4_wrong, Cond.code yX4_wrong cX4_wrong 3 (some .int), Cond.fieldLink RX4 91 "LandmarkLeaModel" "isBuilt" "Z", Cond.methodLink RX4 105 yX4_isVertex, Cond.instanceMethod yX4_isVertex, Cond.selects RX4 yX4_isVertex yX4_isVertex, Cond.code yX4_isVertex cX4_isVertex 2 (some .boolean), Cond.methodLink RX4 95 yX4_goes, Cond.instanceMethod yX4_goes, Cond.selects RX4 yX4_goes yX4_goes, Cond.code yX4_goes cX4_goes 2 (some .boolean), Cond.fieldLink RX4 35 "LandmarkLeaModel" "thrown" "I", Cond.methodLink RX4 42 yX4_at, Cond.static yX4_at]
def wsX4_entryHub_r2 : List Cond := [Cond.code yX4_at cX4_at 3 (some .int)]
def wsX4_entryHub : List Cond := .code yX4_entryHub cX4_entryHub 4 (some .int) :: ((wsX4_entryHub_r1 ++ wsX4_entryHub_r2) ++ wsX40)
def wsX4_entryDistance : List Cond := .code yX4_entryDistance cX4_entryDistance 4 (some .int) :: ([.fieldLink RX4 13 "LandmarkLeaModel" "distances" "[I", .methodLink RX4 128 yX4_asksEntry, .instanceMethod yX4_asksEntry, .selects RX4 yX4_asksEntry yX4_asksEntry, .initialized RX4, .code yX4_asksEntry cX4_asksEntry 7 (some .int), .fieldLink RX4 39 "LandmarkLeaModel" "many" "I", .methodLink RX4 118 yX4_wrong, .instanceMethod yX4_wrong, .selects RX4 yX4_wrong yX4_wrong, .code yX4_wrong cX4_wrong 3 (some .int), .fieldLink RX4 91 "LandmarkLeaModel" "isBuilt" "Z", .methodLink RX4 105 yX4_isVertex, .instanceMethod yX4_isVertex, .selects RX4 yX4_isVertex yX4_isVertex, .code yX4_isVertex cX4_isVertex 2 (some .boolean), .methodLink RX4 95 yX4_goes, .instanceMethod yX4_goes, .selects RX4 yX4_goes yX4_goes, .code yX4_goes cX4_goes 2 (some .boolean), .fieldLink RX4 35 "LandmarkLeaModel" "thrown" "I", .methodLink RX4 42 yX4_at, .static yX4_at, .code yX4_at cX4_at 3 (some .int)] ++ wsX40)
def wsX4_entryParent_r1 : List Cond := [Cond.fieldLink RX4 17 "LandmarkLeaModel" "parents" "[I", Cond.methodLink RX4 128 yX4_asksEntry, Cond.instanceMethod yX4_asksEntry, Cond.selects RX4 yX4_asksEntry yX4_asksEntry, Cond.initialized RX4, Cond.code yX4_asksEntry cX4_asksEntry 7 (some .int), Cond.fieldLink RX4 39 "LandmarkLeaModel" "many" "I", Cond.fieldLink RX4 13 "LandmarkLeaModel" "distances" "[I", Cond.methodLink RX4 118 yX4_wrong, Cond.instanceMethod yX4_wrong, Cond.selects RX4 yX4_wrong yX4_wrong, Cond.code yX4_wrong cX4_wrong 3 (some .int), Cond.fieldLink RX4 91 "LandmarkLeaModel" "isBuilt" "Z", Cond.methodLink RX4 105 yX4_isVertex, Cond.instanceMethod yX4_isVertex, Cond.selects RX4 yX4_isVertex yX4_isVertex, Cond.code yX4_isVertex cX4_isVertex 2 (some .boolean), Cond.methodLink RX4 95 yX4_goes, Cond.instanceMethod yX4_goes, Cond.selects RX4 yX4_goes yX4_goes, Cond.code yX4_goes cX4_goes 2 (some .boolean), Cond.fieldLink RX4 35 "LandmarkLeaModel" "thrown" "I", Cond.methodLink RX4 42 yX4_at, Cond.static yX4_at]
def wsX4_entryParent_r2 : List Cond := [Cond.code yX4_at cX4_at 3 (some .int)]
def wsX4_entryParent : List Cond := .code yX4_entryParent cX4_entryParent 4 (some .int) :: ((wsX4_entryParent_r1 ++ wsX4_entryParent_r2) ++ wsX40)
def wsX4_between : List Cond := .code yX4_between cX4_between 3 (some .int) :: ([.fieldLink RX4 39 "LandmarkLeaModel" "many" "I", .methodLink RX4 46 yX4_estimate, .instanceMethod yX4_estimate, .selects RX4 yX4_estimate yX4_estimate, .initialized RX4, .code yX4_estimate cX4_estimate 10 (some .int), .fieldLink RX4 13 "LandmarkLeaModel" "distances" "[I", .methodLink RX4 42 yX4_at, .static yX4_at, .code yX4_at cX4_at 3 (some .int)] ++ wsX40)
def wsX4_distance_r1 : List Cond := [Cond.methodLink RX4 118 yX4_wrong, Cond.instanceMethod yX4_wrong, Cond.selects RX4 yX4_wrong yX4_wrong, Cond.initialized RX4, Cond.code yX4_wrong cX4_wrong 3 (some .int), Cond.fieldLink RX4 91 "LandmarkLeaModel" "isBuilt" "Z", Cond.methodLink RX4 105 yX4_isVertex, Cond.instanceMethod yX4_isVertex, Cond.selects RX4 yX4_isVertex yX4_isVertex, Cond.code yX4_isVertex cX4_isVertex 2 (some .boolean), Cond.fieldLink RX4 39 "LandmarkLeaModel" "many" "I", Cond.methodLink RX4 95 yX4_goes, Cond.instanceMethod yX4_goes, Cond.selects RX4 yX4_goes yX4_goes, Cond.code yX4_goes cX4_goes 2 (some .boolean), Cond.fieldLink RX4 35 "LandmarkLeaModel" "thrown" "I", Cond.methodLink RX4 131 yX4_between, Cond.instanceMethod yX4_between, Cond.selects RX4 yX4_between yX4_between, Cond.code yX4_between cX4_between 3 (some .int), Cond.methodLink RX4 46 yX4_estimate, Cond.instanceMethod yX4_estimate, Cond.selects RX4 yX4_estimate yX4_estimate, Cond.code yX4_estimate cX4_estimate 10 (some .int)]
def wsX4_distance_r2 : List Cond := [Cond.fieldLink RX4 13 "LandmarkLeaModel" "distances" "[I", Cond.methodLink RX4 42 yX4_at, Cond.static yX4_at, Cond.code yX4_at cX4_at 3 (some .int)]
def wsX4_distance : List Cond := .code yX4_distance cX4_distance 3 (some .int) :: ((wsX4_distance_r1 ++ wsX4_distance_r2) ++ wsX40)
def wsX4_rankBetween : List Cond := .code yX4_rankBetween cX4_rankBetween 8 (some .int) :: ([.fieldLink RX4 39 "LandmarkLeaModel" "many" "I", .fieldLink RX4 13 "LandmarkLeaModel" "distances" "[I", .methodLink RX4 131 yX4_between, .instanceMethod yX4_between, .selects RX4 yX4_between yX4_between, .initialized RX4, .code yX4_between cX4_between 3 (some .int), .methodLink RX4 46 yX4_estimate, .instanceMethod yX4_estimate, .selects RX4 yX4_estimate yX4_estimate, .code yX4_estimate cX4_estimate 10 (some .int), .methodLink RX4 42 yX4_at, .static yX4_at, .code yX4_at cX4_at 3 (some .int)] ++ wsX40)
def wsX4_hub_r1 : List Cond := [Cond.fieldLink RX4 20 "LandmarkLeaModel" "hubs" "[I", Cond.methodLink RX4 118 yX4_wrong, Cond.instanceMethod yX4_wrong, Cond.selects RX4 yX4_wrong yX4_wrong, Cond.initialized RX4, Cond.code yX4_wrong cX4_wrong 3 (some .int), Cond.fieldLink RX4 91 "LandmarkLeaModel" "isBuilt" "Z", Cond.methodLink RX4 105 yX4_isVertex, Cond.instanceMethod yX4_isVertex, Cond.selects RX4 yX4_isVertex yX4_isVertex, Cond.code yX4_isVertex cX4_isVertex 2 (some .boolean), Cond.fieldLink RX4 39 "LandmarkLeaModel" "many" "I", Cond.methodLink RX4 95 yX4_goes, Cond.instanceMethod yX4_goes, Cond.selects RX4 yX4_goes yX4_goes, Cond.code yX4_goes cX4_goes 2 (some .boolean), Cond.fieldLink RX4 35 "LandmarkLeaModel" "thrown" "I", Cond.methodLink RX4 134 yX4_rankBetween, Cond.instanceMethod yX4_rankBetween, Cond.selects RX4 yX4_rankBetween yX4_rankBetween, Cond.code yX4_rankBetween cX4_rankBetween 8 (some .int), Cond.fieldLink RX4 13 "LandmarkLeaModel" "distances" "[I", Cond.methodLink RX4 131 yX4_between, Cond.instanceMethod yX4_between]
def wsX4_hub_r2 : List Cond := [Cond.selects RX4 yX4_between yX4_between, Cond.code yX4_between cX4_between 3 (some .int), Cond.methodLink RX4 46 yX4_estimate, Cond.instanceMethod yX4_estimate, Cond.selects RX4 yX4_estimate yX4_estimate, Cond.code yX4_estimate cX4_estimate 10 (some .int), Cond.methodLink RX4 42 yX4_at, Cond.static yX4_at, Cond.code yX4_at cX4_at 3 (some .int)]
def wsX4_hub : List Cond := .code yX4_hub cX4_hub 4 (some .int) :: ((wsX4_hub_r1 ++ wsX4_hub_r2) ++ wsX40)
def wsX4_steps : List Cond := .code yX4_steps cX4_steps 5 (some .int) :: ([.fieldLink RX4 20 "LandmarkLeaModel" "hubs" "[I", .fieldLink RX4 17 "LandmarkLeaModel" "parents" "[I", .methodLink RX4 42 yX4_at, .static yX4_at, .initialized RX4, .code yX4_at cX4_at 3 (some .int)] ++ wsX40)
def wsX4_stepped : List Cond := .code yX4_stepped cX4_stepped 6 (some .int) :: ([.fieldLink RX4 17 "LandmarkLeaModel" "parents" "[I", .methodLink RX4 42 yX4_at, .static yX4_at, .initialized RX4, .code yX4_at cX4_at 3 (some .int)] ++ wsX40)
def wsX4_pathVertex_r1 : List Cond := [Cond.methodLink RX4 118 yX4_wrong, Cond.instanceMethod yX4_wrong, Cond.selects RX4 yX4_wrong yX4_wrong, Cond.initialized RX4, Cond.code yX4_wrong cX4_wrong 3 (some .int), Cond.fieldLink RX4 91 "LandmarkLeaModel" "isBuilt" "Z", Cond.methodLink RX4 105 yX4_isVertex, Cond.instanceMethod yX4_isVertex, Cond.selects RX4 yX4_isVertex yX4_isVertex, Cond.code yX4_isVertex cX4_isVertex 2 (some .boolean), Cond.fieldLink RX4 39 "LandmarkLeaModel" "many" "I", Cond.methodLink RX4 95 yX4_goes, Cond.instanceMethod yX4_goes, Cond.selects RX4 yX4_goes yX4_goes, Cond.code yX4_goes cX4_goes 2 (some .boolean), Cond.fieldLink RX4 35 "LandmarkLeaModel" "thrown" "I", Cond.methodLink RX4 134 yX4_rankBetween, Cond.instanceMethod yX4_rankBetween, Cond.selects RX4 yX4_rankBetween yX4_rankBetween, Cond.code yX4_rankBetween cX4_rankBetween 8 (some .int), Cond.fieldLink RX4 13 "LandmarkLeaModel" "distances" "[I", Cond.methodLink RX4 131 yX4_between, Cond.instanceMethod yX4_between, Cond.selects RX4 yX4_between yX4_between]
def wsX4_pathVertex_r2 : List Cond := [Cond.code yX4_between cX4_between 3 (some .int), Cond.methodLink RX4 46 yX4_estimate, Cond.instanceMethod yX4_estimate, Cond.selects RX4 yX4_estimate yX4_estimate, Cond.code yX4_estimate cX4_estimate 10 (some .int), Cond.methodLink RX4 42 yX4_at, Cond.static yX4_at, Cond.code yX4_at cX4_at 3 (some .int), Cond.methodLink RX4 137 yX4_steps, Cond.instanceMethod yX4_steps, Cond.selects RX4 yX4_steps yX4_steps, Cond.code yX4_steps cX4_steps 5 (some .int), Cond.fieldLink RX4 20 "LandmarkLeaModel" "hubs" "[I", Cond.fieldLink RX4 17 "LandmarkLeaModel" "parents" "[I", Cond.methodLink RX4 140 yX4_stepped, Cond.instanceMethod yX4_stepped, Cond.selects RX4 yX4_stepped yX4_stepped, Cond.code yX4_stepped cX4_stepped 6 (some .int)]
def wsX4_pathVertex : List Cond := .code yX4_pathVertex cX4_pathVertex 8 (some .int) :: ((wsX4_pathVertex_r1 ++ wsX4_pathVertex_r2) ++ wsX40)
def wsX4_within_r1 : List Cond := [Cond.fieldLink RX4 39 "LandmarkLeaModel" "many" "I", Cond.methodLink RX4 118 yX4_wrong, Cond.instanceMethod yX4_wrong, Cond.selects RX4 yX4_wrong yX4_wrong, Cond.initialized RX4, Cond.code yX4_wrong cX4_wrong 3 (some .int), Cond.fieldLink RX4 91 "LandmarkLeaModel" "isBuilt" "Z", Cond.methodLink RX4 105 yX4_isVertex, Cond.instanceMethod yX4_isVertex, Cond.selects RX4 yX4_isVertex yX4_isVertex, Cond.code yX4_isVertex cX4_isVertex 2 (some .boolean), Cond.methodLink RX4 95 yX4_goes, Cond.instanceMethod yX4_goes, Cond.selects RX4 yX4_goes yX4_goes, Cond.code yX4_goes cX4_goes 2 (some .boolean), Cond.fieldLink RX4 35 "LandmarkLeaModel" "thrown" "I", Cond.methodLink RX4 131 yX4_between, Cond.instanceMethod yX4_between, Cond.selects RX4 yX4_between yX4_between, Cond.code yX4_between cX4_between 3 (some .int), Cond.methodLink RX4 46 yX4_estimate, Cond.instanceMethod yX4_estimate, Cond.selects RX4 yX4_estimate yX4_estimate, Cond.code yX4_estimate cX4_estimate 10 (some .int)]
def wsX4_within_r2 : List Cond := [Cond.fieldLink RX4 13 "LandmarkLeaModel" "distances" "[I", Cond.methodLink RX4 42 yX4_at, Cond.static yX4_at, Cond.code yX4_at cX4_at 3 (some .int)]
def wsX4_within : List Cond := .code yX4_within cX4_within 9 (some .long) :: ((wsX4_within_r1 ++ wsX4_within_r2) ++ wsX40)
def wsX4_eccentricity_r1 : List Cond := [Cond.fieldLink RX4 39 "LandmarkLeaModel" "many" "I", Cond.methodLink RX4 118 yX4_wrong, Cond.instanceMethod yX4_wrong, Cond.selects RX4 yX4_wrong yX4_wrong, Cond.initialized RX4, Cond.code yX4_wrong cX4_wrong 3 (some .int), Cond.fieldLink RX4 91 "LandmarkLeaModel" "isBuilt" "Z", Cond.methodLink RX4 105 yX4_isVertex, Cond.instanceMethod yX4_isVertex, Cond.selects RX4 yX4_isVertex yX4_isVertex, Cond.code yX4_isVertex cX4_isVertex 2 (some .boolean), Cond.methodLink RX4 95 yX4_goes, Cond.instanceMethod yX4_goes, Cond.selects RX4 yX4_goes yX4_goes, Cond.code yX4_goes cX4_goes 2 (some .boolean), Cond.fieldLink RX4 35 "LandmarkLeaModel" "thrown" "I", Cond.methodLink RX4 131 yX4_between, Cond.instanceMethod yX4_between, Cond.selects RX4 yX4_between yX4_between, Cond.code yX4_between cX4_between 3 (some .int), Cond.methodLink RX4 46 yX4_estimate, Cond.instanceMethod yX4_estimate, Cond.selects RX4 yX4_estimate yX4_estimate, Cond.code yX4_estimate cX4_estimate 10 (some .int)]
def wsX4_eccentricity_r2 : List Cond := [Cond.fieldLink RX4 13 "LandmarkLeaModel" "distances" "[I", Cond.methodLink RX4 42 yX4_at, Cond.static yX4_at, Cond.code yX4_at cX4_at 3 (some .int)]
def wsX4_eccentricity : List Cond := .code yX4_eccentricity cX4_eccentricity 6 (some .int) :: ((wsX4_eccentricity_r1 ++ wsX4_eccentricity_r2) ++ wsX40)
def wsX4_pruned : List Cond := .code yX4_pruned cX4_pruned 1 (some .int) :: ([.fieldLink RX4 35 "LandmarkLeaModel" "thrown" "I", .fieldLink RX4 85 "LandmarkLeaModel" "pruned" "I"] ++ wsX40)
def wsX4_written : List Cond := .code yX4_written cX4_written 1 (some .int) :: ([.fieldLink RX4 35 "LandmarkLeaModel" "thrown" "I", .fieldLink RX4 88 "LandmarkLeaModel" "written" "I"] ++ wsX40)
def wsJ9_max_7cf53 : List Cond := .code yJ9_max_7cf53 cJ9_max_7cf53 2 (some .int) :: ([])
def wsL_addVertex_r1 : List Cond := [Cond.classLink RL 13 "java/lang/IllegalStateException", Cond.methodLink RL 7 yX3_addVertex, Cond.instanceMethod yX3_addVertex, Cond.selects RX3 yX3_addVertex yX3_addVertex, Cond.initialized RX3, Cond.code yX3_addVertex cX3_addVertex 1 (some .int), Cond.methodLink RX3 42 yX3_requireRoomFor, Cond.instanceMethod yX3_requireRoomFor, Cond.selects RX3 yX3_requireRoomFor yX3_requireRoomFor, Cond.code yX3_requireRoomFor cX3_requireRoomFor 2 none, Cond.classLink RX3 67 "java/lang/IllegalStateException", Cond.initialized "java/lang/IllegalStateException", Cond.fieldLink RX3 10 "LandmarkLea" "graph" "LLandmarkLea$Graph;", Cond.methodLink RX3 57 yX0_size, Cond.instanceMethod yX0_size, Cond.selects RX0 yX0_size yX0_size, Cond.initialized RX0, Cond.code yX0_size cX0_size 1 (some .int), Cond.fieldLink RX0 15 "LandmarkLea$Graph" "vertexCount" "I", Cond.methodLink RX3 46 yX3_appendVertex, Cond.instanceMethod yX3_appendVertex, Cond.selects RX3 yX3_appendVertex yX3_appendVertex, Cond.code yX3_appendVertex cX3_appendVertex 2 (some .int), Cond.fieldLink RX3 38 "LandmarkLea" "labelled" "Z"]
def wsL_addVertex_r2 : List Cond := [Cond.fieldLink RX3 19 "LandmarkLea" "labels" "LLandmarkLea$Labels;", Cond.methodLink RX3 155 yX0_grow, Cond.instanceMethod yX0_grow, Cond.selects RX0 yX0_grow yX0_grow, Cond.code yX0_grow cX0_grow 2 (some .int), Cond.methodLink RX3 158 yX1_rankNext, Cond.instanceMethod yX1_rankNext, Cond.selects RX1 yX1_rankNext yX1_rankNext, Cond.initialized RX1, Cond.code yX1_rankNext cX1_rankNext 2 none, Cond.fieldLink RX1 18 "LandmarkLea$Labels" "rankedCount" "I", Cond.fieldLink RX1 9 "LandmarkLea$Labels" "ranks" "[I", Cond.fieldLink RX1 15 "LandmarkLea$Labels" "verticesByRank" "[I", Cond.static yX3_isRow, Cond.code yX3_isRow cX3_isRow 1 (some .boolean), Cond.methodLink RX3 102 yX1_rankOf, Cond.instanceMethod yX1_rankOf, Cond.selects RX1 yX1_rankOf yX1_rankOf, Cond.code yX1_rankOf cX1_rankOf 2 (some .int), Cond.methodLink RX3 161 yX1_put, Cond.instanceMethod yX1_put, Cond.selects RX1 yX1_put yX1_put, Cond.code yX1_put cX1_put 5 none, Cond.fieldLink RX1 22 "LandmarkLea$Labels" "hubSets" "[J"]
def wsL_addVertex_r3 : List Cond := [Cond.fieldLink RX1 26 "LandmarkLea$Labels" "distances" "[I", Cond.fieldLink RX1 29 "LandmarkLea$Labels" "parents" "[I"]
def wsL_addVertex : List Cond := .codeWith yL_addVertex cL_addVertex 3 (some .int) [(0, 8, 11, 13)] :: ((wsL_addVertex_r1 ++ (wsL_addVertex_r2 ++ wsL_addVertex_r3)) ++ wsX30 ++ wsX00 ++ wsX10 ++ (vx_atS RX3 71 "java/lang/IllegalStateException" ["java/lang/RuntimeException", "java/lang/Exception"]).filter goodWord)
def wsL_addVertices_r1 : List Cond := [Cond.classLink RL 19 "java/lang/IllegalArgumentException", Cond.classLink RL 13 "java/lang/IllegalStateException", Cond.methodLink RL 15 yX3_addVertices, Cond.instanceMethod yX3_addVertices, Cond.selects RX3 yX3_addVertices yX3_addVertices, Cond.initialized RX3, Cond.code yX3_addVertices cX3_addVertices 3 (some .int), Cond.classLink RX3 50 "java/lang/IllegalArgumentException", Cond.initialized "java/lang/IllegalArgumentException", Cond.fieldLink RX3 10 "LandmarkLea" "graph" "LLandmarkLea$Graph;", Cond.methodLink RX3 42 yX3_requireRoomFor, Cond.instanceMethod yX3_requireRoomFor, Cond.selects RX3 yX3_requireRoomFor yX3_requireRoomFor, Cond.code yX3_requireRoomFor cX3_requireRoomFor 2 none, Cond.classLink RX3 67 "java/lang/IllegalStateException", Cond.initialized "java/lang/IllegalStateException", Cond.methodLink RX3 57 yX0_size, Cond.instanceMethod yX0_size, Cond.selects RX0 yX0_size yX0_size, Cond.initialized RX0, Cond.code yX0_size cX0_size 1 (some .int), Cond.fieldLink RX0 15 "LandmarkLea$Graph" "vertexCount" "I", Cond.methodLink RX3 46 yX3_appendVertex, Cond.instanceMethod yX3_appendVertex]
def wsL_addVertices_r2 : List Cond := [Cond.selects RX3 yX3_appendVertex yX3_appendVertex, Cond.code yX3_appendVertex cX3_appendVertex 2 (some .int), Cond.fieldLink RX3 38 "LandmarkLea" "labelled" "Z", Cond.fieldLink RX3 19 "LandmarkLea" "labels" "LLandmarkLea$Labels;", Cond.methodLink RX3 155 yX0_grow, Cond.instanceMethod yX0_grow, Cond.selects RX0 yX0_grow yX0_grow, Cond.code yX0_grow cX0_grow 2 (some .int), Cond.methodLink RX3 158 yX1_rankNext, Cond.instanceMethod yX1_rankNext, Cond.selects RX1 yX1_rankNext yX1_rankNext, Cond.initialized RX1, Cond.code yX1_rankNext cX1_rankNext 2 none, Cond.fieldLink RX1 18 "LandmarkLea$Labels" "rankedCount" "I", Cond.fieldLink RX1 9 "LandmarkLea$Labels" "ranks" "[I", Cond.fieldLink RX1 15 "LandmarkLea$Labels" "verticesByRank" "[I", Cond.static yX3_isRow, Cond.code yX3_isRow cX3_isRow 1 (some .boolean), Cond.methodLink RX3 102 yX1_rankOf, Cond.instanceMethod yX1_rankOf, Cond.selects RX1 yX1_rankOf yX1_rankOf, Cond.code yX1_rankOf cX1_rankOf 2 (some .int), Cond.methodLink RX3 161 yX1_put, Cond.instanceMethod yX1_put]
def wsL_addVertices_r3 : List Cond := [Cond.selects RX1 yX1_put yX1_put, Cond.code yX1_put cX1_put 5 none, Cond.fieldLink RX1 22 "LandmarkLea$Labels" "hubSets" "[J", Cond.fieldLink RX1 26 "LandmarkLea$Labels" "distances" "[I", Cond.fieldLink RX1 29 "LandmarkLea$Labels" "parents" "[I"]
def wsL_addVertices : List Cond := .codeWith yL_addVertices cL_addVertices 4 (some .int) [(0, 9, 12, 19), (0, 9, 15, 13)] :: ((wsL_addVertices_r1 ++ (wsL_addVertices_r2 ++ wsL_addVertices_r3)) ++ wsX30 ++ wsX00 ++ wsX10 ++ (vx_atS RX3 54 "java/lang/IllegalArgumentException" ["java/lang/RuntimeException", "java/lang/Exception"]).filter goodWord ++ (vx_atS RX3 71 "java/lang/IllegalStateException" ["java/lang/RuntimeException", "java/lang/Exception"]).filter goodWord)
def wsL_addEdge_r1 : List Cond := [Cond.classLink RL 25 "java/lang/IndexOutOfBoundsException", Cond.classLink RL 13 "java/lang/IllegalStateException", Cond.methodLink RL 21 yX3_addEdge, Cond.instanceMethod yX3_addEdge, Cond.selects RX3 yX3_addEdge yX3_addEdge, Cond.initialized RX3, Cond.code yX3_addEdge cX3_addEdge 3 (some .int), Cond.classLink RX3 67 "java/lang/IllegalStateException", Cond.initialized "java/lang/IllegalStateException", Cond.fieldLink RX3 10 "LandmarkLea" "graph" "LLandmarkLea$Graph;", Cond.fieldLink RX3 38 "LandmarkLea" "labelled" "Z", Cond.fieldLink RX3 28 "LandmarkLea" "searches" "LLandmarkLea$Searches;", Cond.methodLink RX3 60 yX3_requireVertex, Cond.instanceMethod yX3_requireVertex, Cond.selects RX3 yX3_requireVertex yX3_requireVertex, Cond.code yX3_requireVertex cX3_requireVertex 2 none, Cond.classLink RX3 171 "java/lang/IndexOutOfBoundsException", Cond.initialized "java/lang/IndexOutOfBoundsException", Cond.methodLink RX3 167 yX0_has, Cond.instanceMethod yX0_has, Cond.selects RX0 yX0_has yX0_has, Cond.initialized RX0, Cond.code yX0_has cX0_has 2 (some .boolean), Cond.fieldLink RX0 15 "LandmarkLea$Graph" "vertexCount" "I"]
def wsL_addEdge_r2 : List Cond := [Cond.methodLink RX3 63 yX0_joins, Cond.instanceMethod yX0_joins, Cond.selects RX0 yX0_joins yX0_joins, Cond.code yX0_joins cX0_joins 3 (some .boolean), Cond.static yX3_isRow, Cond.code yX3_isRow cX3_isRow 1 (some .boolean), Cond.methodLink RX0 26 yX0_adjacent, Cond.instanceMethod yX0_adjacent, Cond.selects RX0 yX0_adjacent yX0_adjacent, Cond.code yX0_adjacent cX0_adjacent 2 (some .long), Cond.fieldLink RX0 9 "LandmarkLea$Graph" "neighbourSets" "[J", Cond.static yX3_hasBit, Cond.code yX3_hasBit cX3_hasBit 3 (some .boolean), Cond.methodLink RX3 72 yX0_join, Cond.instanceMethod yX0_join, Cond.selects RX0 yX0_join yX0_join, Cond.code yX0_join cX0_join 3 none, Cond.fieldLink RX0 19 "LandmarkLea$Graph" "edgeCount" "I", Cond.methodLink RX3 76 yX2_extend, Cond.instanceMethod yX2_extend, Cond.selects RX2 yX2_extend yX2_extend, Cond.initialized RX2, Cond.code yX2_extend cX2_extend 6 (some .int), Cond.fieldLink RX2 9 "LandmarkLea$Searches" "graph" "LLandmarkLea$Graph;"]
def wsL_addEdge_r3 : List Cond := [Cond.fieldLink RX2 15 "LandmarkLea$Searches" "labels" "LLandmarkLea$Labels;", Cond.fieldLink RX2 37 "LandmarkLea$Searches" "visitCount" "I", Cond.methodLink RX2 46 yX2_forgetCounts, Cond.instanceMethod yX2_forgetCounts, Cond.selects RX2 yX2_forgetCounts yX2_forgetCounts, Cond.code yX2_forgetCounts cX2_forgetCounts 1 none, Cond.fieldLink RX2 40 "LandmarkLea$Searches" "prunedCount" "I", Cond.fieldLink RX2 43 "LandmarkLea$Searches" "writtenCount" "I", Cond.methodLink RX2 58 yX0_size, Cond.instanceMethod yX0_size, Cond.selects RX0 yX0_size yX0_size, Cond.code yX0_size cX0_size 1 (some .int), Cond.methodLink RX2 72 yX1_distanceTo, Cond.instanceMethod yX1_distanceTo, Cond.selects RX1 yX1_distanceTo yX1_distanceTo, Cond.initialized RX1, Cond.code yX1_distanceTo cX1_distanceTo 3 (some .int), Cond.fieldLink RX1 26 "LandmarkLea$Labels" "distances" "[I", Cond.methodLink RX1 54 yX1_hasEntry, Cond.instanceMethod yX1_hasEntry, Cond.selects RX1 yX1_hasEntry yX1_hasEntry, Cond.code yX1_hasEntry cX1_hasEntry 3 (some .boolean), Cond.fieldLink RX1 22 "LandmarkLea$Labels" "hubSets" "[J", Cond.methodLink RX2 68 yX2_search]
def wsL_addEdge_r4 : List Cond := [Cond.instanceMethod yX2_search, Cond.selects RX2 yX2_search yX2_search, Cond.code yX2_search cX2_search 6 none, Cond.fieldLink RX2 29 "LandmarkLea$Searches" "queueLength" "I", Cond.fieldLink RX2 33 "LandmarkLea$Searches" "queuedSet" "J", Cond.fieldLink RX2 19 "LandmarkLea$Searches" "queueVertices" "[I", Cond.fieldLink RX2 23 "LandmarkLea$Searches" "queueDistances" "[I", Cond.fieldLink RX2 26 "LandmarkLea$Searches" "queueParents" "[I", Cond.methodLink RX2 76 yX2_enqueue, Cond.instanceMethod yX2_enqueue, Cond.selects RX2 yX2_enqueue yX2_enqueue, Cond.code yX2_enqueue cX2_enqueue 4 none, Cond.methodLink RX2 80 yX2_visit, Cond.instanceMethod yX2_visit, Cond.selects RX2 yX2_visit yX2_visit, Cond.code yX2_visit cX2_visit 8 none, Cond.constantLong RX2 98 (-1), Cond.methodLink RX2 87 yX1_reaches, Cond.instanceMethod yX1_reaches, Cond.selects RX1 yX1_reaches yX1_reaches, Cond.code yX1_reaches cX1_reaches 8 (some .boolean), Cond.methodLink RX1 67 yX1_vertexOf, Cond.instanceMethod yX1_vertexOf, Cond.selects RX1 yX1_vertexOf yX1_vertexOf]
def wsL_addEdge_r5 : List Cond := [Cond.code yX1_vertexOf cX1_vertexOf 2 (some .int), Cond.fieldLink RX1 15 "LandmarkLea$Labels" "verticesByRank" "[I", Cond.methodLink RX1 70 yX1_commonHubs, Cond.instanceMethod yX1_commonHubs, Cond.selects RX1 yX1_commonHubs yX1_commonHubs, Cond.code yX1_commonHubs cX1_commonHubs 3 (some .long), Cond.methodLink RX1 74 yX1_sumThrough, Cond.instanceMethod yX1_sumThrough, Cond.selects RX1 yX1_sumThrough yX1_sumThrough, Cond.code yX1_sumThrough cX1_sumThrough 4 (some .int), Cond.methodLink RX2 91 yX1_put, Cond.instanceMethod yX1_put, Cond.selects RX1 yX1_put yX1_put, Cond.code yX1_put cX1_put 5 none, Cond.fieldLink RX1 29 "LandmarkLea$Labels" "parents" "[I", Cond.methodLink RX2 94 yX0_adjacent]
def wsL_addEdge : List Cond := .codeWith yL_addEdge cL_addEdge 5 (some .int) [(0, 10, 13, 25), (0, 10, 17, 13)] :: ((wsL_addEdge_r1 ++ (wsL_addEdge_r2 ++ (wsL_addEdge_r3 ++ (wsL_addEdge_r4 ++ wsL_addEdge_r5)))) ++ wsX30 ++ wsX00 ++ wsX20 ++ wsX10 ++ (vx_atS RX3 71 "java/lang/IllegalStateException" ["java/lang/RuntimeException", "java/lang/Exception"]).filter goodWord ++ (vx_atS RX3 175 "java/lang/IndexOutOfBoundsException" ["java/lang/RuntimeException", "java/lang/Exception"]).filter goodWord)
def wsL_neighbours_r1 : List Cond := [Cond.classLink RL 25 "java/lang/IndexOutOfBoundsException", Cond.methodLink RL 27 yX3_neighbours, Cond.instanceMethod yX3_neighbours, Cond.selects RX3 yX3_neighbours yX3_neighbours, Cond.initialized RX3, Cond.code yX3_neighbours cX3_neighbours 2 (some .long), Cond.fieldLink RX3 10 "LandmarkLea" "graph" "LLandmarkLea$Graph;", Cond.methodLink RX3 60 yX3_requireVertex, Cond.instanceMethod yX3_requireVertex, Cond.selects RX3 yX3_requireVertex yX3_requireVertex, Cond.code yX3_requireVertex cX3_requireVertex 2 none, Cond.classLink RX3 171 "java/lang/IndexOutOfBoundsException", Cond.initialized "java/lang/IndexOutOfBoundsException", Cond.methodLink RX3 167 yX0_has, Cond.instanceMethod yX0_has, Cond.selects RX0 yX0_has yX0_has, Cond.initialized RX0, Cond.code yX0_has cX0_has 2 (some .boolean), Cond.fieldLink RX0 15 "LandmarkLea$Graph" "vertexCount" "I", Cond.methodLink RX3 92 yX0_adjacent, Cond.instanceMethod yX0_adjacent, Cond.selects RX0 yX0_adjacent yX0_adjacent, Cond.code yX0_adjacent cX0_adjacent 2 (some .long), Cond.fieldLink RX0 9 "LandmarkLea$Graph" "neighbourSets" "[J"]
def wsL_neighbours_r2 : List Cond := [Cond.static yX3_isRow, Cond.code yX3_isRow cX3_isRow 1 (some .boolean)]
def wsL_neighbours : List Cond := .codeWith yL_neighbours cL_neighbours 4 (some .int) [(0, 8, 11, 25)] :: ((wsL_neighbours_r1 ++ wsL_neighbours_r2) ++ wsX30 ++ wsX00 ++ (vx_atS RX3 175 "java/lang/IndexOutOfBoundsException" ["java/lang/RuntimeException", "java/lang/Exception"]).filter goodWord)
def wsL_rank_r1 : List Cond := [Cond.classLink RL 25 "java/lang/IndexOutOfBoundsException", Cond.classLink RL 13 "java/lang/IllegalStateException", Cond.methodLink RL 31 yX3_rank, Cond.instanceMethod yX3_rank, Cond.selects RX3 yX3_rank yX3_rank, Cond.initialized RX3, Cond.code yX3_rank cX3_rank 2 (some .int), Cond.fieldLink RX3 19 "LandmarkLea" "labels" "LLandmarkLea$Labels;", Cond.methodLink RX3 99 yX3_requireLabelOf, Cond.instanceMethod yX3_requireLabelOf, Cond.selects RX3 yX3_requireLabelOf yX3_requireLabelOf, Cond.code yX3_requireLabelOf cX3_requireLabelOf 2 none, Cond.methodLink RX3 127 yX3_requireLabelsOf, Cond.instanceMethod yX3_requireLabelsOf, Cond.selects RX3 yX3_requireLabelsOf yX3_requireLabelsOf, Cond.code yX3_requireLabelsOf cX3_requireLabelsOf 3 none, Cond.classLink RX3 67 "java/lang/IllegalStateException", Cond.initialized "java/lang/IllegalStateException", Cond.fieldLink RX3 38 "LandmarkLea" "labelled" "Z", Cond.methodLink RX3 60 yX3_requireVertex, Cond.instanceMethod yX3_requireVertex, Cond.selects RX3 yX3_requireVertex yX3_requireVertex, Cond.code yX3_requireVertex cX3_requireVertex 2 none, Cond.classLink RX3 171 "java/lang/IndexOutOfBoundsException"]
def wsL_rank_r2 : List Cond := [Cond.initialized "java/lang/IndexOutOfBoundsException", Cond.fieldLink RX3 10 "LandmarkLea" "graph" "LLandmarkLea$Graph;", Cond.methodLink RX3 167 yX0_has, Cond.instanceMethod yX0_has, Cond.selects RX0 yX0_has yX0_has, Cond.initialized RX0, Cond.code yX0_has cX0_has 2 (some .boolean), Cond.fieldLink RX0 15 "LandmarkLea$Graph" "vertexCount" "I", Cond.methodLink RX3 102 yX1_rankOf, Cond.instanceMethod yX1_rankOf, Cond.selects RX1 yX1_rankOf yX1_rankOf, Cond.initialized RX1, Cond.code yX1_rankOf cX1_rankOf 2 (some .int), Cond.fieldLink RX1 9 "LandmarkLea$Labels" "ranks" "[I", Cond.static yX3_isRow, Cond.code yX3_isRow cX3_isRow 1 (some .boolean)]
def wsL_rank : List Cond := .codeWith yL_rank cL_rank 4 (some .int) [(0, 9, 12, 25), (0, 9, 15, 13)] :: ((wsL_rank_r1 ++ wsL_rank_r2) ++ wsX30 ++ wsX00 ++ wsX10 ++ (vx_atS RX3 71 "java/lang/IllegalStateException" ["java/lang/RuntimeException", "java/lang/Exception"]).filter goodWord ++ (vx_atS RX3 175 "java/lang/IndexOutOfBoundsException" ["java/lang/RuntimeException", "java/lang/Exception"]).filter goodWord)
def wsL_labelSize_r1 : List Cond := [Cond.classLink RL 25 "java/lang/IndexOutOfBoundsException", Cond.classLink RL 13 "java/lang/IllegalStateException", Cond.methodLink RL 34 yX3_labelSize, Cond.instanceMethod yX3_labelSize, Cond.selects RX3 yX3_labelSize yX3_labelSize, Cond.initialized RX3, Cond.code yX3_labelSize cX3_labelSize 2 (some .int), Cond.fieldLink RX3 19 "LandmarkLea" "labels" "LLandmarkLea$Labels;", Cond.methodLink RX3 99 yX3_requireLabelOf, Cond.instanceMethod yX3_requireLabelOf, Cond.selects RX3 yX3_requireLabelOf yX3_requireLabelOf, Cond.code yX3_requireLabelOf cX3_requireLabelOf 2 none, Cond.methodLink RX3 127 yX3_requireLabelsOf, Cond.instanceMethod yX3_requireLabelsOf, Cond.selects RX3 yX3_requireLabelsOf yX3_requireLabelsOf, Cond.code yX3_requireLabelsOf cX3_requireLabelsOf 3 none, Cond.classLink RX3 67 "java/lang/IllegalStateException", Cond.initialized "java/lang/IllegalStateException", Cond.fieldLink RX3 38 "LandmarkLea" "labelled" "Z", Cond.methodLink RX3 60 yX3_requireVertex, Cond.instanceMethod yX3_requireVertex, Cond.selects RX3 yX3_requireVertex yX3_requireVertex, Cond.code yX3_requireVertex cX3_requireVertex 2 none, Cond.classLink RX3 171 "java/lang/IndexOutOfBoundsException"]
def wsL_labelSize_r2 : List Cond := [Cond.initialized "java/lang/IndexOutOfBoundsException", Cond.fieldLink RX3 10 "LandmarkLea" "graph" "LLandmarkLea$Graph;", Cond.methodLink RX3 167 yX0_has, Cond.instanceMethod yX0_has, Cond.selects RX0 yX0_has yX0_has, Cond.initialized RX0, Cond.code yX0_has cX0_has 2 (some .boolean), Cond.fieldLink RX0 15 "LandmarkLea$Graph" "vertexCount" "I", Cond.methodLink RX3 109 yX1_countOf, Cond.instanceMethod yX1_countOf, Cond.selects RX1 yX1_countOf yX1_countOf, Cond.initialized RX1, Cond.code yX1_countOf cX1_countOf 2 (some .int), Cond.fieldLink RX1 22 "LandmarkLea$Labels" "hubSets" "[J", Cond.static yX3_isRow, Cond.code yX3_isRow cX3_isRow 1 (some .boolean), Cond.methodLink RX1 58 yJ13_bitCount_95d88, Cond.static yJ13_bitCount_95d88, Cond.initialized RJ13, Cond.code yJ13_bitCount_95d88 cJ13_bitCount_95d88 2 (some .int), Cond.constantLong RJ13 314 (6148914691236517205), Cond.constantLong RJ13 316 (3689348814741910323), Cond.constantLong RJ13 318 (1085102592571150095)]
def wsL_labelSize : List Cond := .codeWith yL_labelSize cL_labelSize 4 (some .int) [(0, 9, 12, 25), (0, 9, 15, 13)] :: ((wsL_labelSize_r1 ++ wsL_labelSize_r2) ++ wsX30 ++ wsX00 ++ wsX10 ++ (vx_atS RX3 71 "java/lang/IllegalStateException" ["java/lang/RuntimeException", "java/lang/Exception"]).filter goodWord ++ (vx_atS RX3 175 "java/lang/IndexOutOfBoundsException" ["java/lang/RuntimeException", "java/lang/Exception"]).filter goodWord)
def wsL_entryHub_r1 : List Cond := [Cond.classLink RL 25 "java/lang/IndexOutOfBoundsException", Cond.classLink RL 13 "java/lang/IllegalStateException", Cond.classLink RL 19 "java/lang/IllegalArgumentException", Cond.methodLink RL 37 yX3_entryHub, Cond.instanceMethod yX3_entryHub, Cond.selects RX3 yX3_entryHub yX3_entryHub, Cond.initialized RX3, Cond.code yX3_entryHub cX3_entryHub 3 (some .int), Cond.fieldLink RX3 19 "LandmarkLea" "labels" "LLandmarkLea$Labels;", Cond.methodLink RX3 99 yX3_requireLabelOf, Cond.instanceMethod yX3_requireLabelOf, Cond.selects RX3 yX3_requireLabelOf yX3_requireLabelOf, Cond.code yX3_requireLabelOf cX3_requireLabelOf 2 none, Cond.methodLink RX3 127 yX3_requireLabelsOf, Cond.instanceMethod yX3_requireLabelsOf, Cond.selects RX3 yX3_requireLabelsOf yX3_requireLabelsOf, Cond.code yX3_requireLabelsOf cX3_requireLabelsOf 3 none, Cond.classLink RX3 67 "java/lang/IllegalStateException", Cond.initialized "java/lang/IllegalStateException", Cond.fieldLink RX3 38 "LandmarkLea" "labelled" "Z", Cond.methodLink RX3 60 yX3_requireVertex, Cond.instanceMethod yX3_requireVertex, Cond.selects RX3 yX3_requireVertex yX3_requireVertex, Cond.code yX3_requireVertex cX3_requireVertex 2 none]
def wsL_entryHub_r2 : List Cond := [Cond.classLink RX3 171 "java/lang/IndexOutOfBoundsException", Cond.initialized "java/lang/IndexOutOfBoundsException", Cond.fieldLink RX3 10 "LandmarkLea" "graph" "LLandmarkLea$Graph;", Cond.methodLink RX3 167 yX0_has, Cond.instanceMethod yX0_has, Cond.selects RX0 yX0_has yX0_has, Cond.initialized RX0, Cond.code yX0_has cX0_has 2 (some .boolean), Cond.fieldLink RX0 15 "LandmarkLea$Graph" "vertexCount" "I", Cond.methodLink RX3 112 yX3_requireEntry, Cond.instanceMethod yX3_requireEntry, Cond.selects RX3 yX3_requireEntry yX3_requireEntry, Cond.code yX3_requireEntry cX3_requireEntry 3 none, Cond.classLink RX3 50 "java/lang/IllegalArgumentException", Cond.initialized "java/lang/IllegalArgumentException", Cond.methodLink RX3 109 yX1_countOf, Cond.instanceMethod yX1_countOf, Cond.selects RX1 yX1_countOf yX1_countOf, Cond.initialized RX1, Cond.code yX1_countOf cX1_countOf 2 (some .int), Cond.fieldLink RX1 22 "LandmarkLea$Labels" "hubSets" "[J", Cond.static yX3_isRow, Cond.code yX3_isRow cX3_isRow 1 (some .boolean), Cond.methodLink RX1 58 yJ13_bitCount_95d88]
def wsL_entryHub_r3 : List Cond := [Cond.static yJ13_bitCount_95d88, Cond.initialized RJ13, Cond.code yJ13_bitCount_95d88 cJ13_bitCount_95d88 2 (some .int), Cond.constantLong RJ13 314 (6148914691236517205), Cond.constantLong RJ13 316 (3689348814741910323), Cond.constantLong RJ13 318 (1085102592571150095), Cond.methodLink RX3 115 yX1_hubRankOfEntry, Cond.instanceMethod yX1_hubRankOfEntry, Cond.selects RX1 yX1_hubRankOfEntry yX1_hubRankOfEntry, Cond.code yX1_hubRankOfEntry cX1_hubRankOfEntry 5 (some .int), Cond.static yX3_hasBit, Cond.code yX3_hasBit cX3_hasBit 3 (some .boolean), Cond.methodLink RX3 118 yX1_vertexOf, Cond.instanceMethod yX1_vertexOf, Cond.selects RX1 yX1_vertexOf yX1_vertexOf, Cond.code yX1_vertexOf cX1_vertexOf 2 (some .int), Cond.fieldLink RX1 15 "LandmarkLea$Labels" "verticesByRank" "[I"]
def wsL_entryHub : List Cond := .codeWith yL_entryHub cL_entryHub 5 (some .int) [(0, 10, 13, 25), (0, 10, 17, 13), (0, 10, 21, 19)] :: ((wsL_entryHub_r1 ++ (wsL_entryHub_r2 ++ wsL_entryHub_r3)) ++ wsX30 ++ wsX00 ++ wsX10 ++ (vx_atS RX3 71 "java/lang/IllegalStateException" ["java/lang/RuntimeException", "java/lang/Exception"]).filter goodWord ++ (vx_atS RX3 175 "java/lang/IndexOutOfBoundsException" ["java/lang/RuntimeException", "java/lang/Exception"]).filter goodWord ++ (vx_atS RX3 54 "java/lang/IllegalArgumentException" ["java/lang/RuntimeException", "java/lang/Exception"]).filter goodWord)
def wsL_entryDistance_r1 : List Cond := [Cond.classLink RL 25 "java/lang/IndexOutOfBoundsException", Cond.classLink RL 13 "java/lang/IllegalStateException", Cond.classLink RL 19 "java/lang/IllegalArgumentException", Cond.methodLink RL 40 yX3_entryDistance, Cond.instanceMethod yX3_entryDistance, Cond.selects RX3 yX3_entryDistance yX3_entryDistance, Cond.initialized RX3, Cond.code yX3_entryDistance cX3_entryDistance 3 (some .int), Cond.fieldLink RX3 19 "LandmarkLea" "labels" "LLandmarkLea$Labels;", Cond.methodLink RX3 99 yX3_requireLabelOf, Cond.instanceMethod yX3_requireLabelOf, Cond.selects RX3 yX3_requireLabelOf yX3_requireLabelOf, Cond.code yX3_requireLabelOf cX3_requireLabelOf 2 none, Cond.methodLink RX3 127 yX3_requireLabelsOf, Cond.instanceMethod yX3_requireLabelsOf, Cond.selects RX3 yX3_requireLabelsOf yX3_requireLabelsOf, Cond.code yX3_requireLabelsOf cX3_requireLabelsOf 3 none, Cond.classLink RX3 67 "java/lang/IllegalStateException", Cond.initialized "java/lang/IllegalStateException", Cond.fieldLink RX3 38 "LandmarkLea" "labelled" "Z", Cond.methodLink RX3 60 yX3_requireVertex, Cond.instanceMethod yX3_requireVertex, Cond.selects RX3 yX3_requireVertex yX3_requireVertex, Cond.code yX3_requireVertex cX3_requireVertex 2 none]
def wsL_entryDistance_r2 : List Cond := [Cond.classLink RX3 171 "java/lang/IndexOutOfBoundsException", Cond.initialized "java/lang/IndexOutOfBoundsException", Cond.fieldLink RX3 10 "LandmarkLea" "graph" "LLandmarkLea$Graph;", Cond.methodLink RX3 167 yX0_has, Cond.instanceMethod yX0_has, Cond.selects RX0 yX0_has yX0_has, Cond.initialized RX0, Cond.code yX0_has cX0_has 2 (some .boolean), Cond.fieldLink RX0 15 "LandmarkLea$Graph" "vertexCount" "I", Cond.methodLink RX3 112 yX3_requireEntry, Cond.instanceMethod yX3_requireEntry, Cond.selects RX3 yX3_requireEntry yX3_requireEntry, Cond.code yX3_requireEntry cX3_requireEntry 3 none, Cond.classLink RX3 50 "java/lang/IllegalArgumentException", Cond.initialized "java/lang/IllegalArgumentException", Cond.methodLink RX3 109 yX1_countOf, Cond.instanceMethod yX1_countOf, Cond.selects RX1 yX1_countOf yX1_countOf, Cond.initialized RX1, Cond.code yX1_countOf cX1_countOf 2 (some .int), Cond.fieldLink RX1 22 "LandmarkLea$Labels" "hubSets" "[J", Cond.static yX3_isRow, Cond.code yX3_isRow cX3_isRow 1 (some .boolean), Cond.methodLink RX1 58 yJ13_bitCount_95d88]
def wsL_entryDistance_r3 : List Cond := [Cond.static yJ13_bitCount_95d88, Cond.initialized RJ13, Cond.code yJ13_bitCount_95d88 cJ13_bitCount_95d88 2 (some .int), Cond.constantLong RJ13 314 (6148914691236517205), Cond.constantLong RJ13 316 (3689348814741910323), Cond.constantLong RJ13 318 (1085102592571150095), Cond.methodLink RX3 115 yX1_hubRankOfEntry, Cond.instanceMethod yX1_hubRankOfEntry, Cond.selects RX1 yX1_hubRankOfEntry yX1_hubRankOfEntry, Cond.code yX1_hubRankOfEntry cX1_hubRankOfEntry 5 (some .int), Cond.static yX3_hasBit, Cond.code yX3_hasBit cX3_hasBit 3 (some .boolean), Cond.methodLink RX3 121 yX1_distanceTo, Cond.instanceMethod yX1_distanceTo, Cond.selects RX1 yX1_distanceTo yX1_distanceTo, Cond.code yX1_distanceTo cX1_distanceTo 3 (some .int), Cond.fieldLink RX1 26 "LandmarkLea$Labels" "distances" "[I", Cond.methodLink RX1 54 yX1_hasEntry, Cond.instanceMethod yX1_hasEntry, Cond.selects RX1 yX1_hasEntry yX1_hasEntry, Cond.code yX1_hasEntry cX1_hasEntry 3 (some .boolean)]
def wsL_entryDistance : List Cond := .codeWith yL_entryDistance cL_entryDistance 5 (some .int) [(0, 10, 13, 25), (0, 10, 17, 13), (0, 10, 21, 19)] :: ((wsL_entryDistance_r1 ++ (wsL_entryDistance_r2 ++ wsL_entryDistance_r3)) ++ wsX30 ++ wsX00 ++ wsX10 ++ (vx_atS RX3 71 "java/lang/IllegalStateException" ["java/lang/RuntimeException", "java/lang/Exception"]).filter goodWord ++ (vx_atS RX3 175 "java/lang/IndexOutOfBoundsException" ["java/lang/RuntimeException", "java/lang/Exception"]).filter goodWord ++ (vx_atS RX3 54 "java/lang/IllegalArgumentException" ["java/lang/RuntimeException", "java/lang/Exception"]).filter goodWord)
def wsL_entryParent_r1 : List Cond := [Cond.classLink RL 25 "java/lang/IndexOutOfBoundsException", Cond.classLink RL 13 "java/lang/IllegalStateException", Cond.classLink RL 19 "java/lang/IllegalArgumentException", Cond.methodLink RL 43 yX3_entryParent, Cond.instanceMethod yX3_entryParent, Cond.selects RX3 yX3_entryParent yX3_entryParent, Cond.initialized RX3, Cond.code yX3_entryParent cX3_entryParent 3 (some .int), Cond.fieldLink RX3 19 "LandmarkLea" "labels" "LLandmarkLea$Labels;", Cond.methodLink RX3 99 yX3_requireLabelOf, Cond.instanceMethod yX3_requireLabelOf, Cond.selects RX3 yX3_requireLabelOf yX3_requireLabelOf, Cond.code yX3_requireLabelOf cX3_requireLabelOf 2 none, Cond.methodLink RX3 127 yX3_requireLabelsOf, Cond.instanceMethod yX3_requireLabelsOf, Cond.selects RX3 yX3_requireLabelsOf yX3_requireLabelsOf, Cond.code yX3_requireLabelsOf cX3_requireLabelsOf 3 none, Cond.classLink RX3 67 "java/lang/IllegalStateException", Cond.initialized "java/lang/IllegalStateException", Cond.fieldLink RX3 38 "LandmarkLea" "labelled" "Z", Cond.methodLink RX3 60 yX3_requireVertex, Cond.instanceMethod yX3_requireVertex, Cond.selects RX3 yX3_requireVertex yX3_requireVertex, Cond.code yX3_requireVertex cX3_requireVertex 2 none]
def wsL_entryParent_r2 : List Cond := [Cond.classLink RX3 171 "java/lang/IndexOutOfBoundsException", Cond.initialized "java/lang/IndexOutOfBoundsException", Cond.fieldLink RX3 10 "LandmarkLea" "graph" "LLandmarkLea$Graph;", Cond.methodLink RX3 167 yX0_has, Cond.instanceMethod yX0_has, Cond.selects RX0 yX0_has yX0_has, Cond.initialized RX0, Cond.code yX0_has cX0_has 2 (some .boolean), Cond.fieldLink RX0 15 "LandmarkLea$Graph" "vertexCount" "I", Cond.methodLink RX3 112 yX3_requireEntry, Cond.instanceMethod yX3_requireEntry, Cond.selects RX3 yX3_requireEntry yX3_requireEntry, Cond.code yX3_requireEntry cX3_requireEntry 3 none, Cond.classLink RX3 50 "java/lang/IllegalArgumentException", Cond.initialized "java/lang/IllegalArgumentException", Cond.methodLink RX3 109 yX1_countOf, Cond.instanceMethod yX1_countOf, Cond.selects RX1 yX1_countOf yX1_countOf, Cond.initialized RX1, Cond.code yX1_countOf cX1_countOf 2 (some .int), Cond.fieldLink RX1 22 "LandmarkLea$Labels" "hubSets" "[J", Cond.static yX3_isRow, Cond.code yX3_isRow cX3_isRow 1 (some .boolean), Cond.methodLink RX1 58 yJ13_bitCount_95d88]
def wsL_entryParent_r3 : List Cond := [Cond.static yJ13_bitCount_95d88, Cond.initialized RJ13, Cond.code yJ13_bitCount_95d88 cJ13_bitCount_95d88 2 (some .int), Cond.constantLong RJ13 314 (6148914691236517205), Cond.constantLong RJ13 316 (3689348814741910323), Cond.constantLong RJ13 318 (1085102592571150095), Cond.methodLink RX3 115 yX1_hubRankOfEntry, Cond.instanceMethod yX1_hubRankOfEntry, Cond.selects RX1 yX1_hubRankOfEntry yX1_hubRankOfEntry, Cond.code yX1_hubRankOfEntry cX1_hubRankOfEntry 5 (some .int), Cond.static yX3_hasBit, Cond.code yX3_hasBit cX3_hasBit 3 (some .boolean), Cond.methodLink RX3 124 yX1_parentTowards, Cond.instanceMethod yX1_parentTowards, Cond.selects RX1 yX1_parentTowards yX1_parentTowards, Cond.code yX1_parentTowards cX1_parentTowards 3 (some .int), Cond.fieldLink RX1 29 "LandmarkLea$Labels" "parents" "[I", Cond.methodLink RX1 54 yX1_hasEntry, Cond.instanceMethod yX1_hasEntry, Cond.selects RX1 yX1_hasEntry yX1_hasEntry, Cond.code yX1_hasEntry cX1_hasEntry 3 (some .boolean)]
def wsL_entryParent : List Cond := .codeWith yL_entryParent cL_entryParent 5 (some .int) [(0, 10, 13, 25), (0, 10, 17, 13), (0, 10, 21, 19)] :: ((wsL_entryParent_r1 ++ (wsL_entryParent_r2 ++ wsL_entryParent_r3)) ++ wsX30 ++ wsX00 ++ wsX10 ++ (vx_atS RX3 71 "java/lang/IllegalStateException" ["java/lang/RuntimeException", "java/lang/Exception"]).filter goodWord ++ (vx_atS RX3 175 "java/lang/IndexOutOfBoundsException" ["java/lang/RuntimeException", "java/lang/Exception"]).filter goodWord ++ (vx_atS RX3 54 "java/lang/IllegalArgumentException" ["java/lang/RuntimeException", "java/lang/Exception"]).filter goodWord)
def wsL_distance_r1 : List Cond := [Cond.classLink RL 25 "java/lang/IndexOutOfBoundsException", Cond.classLink RL 13 "java/lang/IllegalStateException", Cond.methodLink RL 46 yX3_distance, Cond.instanceMethod yX3_distance, Cond.selects RX3 yX3_distance yX3_distance, Cond.initialized RX3, Cond.code yX3_distance cX3_distance 3 (some .int), Cond.fieldLink RX3 19 "LandmarkLea" "labels" "LLandmarkLea$Labels;", Cond.methodLink RX3 127 yX3_requireLabelsOf, Cond.instanceMethod yX3_requireLabelsOf, Cond.selects RX3 yX3_requireLabelsOf yX3_requireLabelsOf, Cond.code yX3_requireLabelsOf cX3_requireLabelsOf 3 none, Cond.classLink RX3 67 "java/lang/IllegalStateException", Cond.initialized "java/lang/IllegalStateException", Cond.fieldLink RX3 38 "LandmarkLea" "labelled" "Z", Cond.methodLink RX3 60 yX3_requireVertex, Cond.instanceMethod yX3_requireVertex, Cond.selects RX3 yX3_requireVertex yX3_requireVertex, Cond.code yX3_requireVertex cX3_requireVertex 2 none, Cond.classLink RX3 171 "java/lang/IndexOutOfBoundsException", Cond.initialized "java/lang/IndexOutOfBoundsException", Cond.fieldLink RX3 10 "LandmarkLea" "graph" "LLandmarkLea$Graph;", Cond.methodLink RX3 167 yX0_has, Cond.instanceMethod yX0_has]
def wsL_distance_r2 : List Cond := [Cond.selects RX0 yX0_has yX0_has, Cond.initialized RX0, Cond.code yX0_has cX0_has 2 (some .boolean), Cond.fieldLink RX0 15 "LandmarkLea$Graph" "vertexCount" "I", Cond.methodLink RX3 130 yX1_estimate, Cond.instanceMethod yX1_estimate, Cond.selects RX1 yX1_estimate yX1_estimate, Cond.initialized RX1, Cond.code yX1_estimate cX1_estimate 4 (some .int), Cond.methodLink RX1 78 yX1_meetingRank, Cond.instanceMethod yX1_meetingRank, Cond.selects RX1 yX1_meetingRank yX1_meetingRank, Cond.code yX1_meetingRank cX1_meetingRank 7 (some .int), Cond.methodLink RX1 70 yX1_commonHubs, Cond.instanceMethod yX1_commonHubs, Cond.selects RX1 yX1_commonHubs yX1_commonHubs, Cond.code yX1_commonHubs cX1_commonHubs 3 (some .long), Cond.fieldLink RX1 22 "LandmarkLea$Labels" "hubSets" "[J", Cond.static yX3_isRow, Cond.code yX3_isRow cX3_isRow 1 (some .boolean), Cond.static yX3_hasBit, Cond.code yX3_hasBit cX3_hasBit 3 (some .boolean), Cond.methodLink RX1 74 yX1_sumThrough, Cond.instanceMethod yX1_sumThrough]
def wsL_distance_r3 : List Cond := [Cond.selects RX1 yX1_sumThrough yX1_sumThrough, Cond.code yX1_sumThrough cX1_sumThrough 4 (some .int), Cond.fieldLink RX1 26 "LandmarkLea$Labels" "distances" "[I"]
def wsL_distance : List Cond := .codeWith yL_distance cL_distance 5 (some .int) [(0, 10, 13, 25), (0, 10, 17, 13)] :: ((wsL_distance_r1 ++ (wsL_distance_r2 ++ wsL_distance_r3)) ++ wsX30 ++ wsX00 ++ wsX10 ++ (vx_atS RX3 71 "java/lang/IllegalStateException" ["java/lang/RuntimeException", "java/lang/Exception"]).filter goodWord ++ (vx_atS RX3 175 "java/lang/IndexOutOfBoundsException" ["java/lang/RuntimeException", "java/lang/Exception"]).filter goodWord)
def wsL_hub_r1 : List Cond := [Cond.classLink RL 25 "java/lang/IndexOutOfBoundsException", Cond.classLink RL 13 "java/lang/IllegalStateException", Cond.methodLink RL 49 yX3_hub, Cond.instanceMethod yX3_hub, Cond.selects RX3 yX3_hub yX3_hub, Cond.initialized RX3, Cond.code yX3_hub cX3_hub 3 (some .int), Cond.fieldLink RX3 19 "LandmarkLea" "labels" "LLandmarkLea$Labels;", Cond.methodLink RX3 127 yX3_requireLabelsOf, Cond.instanceMethod yX3_requireLabelsOf, Cond.selects RX3 yX3_requireLabelsOf yX3_requireLabelsOf, Cond.code yX3_requireLabelsOf cX3_requireLabelsOf 3 none, Cond.classLink RX3 67 "java/lang/IllegalStateException", Cond.initialized "java/lang/IllegalStateException", Cond.fieldLink RX3 38 "LandmarkLea" "labelled" "Z", Cond.methodLink RX3 60 yX3_requireVertex, Cond.instanceMethod yX3_requireVertex, Cond.selects RX3 yX3_requireVertex yX3_requireVertex, Cond.code yX3_requireVertex cX3_requireVertex 2 none, Cond.classLink RX3 171 "java/lang/IndexOutOfBoundsException", Cond.initialized "java/lang/IndexOutOfBoundsException", Cond.fieldLink RX3 10 "LandmarkLea" "graph" "LLandmarkLea$Graph;", Cond.methodLink RX3 167 yX0_has, Cond.instanceMethod yX0_has]
def wsL_hub_r2 : List Cond := [Cond.selects RX0 yX0_has yX0_has, Cond.initialized RX0, Cond.code yX0_has cX0_has 2 (some .boolean), Cond.fieldLink RX0 15 "LandmarkLea$Graph" "vertexCount" "I", Cond.methodLink RX3 133 yX1_meetingRank, Cond.instanceMethod yX1_meetingRank, Cond.selects RX1 yX1_meetingRank yX1_meetingRank, Cond.initialized RX1, Cond.code yX1_meetingRank cX1_meetingRank 7 (some .int), Cond.methodLink RX1 70 yX1_commonHubs, Cond.instanceMethod yX1_commonHubs, Cond.selects RX1 yX1_commonHubs yX1_commonHubs, Cond.code yX1_commonHubs cX1_commonHubs 3 (some .long), Cond.fieldLink RX1 22 "LandmarkLea$Labels" "hubSets" "[J", Cond.static yX3_isRow, Cond.code yX3_isRow cX3_isRow 1 (some .boolean), Cond.static yX3_hasBit, Cond.code yX3_hasBit cX3_hasBit 3 (some .boolean), Cond.methodLink RX1 74 yX1_sumThrough, Cond.instanceMethod yX1_sumThrough, Cond.selects RX1 yX1_sumThrough yX1_sumThrough, Cond.code yX1_sumThrough cX1_sumThrough 4 (some .int), Cond.fieldLink RX1 26 "LandmarkLea$Labels" "distances" "[I", Cond.methodLink RX3 118 yX1_vertexOf]
def wsL_hub_r3 : List Cond := [Cond.instanceMethod yX1_vertexOf, Cond.selects RX1 yX1_vertexOf yX1_vertexOf, Cond.code yX1_vertexOf cX1_vertexOf 2 (some .int), Cond.fieldLink RX1 15 "LandmarkLea$Labels" "verticesByRank" "[I"]
def wsL_hub : List Cond := .codeWith yL_hub cL_hub 5 (some .int) [(0, 10, 13, 25), (0, 10, 17, 13)] :: ((wsL_hub_r1 ++ (wsL_hub_r2 ++ wsL_hub_r3)) ++ wsX30 ++ wsX00 ++ wsX10 ++ (vx_atS RX3 71 "java/lang/IllegalStateException" ["java/lang/RuntimeException", "java/lang/Exception"]).filter goodWord ++ (vx_atS RX3 175 "java/lang/IndexOutOfBoundsException" ["java/lang/RuntimeException", "java/lang/Exception"]).filter goodWord)
def wsL_pathVertex_r1 : List Cond := [Cond.classLink RL 25 "java/lang/IndexOutOfBoundsException", Cond.classLink RL 13 "java/lang/IllegalStateException", Cond.classLink RL 19 "java/lang/IllegalArgumentException", Cond.methodLink RL 52 yX3_pathVertex, Cond.instanceMethod yX3_pathVertex, Cond.selects RX3 yX3_pathVertex yX3_pathVertex, Cond.initialized RX3, Cond.code yX3_pathVertex cX3_pathVertex 4 (some .int), Cond.classLink RX3 50 "java/lang/IllegalArgumentException", Cond.initialized "java/lang/IllegalArgumentException", Cond.fieldLink RX3 19 "LandmarkLea" "labels" "LLandmarkLea$Labels;", Cond.methodLink RX3 127 yX3_requireLabelsOf, Cond.instanceMethod yX3_requireLabelsOf, Cond.selects RX3 yX3_requireLabelsOf yX3_requireLabelsOf, Cond.code yX3_requireLabelsOf cX3_requireLabelsOf 3 none, Cond.classLink RX3 67 "java/lang/IllegalStateException", Cond.initialized "java/lang/IllegalStateException", Cond.fieldLink RX3 38 "LandmarkLea" "labelled" "Z", Cond.methodLink RX3 60 yX3_requireVertex, Cond.instanceMethod yX3_requireVertex, Cond.selects RX3 yX3_requireVertex yX3_requireVertex, Cond.code yX3_requireVertex cX3_requireVertex 2 none, Cond.classLink RX3 171 "java/lang/IndexOutOfBoundsException", Cond.initialized "java/lang/IndexOutOfBoundsException"]
def wsL_pathVertex_r2 : List Cond := [Cond.fieldLink RX3 10 "LandmarkLea" "graph" "LLandmarkLea$Graph;", Cond.methodLink RX3 167 yX0_has, Cond.instanceMethod yX0_has, Cond.selects RX0 yX0_has yX0_has, Cond.initialized RX0, Cond.code yX0_has cX0_has 2 (some .boolean), Cond.fieldLink RX0 15 "LandmarkLea$Graph" "vertexCount" "I", Cond.methodLink RX3 138 yX1_vertexOnPath, Cond.instanceMethod yX1_vertexOnPath, Cond.selects RX1 yX1_vertexOnPath yX1_vertexOnPath, Cond.initialized RX1, Cond.code yX1_vertexOnPath cX1_vertexOnPath 7 (some .int), Cond.methodLink RX1 78 yX1_meetingRank, Cond.instanceMethod yX1_meetingRank, Cond.selects RX1 yX1_meetingRank yX1_meetingRank, Cond.code yX1_meetingRank cX1_meetingRank 7 (some .int), Cond.methodLink RX1 70 yX1_commonHubs, Cond.instanceMethod yX1_commonHubs, Cond.selects RX1 yX1_commonHubs yX1_commonHubs, Cond.code yX1_commonHubs cX1_commonHubs 3 (some .long), Cond.fieldLink RX1 22 "LandmarkLea$Labels" "hubSets" "[J", Cond.static yX3_isRow, Cond.code yX3_isRow cX3_isRow 1 (some .boolean), Cond.static yX3_hasBit]
def wsL_pathVertex_r3 : List Cond := [Cond.code yX3_hasBit cX3_hasBit 3 (some .boolean), Cond.methodLink RX1 74 yX1_sumThrough, Cond.instanceMethod yX1_sumThrough, Cond.selects RX1 yX1_sumThrough yX1_sumThrough, Cond.code yX1_sumThrough cX1_sumThrough 4 (some .int), Cond.fieldLink RX1 26 "LandmarkLea$Labels" "distances" "[I", Cond.methodLink RX1 82 yX1_stepsTo, Cond.instanceMethod yX1_stepsTo, Cond.selects RX1 yX1_stepsTo yX1_stepsTo, Cond.code yX1_stepsTo cX1_stepsTo 6 (some .int), Cond.methodLink RX1 67 yX1_vertexOf, Cond.instanceMethod yX1_vertexOf, Cond.selects RX1 yX1_vertexOf yX1_vertexOf, Cond.code yX1_vertexOf cX1_vertexOf 2 (some .int), Cond.fieldLink RX1 15 "LandmarkLea$Labels" "verticesByRank" "[I", Cond.methodLink RX1 88 yX1_parentTowards, Cond.instanceMethod yX1_parentTowards, Cond.selects RX1 yX1_parentTowards yX1_parentTowards, Cond.code yX1_parentTowards cX1_parentTowards 3 (some .int), Cond.fieldLink RX1 29 "LandmarkLea$Labels" "parents" "[I", Cond.methodLink RX1 54 yX1_hasEntry, Cond.instanceMethod yX1_hasEntry, Cond.selects RX1 yX1_hasEntry yX1_hasEntry, Cond.code yX1_hasEntry cX1_hasEntry 3 (some .boolean)]
def wsL_pathVertex_r4 : List Cond := [Cond.methodLink RX1 85 yX1_climb, Cond.instanceMethod yX1_climb, Cond.selects RX1 yX1_climb yX1_climb, Cond.code yX1_climb cX1_climb 6 (some .int)]
def wsL_pathVertex : List Cond := .codeWith yL_pathVertex cL_pathVertex 6 (some .int) [(0, 12, 15, 25), (0, 12, 19, 13), (0, 12, 23, 19)] :: ((wsL_pathVertex_r1 ++ (wsL_pathVertex_r2 ++ (wsL_pathVertex_r3 ++ wsL_pathVertex_r4))) ++ wsX30 ++ wsX00 ++ wsX10 ++ (vx_atS RX3 54 "java/lang/IllegalArgumentException" ["java/lang/RuntimeException", "java/lang/Exception"]).filter goodWord ++ (vx_atS RX3 71 "java/lang/IllegalStateException" ["java/lang/RuntimeException", "java/lang/Exception"]).filter goodWord ++ (vx_atS RX3 175 "java/lang/IndexOutOfBoundsException" ["java/lang/RuntimeException", "java/lang/Exception"]).filter goodWord)
def wsL_within_r1 : List Cond := [Cond.classLink RL 25 "java/lang/IndexOutOfBoundsException", Cond.classLink RL 13 "java/lang/IllegalStateException", Cond.classLink RL 19 "java/lang/IllegalArgumentException", Cond.methodLink RL 56 yX3_within, Cond.instanceMethod yX3_within, Cond.selects RX3 yX3_within yX3_within, Cond.initialized RX3, Cond.code yX3_within cX3_within 7 (some .long), Cond.classLink RX3 50 "java/lang/IllegalArgumentException", Cond.initialized "java/lang/IllegalArgumentException", Cond.fieldLink RX3 10 "LandmarkLea" "graph" "LLandmarkLea$Graph;", Cond.fieldLink RX3 19 "LandmarkLea" "labels" "LLandmarkLea$Labels;", Cond.methodLink RX3 99 yX3_requireLabelOf, Cond.instanceMethod yX3_requireLabelOf, Cond.selects RX3 yX3_requireLabelOf yX3_requireLabelOf, Cond.code yX3_requireLabelOf cX3_requireLabelOf 2 none, Cond.methodLink RX3 127 yX3_requireLabelsOf, Cond.instanceMethod yX3_requireLabelsOf, Cond.selects RX3 yX3_requireLabelsOf yX3_requireLabelsOf, Cond.code yX3_requireLabelsOf cX3_requireLabelsOf 3 none, Cond.classLink RX3 67 "java/lang/IllegalStateException", Cond.initialized "java/lang/IllegalStateException", Cond.fieldLink RX3 38 "LandmarkLea" "labelled" "Z", Cond.methodLink RX3 60 yX3_requireVertex]
def wsL_within_r2 : List Cond := [Cond.instanceMethod yX3_requireVertex, Cond.selects RX3 yX3_requireVertex yX3_requireVertex, Cond.code yX3_requireVertex cX3_requireVertex 2 none, Cond.classLink RX3 171 "java/lang/IndexOutOfBoundsException", Cond.initialized "java/lang/IndexOutOfBoundsException", Cond.methodLink RX3 167 yX0_has, Cond.instanceMethod yX0_has, Cond.selects RX0 yX0_has yX0_has, Cond.initialized RX0, Cond.code yX0_has cX0_has 2 (some .boolean), Cond.fieldLink RX0 15 "LandmarkLea$Graph" "vertexCount" "I", Cond.methodLink RX3 57 yX0_size, Cond.instanceMethod yX0_size, Cond.selects RX0 yX0_size yX0_size, Cond.code yX0_size cX0_size 1 (some .int), Cond.methodLink RX3 130 yX1_estimate, Cond.instanceMethod yX1_estimate, Cond.selects RX1 yX1_estimate yX1_estimate, Cond.initialized RX1, Cond.code yX1_estimate cX1_estimate 4 (some .int), Cond.methodLink RX1 78 yX1_meetingRank, Cond.instanceMethod yX1_meetingRank, Cond.selects RX1 yX1_meetingRank yX1_meetingRank, Cond.code yX1_meetingRank cX1_meetingRank 7 (some .int)]
def wsL_within_r3 : List Cond := [Cond.methodLink RX1 70 yX1_commonHubs, Cond.instanceMethod yX1_commonHubs, Cond.selects RX1 yX1_commonHubs yX1_commonHubs, Cond.code yX1_commonHubs cX1_commonHubs 3 (some .long), Cond.fieldLink RX1 22 "LandmarkLea$Labels" "hubSets" "[J", Cond.static yX3_isRow, Cond.code yX3_isRow cX3_isRow 1 (some .boolean), Cond.static yX3_hasBit, Cond.code yX3_hasBit cX3_hasBit 3 (some .boolean), Cond.methodLink RX1 74 yX1_sumThrough, Cond.instanceMethod yX1_sumThrough, Cond.selects RX1 yX1_sumThrough yX1_sumThrough, Cond.code yX1_sumThrough cX1_sumThrough 4 (some .int), Cond.fieldLink RX1 26 "LandmarkLea$Labels" "distances" "[I"]
def wsL_within : List Cond := .codeWith yL_within cL_within 5 (some .int) [(0, 9, 12, 25), (0, 9, 16, 13), (0, 9, 20, 19)] :: ((wsL_within_r1 ++ (wsL_within_r2 ++ wsL_within_r3)) ++ wsX30 ++ wsX00 ++ wsX10 ++ (vx_atS RX3 54 "java/lang/IllegalArgumentException" ["java/lang/RuntimeException", "java/lang/Exception"]).filter goodWord ++ (vx_atS RX3 71 "java/lang/IllegalStateException" ["java/lang/RuntimeException", "java/lang/Exception"]).filter goodWord ++ (vx_atS RX3 175 "java/lang/IndexOutOfBoundsException" ["java/lang/RuntimeException", "java/lang/Exception"]).filter goodWord)
def wsL_eccentricity_r1 : List Cond := [Cond.classLink RL 25 "java/lang/IndexOutOfBoundsException", Cond.classLink RL 13 "java/lang/IllegalStateException", Cond.methodLink RL 60 yX3_eccentricity, Cond.instanceMethod yX3_eccentricity, Cond.selects RX3 yX3_eccentricity yX3_eccentricity, Cond.initialized RX3, Cond.code yX3_eccentricity cX3_eccentricity 4 (some .int), Cond.fieldLink RX3 10 "LandmarkLea" "graph" "LLandmarkLea$Graph;", Cond.fieldLink RX3 19 "LandmarkLea" "labels" "LLandmarkLea$Labels;", Cond.methodLink RX3 144 Lib.Math.max.name, Cond.static Lib.Math.max.name, Cond.initialized "java/lang/Math", Cond.code Lib.Math.max.name Lib.Math.max.code 2 (some .int), Cond.methodLink RX3 99 yX3_requireLabelOf, Cond.instanceMethod yX3_requireLabelOf, Cond.selects RX3 yX3_requireLabelOf yX3_requireLabelOf, Cond.code yX3_requireLabelOf cX3_requireLabelOf 2 none, Cond.methodLink RX3 127 yX3_requireLabelsOf, Cond.instanceMethod yX3_requireLabelsOf, Cond.selects RX3 yX3_requireLabelsOf yX3_requireLabelsOf, Cond.code yX3_requireLabelsOf cX3_requireLabelsOf 3 none, Cond.classLink RX3 67 "java/lang/IllegalStateException", Cond.initialized "java/lang/IllegalStateException", Cond.fieldLink RX3 38 "LandmarkLea" "labelled" "Z"]
def wsL_eccentricity_r2 : List Cond := [Cond.methodLink RX3 60 yX3_requireVertex, Cond.instanceMethod yX3_requireVertex, Cond.selects RX3 yX3_requireVertex yX3_requireVertex, Cond.code yX3_requireVertex cX3_requireVertex 2 none, Cond.classLink RX3 171 "java/lang/IndexOutOfBoundsException", Cond.initialized "java/lang/IndexOutOfBoundsException", Cond.methodLink RX3 167 yX0_has, Cond.instanceMethod yX0_has, Cond.selects RX0 yX0_has yX0_has, Cond.initialized RX0, Cond.code yX0_has cX0_has 2 (some .boolean), Cond.fieldLink RX0 15 "LandmarkLea$Graph" "vertexCount" "I", Cond.methodLink RX3 57 yX0_size, Cond.instanceMethod yX0_size, Cond.selects RX0 yX0_size yX0_size, Cond.code yX0_size cX0_size 1 (some .int), Cond.methodLink RX3 130 yX1_estimate, Cond.instanceMethod yX1_estimate, Cond.selects RX1 yX1_estimate yX1_estimate, Cond.initialized RX1, Cond.code yX1_estimate cX1_estimate 4 (some .int), Cond.methodLink RX1 78 yX1_meetingRank, Cond.instanceMethod yX1_meetingRank, Cond.selects RX1 yX1_meetingRank yX1_meetingRank]
def wsL_eccentricity_r3 : List Cond := [Cond.code yX1_meetingRank cX1_meetingRank 7 (some .int), Cond.methodLink RX1 70 yX1_commonHubs, Cond.instanceMethod yX1_commonHubs, Cond.selects RX1 yX1_commonHubs yX1_commonHubs, Cond.code yX1_commonHubs cX1_commonHubs 3 (some .long), Cond.fieldLink RX1 22 "LandmarkLea$Labels" "hubSets" "[J", Cond.static yX3_isRow, Cond.code yX3_isRow cX3_isRow 1 (some .boolean), Cond.static yX3_hasBit, Cond.code yX3_hasBit cX3_hasBit 3 (some .boolean), Cond.methodLink RX1 74 yX1_sumThrough, Cond.instanceMethod yX1_sumThrough, Cond.selects RX1 yX1_sumThrough yX1_sumThrough, Cond.code yX1_sumThrough cX1_sumThrough 4 (some .int), Cond.fieldLink RX1 26 "LandmarkLea$Labels" "distances" "[I"]
def wsL_eccentricity : List Cond := .codeWith yL_eccentricity cL_eccentricity 4 (some .int) [(0, 9, 12, 25), (0, 9, 15, 13)] :: ((wsL_eccentricity_r1 ++ (wsL_eccentricity_r2 ++ wsL_eccentricity_r3)) ++ wsX30 ++ wsX00 ++ wsX10 ++ (vx_atS RX3 71 "java/lang/IllegalStateException" ["java/lang/RuntimeException", "java/lang/Exception"]).filter goodWord ++ (vx_atS RX3 175 "java/lang/IndexOutOfBoundsException" ["java/lang/RuntimeException", "java/lang/Exception"]).filter goodWord)
def wsL_law0_r1 : List Cond := [Cond.classLink RL 8 RX3, Cond.instantiable RX3 6, Cond.initialized RX3, Cond.classLink RL 64 RX4, Cond.instantiable RX4 17, Cond.initialized RX4, Cond.arrayClass .long, Cond.methodLink RL 63 yX3_init, Cond.instanceMethod yX3_init, Cond.code yX3_init cX3_init 1 none, Cond.methodLink RX3 1 objectInit, Cond.instanceMethod objectInit, Cond.code objectInit ⟨#[0xb1]⟩ 1 none, Cond.classLink RX3 7 RX0, Cond.instantiable RX0 3, Cond.initialized RX0, Cond.fieldLink RX3 10 "LandmarkLea" "graph" "LLandmarkLea$Graph;", Cond.classLink RX3 16 RX1, Cond.instantiable RX1 6, Cond.initialized RX1, Cond.fieldLink RX3 19 "LandmarkLea" "labels" "LLandmarkLea$Labels;", Cond.classLink RX3 23 RX2, Cond.instantiable RX2 10, Cond.initialized RX2]
def wsL_law0_r2 : List Cond := [Cond.fieldLink RX3 28 "LandmarkLea" "searches" "LLandmarkLea$Searches;", Cond.fieldLink RX3 32 "LandmarkLea" "trialLabels" "LLandmarkLea$Labels;", Cond.fieldLink RX3 35 "LandmarkLea" "trialSearches" "LLandmarkLea$Searches;", Cond.fieldLink RX3 38 "LandmarkLea" "labelled" "Z", Cond.methodLink RX3 9 yX0_init, Cond.instanceMethod yX0_init, Cond.code yX0_init cX0_init 1 none, Cond.methodLink RX0 3 objectInit, Cond.fieldLink RX0 9 "LandmarkLea$Graph" "neighbourSets" "[J", Cond.fieldLink RX0 15 "LandmarkLea$Graph" "vertexCount" "I", Cond.fieldLink RX0 19 "LandmarkLea$Graph" "edgeCount" "I", Cond.methodLink RX3 18 yX1_init, Cond.instanceMethod yX1_init, Cond.code yX1_init cX1_init 1 none, Cond.methodLink RX1 3 objectInit, Cond.arrayClass .int, Cond.fieldLink RX1 9 "LandmarkLea$Labels" "ranks" "[I", Cond.fieldLink RX1 15 "LandmarkLea$Labels" "verticesByRank" "[I", Cond.fieldLink RX1 18 "LandmarkLea$Labels" "rankedCount" "I", Cond.fieldLink RX1 22 "LandmarkLea$Labels" "hubSets" "[J", Cond.fieldLink RX1 26 "LandmarkLea$Labels" "distances" "[I", Cond.fieldLink RX1 29 "LandmarkLea$Labels" "parents" "[I", Cond.methodLink RX3 25 yX2_init, Cond.instanceMethod yX2_init]
def wsL_law0_r3 : List Cond := [Cond.code yX2_init cX2_init 3 none, Cond.methodLink RX2 3 objectInit, Cond.fieldLink RX2 9 "LandmarkLea$Searches" "graph" "LLandmarkLea$Graph;", Cond.fieldLink RX2 15 "LandmarkLea$Searches" "labels" "LLandmarkLea$Labels;", Cond.fieldLink RX2 19 "LandmarkLea$Searches" "queueVertices" "[I", Cond.fieldLink RX2 23 "LandmarkLea$Searches" "queueDistances" "[I", Cond.fieldLink RX2 26 "LandmarkLea$Searches" "queueParents" "[I", Cond.fieldLink RX2 29 "LandmarkLea$Searches" "queueLength" "I", Cond.fieldLink RX2 33 "LandmarkLea$Searches" "queuedSet" "J", Cond.fieldLink RX2 37 "LandmarkLea$Searches" "visitCount" "I", Cond.fieldLink RX2 40 "LandmarkLea$Searches" "prunedCount" "I", Cond.fieldLink RX2 43 "LandmarkLea$Searches" "writtenCount" "I", Cond.methodLink RL 66 yX4_init, Cond.instanceMethod yX4_init, Cond.code yX4_init cX4_init 1 none, Cond.methodLink RX4 1 objectInit, Cond.fieldLink RX4 7 "LandmarkLeaModel" "near" "[J", Cond.fieldLink RX4 13 "LandmarkLeaModel" "distances" "[I", Cond.fieldLink RX4 17 "LandmarkLeaModel" "parents" "[I", Cond.fieldLink RX4 20 "LandmarkLeaModel" "hubs" "[I", Cond.fieldLink RX4 23 "LandmarkLeaModel" "ranks" "[I", Cond.fieldLink RX4 26 "LandmarkLeaModel" "queue" "[I", Cond.fieldLink RX4 29 "LandmarkLeaModel" "far" "[I", Cond.fieldLink RX4 32 "LandmarkLeaModel" "from" "[I"]
def wsL_law0_r4 : List Cond := [Cond.methodLink RL 67 yL_addVertex, Cond.static yL_addVertex, Cond.initialized RL, Cond.codeWith yL_addVertex cL_addVertex 3 (some .int) [(0, 8, 11, 13)], Cond.classLink RL 13 "java/lang/IllegalStateException", Cond.methodLink RL 7 yX3_addVertex, Cond.instanceMethod yX3_addVertex, Cond.selects RX3 yX3_addVertex yX3_addVertex, Cond.code yX3_addVertex cX3_addVertex 1 (some .int), Cond.methodLink RX3 42 yX3_requireRoomFor, Cond.instanceMethod yX3_requireRoomFor, Cond.selects RX3 yX3_requireRoomFor yX3_requireRoomFor, Cond.code yX3_requireRoomFor cX3_requireRoomFor 2 none, Cond.classLink RX3 67 "java/lang/IllegalStateException", Cond.initialized "java/lang/IllegalStateException", Cond.methodLink RX3 57 yX0_size, Cond.instanceMethod yX0_size, Cond.selects RX0 yX0_size yX0_size, Cond.code yX0_size cX0_size 1 (some .int), Cond.methodLink RX3 46 yX3_appendVertex, Cond.instanceMethod yX3_appendVertex, Cond.selects RX3 yX3_appendVertex yX3_appendVertex, Cond.code yX3_appendVertex cX3_appendVertex 2 (some .int), Cond.methodLink RX3 155 yX0_grow]
def wsL_law0_r5 : List Cond := [Cond.instanceMethod yX0_grow, Cond.selects RX0 yX0_grow yX0_grow, Cond.code yX0_grow cX0_grow 2 (some .int), Cond.methodLink RX3 158 yX1_rankNext, Cond.instanceMethod yX1_rankNext, Cond.selects RX1 yX1_rankNext yX1_rankNext, Cond.code yX1_rankNext cX1_rankNext 2 none, Cond.static yX3_isRow, Cond.code yX3_isRow cX3_isRow 1 (some .boolean), Cond.methodLink RX3 102 yX1_rankOf, Cond.instanceMethod yX1_rankOf, Cond.selects RX1 yX1_rankOf yX1_rankOf, Cond.code yX1_rankOf cX1_rankOf 2 (some .int), Cond.methodLink RX3 161 yX1_put, Cond.instanceMethod yX1_put, Cond.selects RX1 yX1_put yX1_put, Cond.code yX1_put cX1_put 5 none, Cond.methodLink RL 72 yX4_addVertex, Cond.instanceMethod yX4_addVertex, Cond.selects RX4 yX4_addVertex yX4_addVertex, Cond.code yX4_addVertex cX4_addVertex 1 (some .int), Cond.fieldLink RX4 39 "LandmarkLeaModel" "many" "I", Cond.methodLink RX4 95 yX4_goes, Cond.instanceMethod yX4_goes]
def wsL_law0_r6 : List Cond := [Cond.selects RX4 yX4_goes yX4_goes, Cond.code yX4_goes cX4_goes 2 (some .boolean), Cond.fieldLink RX4 35 "LandmarkLeaModel" "thrown" "I", Cond.methodLink RX4 99 yX4_adds, Cond.instanceMethod yX4_adds, Cond.selects RX4 yX4_adds yX4_adds, Cond.code yX4_adds cX4_adds 2 none, Cond.fieldLink RX4 91 "LandmarkLeaModel" "isBuilt" "Z", Cond.methodLink RX4 42 yX4_at, Cond.static yX4_at, Cond.code yX4_at cX4_at 3 (some .int), Cond.methodLink RL 73 yX4_thrown, Cond.instanceMethod yX4_thrown, Cond.selects RX4 yX4_thrown yX4_thrown, Cond.code yX4_thrown cX4_thrown 1 (some .int), Cond.methodLink RL 76 yL_addVertices, Cond.static yL_addVertices, Cond.codeWith yL_addVertices cL_addVertices 4 (some .int) [(0, 9, 12, 19), (0, 9, 15, 13)], Cond.classLink RL 19 "java/lang/IllegalArgumentException", Cond.methodLink RL 15 yX3_addVertices, Cond.instanceMethod yX3_addVertices, Cond.selects RX3 yX3_addVertices yX3_addVertices, Cond.code yX3_addVertices cX3_addVertices 3 (some .int), Cond.classLink RX3 50 "java/lang/IllegalArgumentException"]
def wsL_law0_r7 : List Cond := [Cond.initialized "java/lang/IllegalArgumentException", Cond.methodLink RL 79 yX4_addVertices, Cond.instanceMethod yX4_addVertices, Cond.selects RX4 yX4_addVertices yX4_addVertices, Cond.code yX4_addVertices cX4_addVertices 3 (some .int), Cond.methodLink RL 80 yL_addEdge, Cond.static yL_addEdge, Cond.codeWith yL_addEdge cL_addEdge 5 (some .int) [(0, 10, 13, 25), (0, 10, 17, 13)], Cond.classLink RL 25 "java/lang/IndexOutOfBoundsException", Cond.methodLink RL 21 yX3_addEdge, Cond.instanceMethod yX3_addEdge, Cond.selects RX3 yX3_addEdge yX3_addEdge, Cond.code yX3_addEdge cX3_addEdge 3 (some .int), Cond.methodLink RX3 60 yX3_requireVertex, Cond.instanceMethod yX3_requireVertex, Cond.selects RX3 yX3_requireVertex yX3_requireVertex, Cond.code yX3_requireVertex cX3_requireVertex 2 none, Cond.classLink RX3 171 "java/lang/IndexOutOfBoundsException", Cond.initialized "java/lang/IndexOutOfBoundsException", Cond.methodLink RX3 167 yX0_has, Cond.instanceMethod yX0_has, Cond.selects RX0 yX0_has yX0_has, Cond.code yX0_has cX0_has 2 (some .boolean), Cond.methodLink RX3 63 yX0_joins]
def wsL_law0_r8 : List Cond := [Cond.instanceMethod yX0_joins, Cond.selects RX0 yX0_joins yX0_joins, Cond.code yX0_joins cX0_joins 3 (some .boolean), Cond.methodLink RX0 26 yX0_adjacent, Cond.instanceMethod yX0_adjacent, Cond.selects RX0 yX0_adjacent yX0_adjacent, Cond.code yX0_adjacent cX0_adjacent 2 (some .long), Cond.static yX3_hasBit, Cond.code yX3_hasBit cX3_hasBit 3 (some .boolean), Cond.methodLink RX3 72 yX0_join, Cond.instanceMethod yX0_join, Cond.selects RX0 yX0_join yX0_join, Cond.code yX0_join cX0_join 3 none, Cond.methodLink RX3 76 yX2_extend, Cond.instanceMethod yX2_extend, Cond.selects RX2 yX2_extend yX2_extend, Cond.code yX2_extend cX2_extend 6 (some .int), Cond.methodLink RX2 46 yX2_forgetCounts, Cond.instanceMethod yX2_forgetCounts, Cond.selects RX2 yX2_forgetCounts yX2_forgetCounts, Cond.code yX2_forgetCounts cX2_forgetCounts 1 none, Cond.methodLink RX2 58 yX0_size, Cond.methodLink RX2 72 yX1_distanceTo, Cond.instanceMethod yX1_distanceTo]
def wsL_law0_r9 : List Cond := [Cond.selects RX1 yX1_distanceTo yX1_distanceTo, Cond.code yX1_distanceTo cX1_distanceTo 3 (some .int), Cond.methodLink RX1 54 yX1_hasEntry, Cond.instanceMethod yX1_hasEntry, Cond.selects RX1 yX1_hasEntry yX1_hasEntry, Cond.code yX1_hasEntry cX1_hasEntry 3 (some .boolean), Cond.methodLink RX2 68 yX2_search, Cond.instanceMethod yX2_search, Cond.selects RX2 yX2_search yX2_search, Cond.code yX2_search cX2_search 6 none, Cond.methodLink RX2 76 yX2_enqueue, Cond.instanceMethod yX2_enqueue, Cond.selects RX2 yX2_enqueue yX2_enqueue, Cond.code yX2_enqueue cX2_enqueue 4 none, Cond.methodLink RX2 80 yX2_visit, Cond.instanceMethod yX2_visit, Cond.selects RX2 yX2_visit yX2_visit, Cond.code yX2_visit cX2_visit 8 none, Cond.constantLong RX2 98 (-1), Cond.methodLink RX2 87 yX1_reaches, Cond.instanceMethod yX1_reaches, Cond.selects RX1 yX1_reaches yX1_reaches, Cond.code yX1_reaches cX1_reaches 8 (some .boolean), Cond.methodLink RX1 67 yX1_vertexOf]
def wsL_law0_r10 : List Cond := [Cond.instanceMethod yX1_vertexOf, Cond.selects RX1 yX1_vertexOf yX1_vertexOf, Cond.code yX1_vertexOf cX1_vertexOf 2 (some .int), Cond.methodLink RX1 70 yX1_commonHubs, Cond.instanceMethod yX1_commonHubs, Cond.selects RX1 yX1_commonHubs yX1_commonHubs, Cond.code yX1_commonHubs cX1_commonHubs 3 (some .long), Cond.methodLink RX1 74 yX1_sumThrough, Cond.instanceMethod yX1_sumThrough, Cond.selects RX1 yX1_sumThrough yX1_sumThrough, Cond.code yX1_sumThrough cX1_sumThrough 4 (some .int), Cond.methodLink RX2 91 yX1_put, Cond.methodLink RX2 94 yX0_adjacent, Cond.methodLink RL 83 yX4_addEdge, Cond.instanceMethod yX4_addEdge, Cond.selects RX4 yX4_addEdge yX4_addEdge, Cond.code yX4_addEdge cX4_addEdge 3 (some .int), Cond.fieldLink RX4 108 "LandmarkLeaModel" "edges" "I", Cond.fieldLink RX4 54 "LandmarkLeaModel" "visits" "I", Cond.methodLink RX4 105 yX4_isVertex, Cond.instanceMethod yX4_isVertex, Cond.selects RX4 yX4_isVertex yX4_isVertex, Cond.code yX4_isVertex cX4_isVertex 2 (some .boolean), Cond.methodLink RX4 63 yX4_isEdge]
def wsL_law0_r11 : List Cond := [Cond.instanceMethod yX4_isEdge, Cond.selects RX4 yX4_isEdge yX4_isEdge, Cond.code yX4_isEdge cX4_isEdge 3 (some .boolean), Cond.methodLink RX4 111 yX4_extendsBy, Cond.instanceMethod yX4_extendsBy, Cond.selects RX4 yX4_extendsBy yX4_extendsBy, Cond.code yX4_extendsBy cX4_extendsBy 6 none, Cond.methodLink RX4 78 yX4_counts, Cond.instanceMethod yX4_counts, Cond.selects RX4 yX4_counts yX4_counts, Cond.code yX4_counts cX4_counts 1 none, Cond.fieldLink RX4 57 "LandmarkLeaModel" "cut" "I", Cond.fieldLink RX4 60 "LandmarkLeaModel" "put" "I", Cond.methodLink RX4 81 yX4_searches, Cond.instanceMethod yX4_searches, Cond.selects RX4 yX4_searches yX4_searches, Cond.code yX4_searches cX4_searches 13 none, Cond.methodLink RX4 50 yX4_isPruned, Cond.instanceMethod yX4_isPruned, Cond.selects RX4 yX4_isPruned yX4_isPruned, Cond.code yX4_isPruned cX4_isPruned 6 (some .boolean), Cond.methodLink RX4 46 yX4_estimate, Cond.instanceMethod yX4_estimate, Cond.selects RX4 yX4_estimate yX4_estimate]
def wsL_law0_r12 : List Cond := [Cond.code yX4_estimate cX4_estimate 10 (some .int), Cond.methodLink RX4 102 yX4_keepsCounts, Cond.instanceMethod yX4_keepsCounts, Cond.selects RX4 yX4_keepsCounts yX4_keepsCounts, Cond.code yX4_keepsCounts cX4_keepsCounts 1 none, Cond.fieldLink RX4 85 "LandmarkLeaModel" "pruned" "I", Cond.fieldLink RX4 88 "LandmarkLeaModel" "written" "I", Cond.methodLink RL 84 yX3_clear, Cond.instanceMethod yX3_clear, Cond.selects RX3 yX3_clear yX3_clear, Cond.code yX3_clear cX3_clear 2 (some .int), Cond.methodLink RX3 80 yX0_countOfEdges, Cond.instanceMethod yX0_countOfEdges, Cond.selects RX0 yX0_countOfEdges yX0_countOfEdges, Cond.code yX0_countOfEdges cX0_countOfEdges 1 (some .int), Cond.methodLink RX3 83 yX0_cutAll, Cond.instanceMethod yX0_cutAll, Cond.selects RX0 yX0_cutAll yX0_cutAll, Cond.code yX0_cutAll cX0_cutAll 2 none, Cond.methodLink RX3 86 yX1_forget, Cond.instanceMethod yX1_forget, Cond.selects RX1 yX1_forget yX1_forget, Cond.code yX1_forget cX1_forget 2 none, Cond.methodLink RX3 89 yX2_forgetCounts]
def wsL_law0_r13 : List Cond := [Cond.methodLink RL 87 yX4_clear, Cond.instanceMethod yX4_clear, Cond.selects RX4 yX4_clear yX4_clear, Cond.code yX4_clear cX4_clear 3 (some .int), Cond.methodLink RL 88 yX3_vertices, Cond.instanceMethod yX3_vertices, Cond.selects RX3 yX3_vertices yX3_vertices, Cond.code yX3_vertices cX3_vertices 1 (some .int), Cond.methodLink RL 91 yX4_vertices, Cond.instanceMethod yX4_vertices, Cond.selects RX4 yX4_vertices yX4_vertices, Cond.code yX4_vertices cX4_vertices 1 (some .int), Cond.methodLink RL 92 yX3_edges, Cond.instanceMethod yX3_edges, Cond.selects RX3 yX3_edges yX3_edges, Cond.code yX3_edges cX3_edges 1 (some .int), Cond.methodLink RL 95 yX4_edges, Cond.instanceMethod yX4_edges, Cond.selects RX4 yX4_edges yX4_edges, Cond.code yX4_edges cX4_edges 1 (some .int), Cond.methodLink RL 96 yL_neighbours, Cond.static yL_neighbours, Cond.codeWith yL_neighbours cL_neighbours 4 (some .int) [(0, 8, 11, 25)], Cond.methodLink RL 27 yX3_neighbours]
def wsL_law0_r14 : List Cond := [Cond.instanceMethod yX3_neighbours, Cond.selects RX3 yX3_neighbours yX3_neighbours, Cond.code yX3_neighbours cX3_neighbours 2 (some .long), Cond.methodLink RX3 92 yX0_adjacent, Cond.methodLink RL 98 yX4_neighbours, Cond.instanceMethod yX4_neighbours, Cond.selects RX4 yX4_neighbours yX4_neighbours, Cond.code yX4_neighbours cX4_neighbours 2 (some .long), Cond.methodLink RL 99 yX3_build, Cond.instanceMethod yX3_build, Cond.selects RX3 yX3_build yX3_build, Cond.code yX3_build cX3_build 1 (some .int), Cond.methodLink RX3 96 yX2_labelAll, Cond.instanceMethod yX2_labelAll, Cond.selects RX2 yX2_labelAll yX2_labelAll, Cond.code yX2_labelAll cX2_labelAll 2 (some .int), Cond.methodLink RX2 49 yX1_forget, Cond.methodLink RX2 54 yX1_rankAll, Cond.instanceMethod yX1_rankAll, Cond.selects RX1 yX1_rankAll yX1_rankAll, Cond.code yX1_rankAll cX1_rankAll 4 none, Cond.methodLink RX1 32 yX0_size, Cond.methodLink RX1 38 yX0_degree, Cond.instanceMethod yX0_degree]
def wsL_law0_r15 : List Cond := [Cond.selects RX0 yX0_degree yX0_degree, Cond.code yX0_degree cX0_degree 2 (some .int), Cond.methodLink RX0 34 yJ13_bitCount_95d88, Cond.static yJ13_bitCount_95d88, Cond.initialized RJ13, Cond.code yJ13_bitCount_95d88 cJ13_bitCount_95d88 2 (some .int), Cond.constantLong RJ13 314 (6148914691236517205), Cond.constantLong RJ13 316 (3689348814741910323), Cond.constantLong RJ13 318 (1085102592571150095), Cond.methodLink RX1 42 yX1_rankNext, Cond.methodLink RX2 64 yX1_vertexOf, Cond.methodLink RL 102 yX4_build, Cond.instanceMethod yX4_build, Cond.selects RX4 yX4_build yX4_build, Cond.code yX4_build cX4_build 1 (some .int), Cond.methodLink RX4 115 yX4_builds, Cond.instanceMethod yX4_builds, Cond.selects RX4 yX4_builds yX4_builds, Cond.code yX4_builds cX4_builds 3 none, Cond.methodLink RX4 71 yX4_empties, Cond.instanceMethod yX4_empties, Cond.selects RX4 yX4_empties yX4_empties, Cond.code yX4_empties cX4_empties 3 none, Cond.methodLink RX4 75 yX4_givesRanks]
def wsL_law0_r16 : List Cond := [Cond.instanceMethod yX4_givesRanks, Cond.selects RX4 yX4_givesRanks yX4_givesRanks, Cond.code yX4_givesRanks cX4_givesRanks 6 none, Cond.methodLink RX4 67 yX4_degree, Cond.instanceMethod yX4_degree, Cond.selects RX4 yX4_degree yX4_degree, Cond.code yX4_degree cX4_degree 4 (some .int), Cond.methodLink RL 103 yX3_isBuilt, Cond.instanceMethod yX3_isBuilt, Cond.selects RX3 yX3_isBuilt yX3_isBuilt, Cond.code yX3_isBuilt cX3_isBuilt 1 (some .boolean), Cond.methodLink RL 107 yX4_isBuilt, Cond.instanceMethod yX4_isBuilt, Cond.selects RX4 yX4_isBuilt yX4_isBuilt, Cond.code yX4_isBuilt cX4_isBuilt 1 (some .boolean), Cond.methodLink RL 108 yL_rank, Cond.static yL_rank, Cond.codeWith yL_rank cL_rank 4 (some .int) [(0, 9, 12, 25), (0, 9, 15, 13)], Cond.methodLink RL 31 yX3_rank, Cond.instanceMethod yX3_rank, Cond.selects RX3 yX3_rank yX3_rank, Cond.code yX3_rank cX3_rank 2 (some .int), Cond.methodLink RX3 99 yX3_requireLabelOf, Cond.instanceMethod yX3_requireLabelOf]
def wsL_law0_r17 : List Cond := [Cond.selects RX3 yX3_requireLabelOf yX3_requireLabelOf, Cond.code yX3_requireLabelOf cX3_requireLabelOf 2 none, Cond.methodLink RX3 127 yX3_requireLabelsOf, Cond.instanceMethod yX3_requireLabelsOf, Cond.selects RX3 yX3_requireLabelsOf yX3_requireLabelsOf, Cond.code yX3_requireLabelsOf cX3_requireLabelsOf 3 none, Cond.methodLink RL 110 yX4_rank, Cond.instanceMethod yX4_rank, Cond.selects RX4 yX4_rank yX4_rank, Cond.code yX4_rank cX4_rank 2 (some .int), Cond.methodLink RX4 118 yX4_wrong, Cond.instanceMethod yX4_wrong, Cond.selects RX4 yX4_wrong yX4_wrong, Cond.code yX4_wrong cX4_wrong 3 (some .int), Cond.methodLink RL 111 yX3_entries, Cond.instanceMethod yX3_entries, Cond.selects RX3 yX3_entries yX3_entries, Cond.code yX3_entries cX3_entries 1 (some .int), Cond.methodLink RX3 106 yX1_countAll, Cond.instanceMethod yX1_countAll, Cond.selects RX1 yX1_countAll yX1_countAll, Cond.code yX1_countAll cX1_countAll 3 (some .int), Cond.methodLink RX1 64 yX1_countOf, Cond.instanceMethod yX1_countOf]
def wsL_law0_r18 : List Cond := [Cond.selects RX1 yX1_countOf yX1_countOf, Cond.code yX1_countOf cX1_countOf 2 (some .int), Cond.methodLink RX1 58 yJ13_bitCount_95d88, Cond.methodLink RL 114 yX4_entries, Cond.instanceMethod yX4_entries, Cond.selects RX4 yX4_entries yX4_entries, Cond.code yX4_entries cX4_entries 1 (some .int), Cond.methodLink RX4 125 yX4_all, Cond.instanceMethod yX4_all, Cond.selects RX4 yX4_all yX4_all, Cond.code yX4_all cX4_all 4 (some .int), Cond.methodLink RX4 122 yX4_size, Cond.instanceMethod yX4_size, Cond.selects RX4 yX4_size yX4_size, Cond.code yX4_size cX4_size 5 (some .int), Cond.methodLink RL 115 yX3_entriesIfBuilt, Cond.instanceMethod yX3_entriesIfBuilt, Cond.selects RX3 yX3_entriesIfBuilt yX3_entriesIfBuilt, Cond.code yX3_entriesIfBuilt cX3_entriesIfBuilt 1 (some .int), Cond.methodLink RL 118 yX4_entriesIfBuilt, Cond.instanceMethod yX4_entriesIfBuilt, Cond.selects RX4 yX4_entriesIfBuilt yX4_entriesIfBuilt, Cond.code yX4_entriesIfBuilt cX4_entriesIfBuilt 1 (some .int), Cond.methodLink RL 119 yL_labelSize]
def wsL_law0_r19 : List Cond := [Cond.static yL_labelSize, Cond.codeWith yL_labelSize cL_labelSize 4 (some .int) [(0, 9, 12, 25), (0, 9, 15, 13)], Cond.methodLink RL 34 yX3_labelSize, Cond.instanceMethod yX3_labelSize, Cond.selects RX3 yX3_labelSize yX3_labelSize, Cond.code yX3_labelSize cX3_labelSize 2 (some .int), Cond.methodLink RX3 109 yX1_countOf, Cond.methodLink RL 121 yX4_labelSize, Cond.instanceMethod yX4_labelSize, Cond.selects RX4 yX4_labelSize yX4_labelSize, Cond.code yX4_labelSize cX4_labelSize 2 (some .int), Cond.methodLink RL 122 yL_entryHub, Cond.static yL_entryHub, Cond.codeWith yL_entryHub cL_entryHub 5 (some .int) [(0, 10, 13, 25), (0, 10, 17, 13), (0, 10, 21, 19)], Cond.methodLink RL 37 yX3_entryHub, Cond.instanceMethod yX3_entryHub, Cond.selects RX3 yX3_entryHub yX3_entryHub, Cond.code yX3_entryHub cX3_entryHub 3 (some .int), Cond.methodLink RX3 112 yX3_requireEntry, Cond.instanceMethod yX3_requireEntry, Cond.selects RX3 yX3_requireEntry yX3_requireEntry, Cond.code yX3_requireEntry cX3_requireEntry 3 none, Cond.methodLink RX3 115 yX1_hubRankOfEntry, Cond.instanceMethod yX1_hubRankOfEntry]
def wsL_law0_r20 : List Cond := [Cond.selects RX1 yX1_hubRankOfEntry yX1_hubRankOfEntry, Cond.code yX1_hubRankOfEntry cX1_hubRankOfEntry 5 (some .int), Cond.methodLink RX3 118 yX1_vertexOf, Cond.methodLink RL 124 yX4_entryHub, Cond.instanceMethod yX4_entryHub, Cond.selects RX4 yX4_entryHub yX4_entryHub, Cond.code yX4_entryHub cX4_entryHub 4 (some .int), Cond.methodLink RX4 128 yX4_asksEntry, Cond.instanceMethod yX4_asksEntry, Cond.selects RX4 yX4_asksEntry yX4_asksEntry, Cond.code yX4_asksEntry cX4_asksEntry 7 (some .int), Cond.methodLink RL 125 yL_entryDistance, Cond.static yL_entryDistance, Cond.codeWith yL_entryDistance cL_entryDistance 5 (some .int) [(0, 10, 13, 25), (0, 10, 17, 13), (0, 10, 21, 19)], Cond.methodLink RL 40 yX3_entryDistance, Cond.instanceMethod yX3_entryDistance, Cond.selects RX3 yX3_entryDistance yX3_entryDistance, Cond.code yX3_entryDistance cX3_entryDistance 3 (some .int), Cond.methodLink RX3 121 yX1_distanceTo, Cond.methodLink RL 127 yX4_entryDistance, Cond.instanceMethod yX4_entryDistance, Cond.selects RX4 yX4_entryDistance yX4_entryDistance, Cond.code yX4_entryDistance cX4_entryDistance 4 (some .int), Cond.methodLink RL 128 yL_entryParent]
def wsL_law0_r21 : List Cond := [Cond.static yL_entryParent, Cond.codeWith yL_entryParent cL_entryParent 5 (some .int) [(0, 10, 13, 25), (0, 10, 17, 13), (0, 10, 21, 19)], Cond.methodLink RL 43 yX3_entryParent, Cond.instanceMethod yX3_entryParent, Cond.selects RX3 yX3_entryParent yX3_entryParent, Cond.code yX3_entryParent cX3_entryParent 3 (some .int), Cond.methodLink RX3 124 yX1_parentTowards, Cond.instanceMethod yX1_parentTowards, Cond.selects RX1 yX1_parentTowards yX1_parentTowards, Cond.code yX1_parentTowards cX1_parentTowards 3 (some .int), Cond.methodLink RL 130 yX4_entryParent, Cond.instanceMethod yX4_entryParent, Cond.selects RX4 yX4_entryParent yX4_entryParent, Cond.code yX4_entryParent cX4_entryParent 4 (some .int), Cond.methodLink RL 131 yL_distance, Cond.static yL_distance, Cond.codeWith yL_distance cL_distance 5 (some .int) [(0, 10, 13, 25), (0, 10, 17, 13)], Cond.methodLink RL 46 yX3_distance, Cond.instanceMethod yX3_distance, Cond.selects RX3 yX3_distance yX3_distance, Cond.code yX3_distance cX3_distance 3 (some .int), Cond.methodLink RX3 130 yX1_estimate, Cond.instanceMethod yX1_estimate, Cond.selects RX1 yX1_estimate yX1_estimate]
def wsL_law0_r22 : List Cond := [Cond.code yX1_estimate cX1_estimate 4 (some .int), Cond.methodLink RX1 78 yX1_meetingRank, Cond.instanceMethod yX1_meetingRank, Cond.selects RX1 yX1_meetingRank yX1_meetingRank, Cond.code yX1_meetingRank cX1_meetingRank 7 (some .int), Cond.methodLink RL 133 yX4_distance, Cond.instanceMethod yX4_distance, Cond.selects RX4 yX4_distance yX4_distance, Cond.code yX4_distance cX4_distance 3 (some .int), Cond.methodLink RX4 131 yX4_between, Cond.instanceMethod yX4_between, Cond.selects RX4 yX4_between yX4_between, Cond.code yX4_between cX4_between 3 (some .int), Cond.methodLink RL 134 yL_hub, Cond.static yL_hub, Cond.codeWith yL_hub cL_hub 5 (some .int) [(0, 10, 13, 25), (0, 10, 17, 13)], Cond.methodLink RL 49 yX3_hub, Cond.instanceMethod yX3_hub, Cond.selects RX3 yX3_hub yX3_hub, Cond.code yX3_hub cX3_hub 3 (some .int), Cond.methodLink RX3 133 yX1_meetingRank, Cond.methodLink RL 136 yX4_hub, Cond.instanceMethod yX4_hub, Cond.selects RX4 yX4_hub yX4_hub]
def wsL_law0_r23 : List Cond := [Cond.code yX4_hub cX4_hub 4 (some .int), Cond.methodLink RX4 134 yX4_rankBetween, Cond.instanceMethod yX4_rankBetween, Cond.selects RX4 yX4_rankBetween yX4_rankBetween, Cond.code yX4_rankBetween cX4_rankBetween 8 (some .int), Cond.methodLink RL 137 yL_pathVertex, Cond.static yL_pathVertex, Cond.codeWith yL_pathVertex cL_pathVertex 6 (some .int) [(0, 12, 15, 25), (0, 12, 19, 13), (0, 12, 23, 19)], Cond.methodLink RL 52 yX3_pathVertex, Cond.instanceMethod yX3_pathVertex, Cond.selects RX3 yX3_pathVertex yX3_pathVertex, Cond.code yX3_pathVertex cX3_pathVertex 4 (some .int), Cond.methodLink RX3 138 yX1_vertexOnPath, Cond.instanceMethod yX1_vertexOnPath, Cond.selects RX1 yX1_vertexOnPath yX1_vertexOnPath, Cond.code yX1_vertexOnPath cX1_vertexOnPath 7 (some .int), Cond.methodLink RX1 82 yX1_stepsTo, Cond.instanceMethod yX1_stepsTo, Cond.selects RX1 yX1_stepsTo yX1_stepsTo, Cond.code yX1_stepsTo cX1_stepsTo 6 (some .int), Cond.methodLink RX1 88 yX1_parentTowards, Cond.methodLink RX1 85 yX1_climb, Cond.instanceMethod yX1_climb, Cond.selects RX1 yX1_climb yX1_climb]
def wsL_law0_r24 : List Cond := [Cond.code yX1_climb cX1_climb 6 (some .int), Cond.methodLink RL 140 yX4_pathVertex, Cond.instanceMethod yX4_pathVertex, Cond.selects RX4 yX4_pathVertex yX4_pathVertex, Cond.code yX4_pathVertex cX4_pathVertex 8 (some .int), Cond.methodLink RX4 137 yX4_steps, Cond.instanceMethod yX4_steps, Cond.selects RX4 yX4_steps yX4_steps, Cond.code yX4_steps cX4_steps 5 (some .int), Cond.methodLink RX4 140 yX4_stepped, Cond.instanceMethod yX4_stepped, Cond.selects RX4 yX4_stepped yX4_stepped, Cond.code yX4_stepped cX4_stepped 6 (some .int), Cond.methodLink RL 141 yL_within, Cond.static yL_within, Cond.codeWith yL_within cL_within 5 (some .int) [(0, 9, 12, 25), (0, 9, 16, 13), (0, 9, 20, 19)], Cond.methodLink RL 56 yX3_within, Cond.instanceMethod yX3_within, Cond.selects RX3 yX3_within yX3_within, Cond.code yX3_within cX3_within 7 (some .long), Cond.methodLink RL 143 yX4_within, Cond.instanceMethod yX4_within, Cond.selects RX4 yX4_within yX4_within, Cond.code yX4_within cX4_within 9 (some .long)]
def wsL_law0_r25 : List Cond := [Cond.methodLink RL 144 yL_eccentricity, Cond.static yL_eccentricity, Cond.codeWith yL_eccentricity cL_eccentricity 4 (some .int) [(0, 9, 12, 25), (0, 9, 15, 13)], Cond.methodLink RL 60 yX3_eccentricity, Cond.instanceMethod yX3_eccentricity, Cond.selects RX3 yX3_eccentricity yX3_eccentricity, Cond.code yX3_eccentricity cX3_eccentricity 4 (some .int), Cond.methodLink RX3 144 Lib.Math.max.name, Cond.static Lib.Math.max.name, Cond.initialized "java/lang/Math", Cond.code Lib.Math.max.name Lib.Math.max.code 2 (some .int), Cond.methodLink RL 146 yX4_eccentricity, Cond.instanceMethod yX4_eccentricity, Cond.selects RX4 yX4_eccentricity yX4_eccentricity, Cond.code yX4_eccentricity cX4_eccentricity 6 (some .int), Cond.methodLink RL 147 yX3_pruned, Cond.instanceMethod yX3_pruned, Cond.selects RX3 yX3_pruned yX3_pruned, Cond.code yX3_pruned cX3_pruned 1 (some .int), Cond.methodLink RX3 149 yX2_countOfPruned, Cond.instanceMethod yX2_countOfPruned, Cond.selects RX2 yX2_countOfPruned yX2_countOfPruned, Cond.code yX2_countOfPruned cX2_countOfPruned 1 (some .int), Cond.methodLink RL 150 yX4_pruned]
def wsL_law0_r26 : List Cond := [Cond.instanceMethod yX4_pruned, Cond.selects RX4 yX4_pruned yX4_pruned, Cond.code yX4_pruned cX4_pruned 1 (some .int), Cond.methodLink RL 151 yX3_written, Cond.instanceMethod yX3_written, Cond.selects RX3 yX3_written yX3_written, Cond.code yX3_written cX3_written 1 (some .int), Cond.methodLink RX3 152 yX2_countOfWritten, Cond.instanceMethod yX2_countOfWritten, Cond.selects RX2 yX2_countOfWritten yX2_countOfWritten, Cond.code yX2_countOfWritten cX2_countOfWritten 1 (some .int), Cond.methodLink RL 154 yX4_written, Cond.instanceMethod yX4_written, Cond.selects RX4 yX4_written yX4_written, Cond.code yX4_written cX4_written 1 (some .int)]
def wsL_law0 : List Cond := (wsL_law0_r1 ++ (wsL_law0_r2 ++ (wsL_law0_r3 ++ (wsL_law0_r4 ++ (wsL_law0_r5 ++ (wsL_law0_r6 ++ (wsL_law0_r7 ++ (wsL_law0_r8 ++ (wsL_law0_r9 ++ (wsL_law0_r10 ++ (wsL_law0_r11 ++ (wsL_law0_r12 ++ (wsL_law0_r13 ++ (wsL_law0_r14 ++ (wsL_law0_r15 ++ (wsL_law0_r16 ++ (wsL_law0_r17 ++ (wsL_law0_r18 ++ (wsL_law0_r19 ++ (wsL_law0_r20 ++ (wsL_law0_r21 ++ (wsL_law0_r22 ++ (wsL_law0_r23 ++ (wsL_law0_r24 ++ (wsL_law0_r25 ++ wsL_law0_r26))))))))))))))))))))))))) ++ wsX30 ++ wsX40 ++ wsX00 ++ wsX10 ++ wsX20 ++ ([] : List Cond)
def wsL_law : List Cond := wsL_law0 ++ (vx_atS RX3 71 "java/lang/IllegalStateException" ["java/lang/RuntimeException", "java/lang/Exception"]).filter goodWord ++ (vx_atS RX3 54 "java/lang/IllegalArgumentException" ["java/lang/RuntimeException", "java/lang/Exception"]).filter goodWord ++ (vx_atS RX3 175 "java/lang/IndexOutOfBoundsException" ["java/lang/RuntimeException", "java/lang/Exception"]).filter goodWord
abbrev vwCl : List vw_C := [(RX0, TX0, 3), (RX1, TX1, 6), (RX2, TX2, 10), (RX3, TX3, 6), (RX4, TX4, 17)]
end
section
theorem inJ9 : ∀ w ∈ wsJ90, w ∈ lw_tbl := by decide +kernel
theorem inJ0 : ∀ w ∈ wsJ00, w ∈ lw_tbl := by decide +kernel
theorem dX0_init_0 : decode cX0_init 0 = .ok (.aload_n 0, 1) := by decide +kernel
theorem dX0_init_1 : decode cX0_init 1 = .ok (.invokespecial 3, 3) := by decide +kernel
theorem dX0_init_4 : decode cX0_init 4 = .ok (.aload_n 0, 1) := by decide +kernel
theorem dX0_init_5 : decode cX0_init 5 = .ok (.bipush 48, 2) := by decide +kernel
theorem dX0_init_7 : decode cX0_init 7 = .ok (.newarray .long, 2) := by decide +kernel
theorem dX0_init_9 : decode cX0_init 9 = .ok (.putfield 9, 3) := by decide +kernel
theorem dX0_init_12 : decode cX0_init 12 = .ok (.aload_n 0, 1) := by decide +kernel
theorem dX0_init_13 : decode cX0_init 13 = .ok (.iconst 0, 1) := by decide +kernel
theorem dX0_init_14 : decode cX0_init 14 = .ok (.putfield 15, 3) := by decide +kernel
theorem dX0_init_17 : decode cX0_init 17 = .ok (.aload_n 0, 1) := by decide +kernel
theorem dX0_init_18 : decode cX0_init 18 = .ok (.iconst 0, 1) := by decide +kernel
theorem dX0_init_19 : decode cX0_init 19 = .ok (.putfield 19, 3) := by decide +kernel
theorem dX0_init_22 : decode cX0_init 22 = .ok (.return_, 1) := by decide +kernel
theorem dX0_size_0 : decode cX0_size 0 = .ok (.aload_n 0, 1) := by decide +kernel
theorem dX0_size_1 : decode cX0_size 1 = .ok (.getfield 15, 3) := by decide +kernel
theorem dX0_size_4 : decode cX0_size 4 = .ok (.ireturn, 1) := by decide +kernel
theorem dX0_countOfEdges_0 : decode cX0_countOfEdges 0 = .ok (.aload_n 0, 1) := by decide +kernel
theorem dX0_countOfEdges_1 : decode cX0_countOfEdges 1 = .ok (.getfield 19, 3) := by decide +kernel
theorem dX0_countOfEdges_4 : decode cX0_countOfEdges 4 = .ok (.ireturn, 1) := by decide +kernel
theorem dX0_has_0 : decode cX0_has 0 = .ok (.iload_n 1, 1) := by decide +kernel
theorem dX0_has_1 : decode cX0_has 1 = .ok (.ifCond .lt 15, 3) := by decide +kernel
theorem dX0_has_4 : decode cX0_has 4 = .ok (.iload_n 1, 1) := by decide +kernel
theorem dX0_has_5 : decode cX0_has 5 = .ok (.aload_n 0, 1) := by decide +kernel
theorem dX0_has_6 : decode cX0_has 6 = .ok (.getfield 15, 3) := by decide +kernel
theorem dX0_has_9 : decode cX0_has 9 = .ok (.if_icmp .ge 7, 3) := by decide +kernel
theorem dX0_has_12 : decode cX0_has 12 = .ok (.iconst 1, 1) := by decide +kernel
theorem dX0_has_13 : decode cX0_has 13 = .ok (.goto 4, 3) := by decide +kernel
theorem dX0_has_16 : decode cX0_has 16 = .ok (.iconst 0, 1) := by decide +kernel
theorem dX0_has_17 : decode cX0_has 17 = .ok (.ireturn, 1) := by decide +kernel
set_option maxRecDepth 20000 in
theorem ggX0_adjacent_X3_isRow : GoodIn wsX0_adjacent wsX3_isRow := goodIn_r _ [4] (by decide +kernel) (by decide +kernel)
set_option maxRecDepth 20000 in
theorem gX0_adjacent_X3_isRow_n22 : GoodIn wsX0_adjacent (wsX3_isRow) := ggX0_adjacent_X3_isRow
theorem dX0_adjacent_0 : decode cX0_adjacent 0 = .ok (.iload_n 1, 1) := by decide +kernel
theorem dX0_adjacent_1 : decode cX0_adjacent 1 = .ok (.invokestatic 22, 3) := by decide +kernel
theorem dX0_adjacent_4 : decode cX0_adjacent 4 = .ok (.ifCond .eq 12, 3) := by decide +kernel
theorem dX0_adjacent_7 : decode cX0_adjacent 7 = .ok (.aload_n 0, 1) := by decide +kernel
theorem dX0_adjacent_8 : decode cX0_adjacent 8 = .ok (.getfield 9, 3) := by decide +kernel
theorem dX0_adjacent_11 : decode cX0_adjacent 11 = .ok (.iload_n 1, 1) := by decide +kernel
theorem dX0_adjacent_12 : decode cX0_adjacent 12 = .ok (.laload, 1) := by decide +kernel
theorem dX0_adjacent_13 : decode cX0_adjacent 13 = .ok (.goto 4, 3) := by decide +kernel
theorem dX0_adjacent_16 : decode cX0_adjacent 16 = .ok (.lconst 0, 1) := by decide +kernel
theorem dX0_adjacent_17 : decode cX0_adjacent 17 = .ok (.lreturn, 1) := by decide +kernel
set_option maxRecDepth 20000 in
theorem ggX0_joins_X3_isRow : GoodIn wsX0_joins wsX3_isRow := goodIn_r _ [3] (by decide +kernel) (by decide +kernel)
set_option maxRecDepth 20000 in
theorem gX0_joins_X3_isRow_n22 : GoodIn wsX0_joins (wsX3_isRow) := ggX0_joins_X3_isRow
set_option maxRecDepth 20000 in
theorem ggX0_joins_X0_adjacent : GoodIn wsX0_joins wsX0_adjacent := goodIn_r _ [8, 9, 1, 2, 3, 12, 13, 14] (by decide +kernel) (by decide +kernel)
set_option maxRecDepth 20000 in
theorem gX0_joins_X0_adjacent : GoodIn wsX0_joins (wsV RX0 26 RX0 yX0_adjacent wsX0_adjacent) := goodIn_app (goodIn_of _ (by decide +kernel)) ggX0_joins_X0_adjacent
set_option maxRecDepth 20000 in
theorem ggX0_joins_X3_hasBit : GoodIn wsX0_joins wsX3_hasBit := goodIn_r _ [11] (by decide +kernel) (by decide +kernel)
set_option maxRecDepth 20000 in
theorem gX0_joins_X3_hasBit_n30 : GoodIn wsX0_joins (wsX3_hasBit) := ggX0_joins_X3_hasBit
theorem dX0_joins_0 : decode cX0_joins 0 = .ok (.iload_n 2, 1) := by decide +kernel
theorem dX0_joins_1 : decode cX0_joins 1 = .ok (.invokestatic 22, 3) := by decide +kernel
theorem dX0_joins_4 : decode cX0_joins 4 = .ok (.ifCond .eq 19, 3) := by decide +kernel
theorem dX0_joins_7 : decode cX0_joins 7 = .ok (.aload_n 0, 1) := by decide +kernel
theorem dX0_joins_8 : decode cX0_joins 8 = .ok (.iload_n 1, 1) := by decide +kernel
theorem dX0_joins_9 : decode cX0_joins 9 = .ok (.invokevirtual 26, 3) := by decide +kernel
theorem dX0_joins_12 : decode cX0_joins 12 = .ok (.iload_n 2, 1) := by decide +kernel
theorem dX0_joins_13 : decode cX0_joins 13 = .ok (.invokestatic 30, 3) := by decide +kernel
theorem dX0_joins_16 : decode cX0_joins 16 = .ok (.ifCond .eq 7, 3) := by decide +kernel
theorem dX0_joins_19 : decode cX0_joins 19 = .ok (.iconst 1, 1) := by decide +kernel
theorem dX0_joins_20 : decode cX0_joins 20 = .ok (.goto 4, 3) := by decide +kernel
theorem dX0_joins_23 : decode cX0_joins 23 = .ok (.iconst 0, 1) := by decide +kernel
theorem dX0_joins_24 : decode cX0_joins 24 = .ok (.ireturn, 1) := by decide +kernel
set_option maxRecDepth 20000 in
theorem ggX0_degree_X0_adjacent : GoodIn wsX0_degree wsX0_adjacent := goodIn_r _ [5, 6, 7, 8, 9, 17, 18, 19] (by decide +kernel) (by decide +kernel)
set_option maxRecDepth 20000 in
theorem gX0_degree_X0_adjacent : GoodIn wsX0_degree (wsV RX0 26 RX0 yX0_adjacent wsX0_adjacent) := goodIn_app (goodIn_of _ (by decide +kernel)) ggX0_degree_X0_adjacent
set_option maxRecDepth 20000 in
theorem ggX0_degree_J13_bitCount_95d88 : GoodIn wsX0_degree wsJ13_bitCount_95d88 := goodIn_r _ [13, 14, 15, 16] (by decide +kernel) (by decide +kernel)
set_option maxRecDepth 20000 in
theorem gX0_degree_J13_bitCount_95d88 : GoodIn wsX0_degree (va_wsS RX0 34 yJ13_bitCount_95d88 wsJ13_bitCount_95d88) := goodIn_app (goodIn_of _ (by decide +kernel)) ggX0_degree_J13_bitCount_95d88
theorem dX0_degree_0 : decode cX0_degree 0 = .ok (.aload_n 0, 1) := by decide +kernel
theorem dX0_degree_1 : decode cX0_degree 1 = .ok (.iload_n 1, 1) := by decide +kernel
theorem dX0_degree_2 : decode cX0_degree 2 = .ok (.invokevirtual 26, 3) := by decide +kernel
theorem dX0_degree_5 : decode cX0_degree 5 = .ok (.invokestatic 34, 3) := by decide +kernel
theorem dX0_degree_8 : decode cX0_degree 8 = .ok (.ireturn, 1) := by decide +kernel
theorem dX0_grow_0 : decode cX0_grow 0 = .ok (.aload_n 0, 1) := by decide +kernel
theorem dX0_grow_1 : decode cX0_grow 1 = .ok (.getfield 15, 3) := by decide +kernel
theorem dX0_grow_4 : decode cX0_grow 4 = .ok (.bipush 48, 2) := by decide +kernel
theorem dX0_grow_6 : decode cX0_grow 6 = .ok (.if_icmp .lt 5, 3) := by decide +kernel
theorem dX0_grow_9 : decode cX0_grow 9 = .ok (.iconst (-1), 1) := by decide +kernel
theorem dX0_grow_10 : decode cX0_grow 10 = .ok (.ireturn, 1) := by decide +kernel
theorem dX0_grow_11 : decode cX0_grow 11 = .ok (.aload_n 0, 1) := by decide +kernel
theorem dX0_grow_12 : decode cX0_grow 12 = .ok (.getfield 15, 3) := by decide +kernel
theorem dX0_grow_15 : decode cX0_grow 15 = .ok (.istore_n 1, 1) := by decide +kernel
theorem dX0_grow_16 : decode cX0_grow 16 = .ok (.aload_n 0, 1) := by decide +kernel
theorem dX0_grow_17 : decode cX0_grow 17 = .ok (.dup, 1) := by decide +kernel
theorem dX0_grow_18 : decode cX0_grow 18 = .ok (.getfield 15, 3) := by decide +kernel
theorem dX0_grow_21 : decode cX0_grow 21 = .ok (.iconst 1, 1) := by decide +kernel
theorem dX0_grow_22 : decode cX0_grow 22 = .ok (.iadd, 1) := by decide +kernel
theorem dX0_grow_23 : decode cX0_grow 23 = .ok (.putfield 15, 3) := by decide +kernel
theorem dX0_grow_26 : decode cX0_grow 26 = .ok (.iload_n 1, 1) := by decide +kernel
theorem dX0_grow_27 : decode cX0_grow 27 = .ok (.ireturn, 1) := by decide +kernel
set_option maxRecDepth 20000 in
theorem ggX0_join_X3_isRow : GoodIn wsX0_join wsX3_isRow := goodIn_r _ [5] (by decide +kernel) (by decide +kernel)
set_option maxRecDepth 20000 in
theorem gX0_join_X3_isRow_n22 : GoodIn wsX0_join (wsX3_isRow) := ggX0_join_X3_isRow
theorem dX0_join_0 : decode cX0_join 0 = .ok (.iload_n 1, 1) := by decide +kernel
theorem dX0_join_1 : decode cX0_join 1 = .ok (.invokestatic 22, 3) := by decide +kernel
theorem dX0_join_4 : decode cX0_join 4 = .ok (.ifCond .eq 44, 3) := by decide +kernel
theorem dX0_join_7 : decode cX0_join 7 = .ok (.iload_n 2, 1) := by decide +kernel
theorem dX0_join_8 : decode cX0_join 8 = .ok (.invokestatic 22, 3) := by decide +kernel
theorem dX0_join_11 : decode cX0_join 11 = .ok (.ifCond .eq 37, 3) := by decide +kernel
theorem dX0_join_14 : decode cX0_join 14 = .ok (.aload_n 0, 1) := by decide +kernel
theorem dX0_join_15 : decode cX0_join 15 = .ok (.getfield 9, 3) := by decide +kernel
theorem dX0_join_18 : decode cX0_join 18 = .ok (.iload_n 1, 1) := by decide +kernel
theorem dX0_join_19 : decode cX0_join 19 = .ok (.dup2, 1) := by decide +kernel
theorem dX0_join_20 : decode cX0_join 20 = .ok (.laload, 1) := by decide +kernel
theorem dX0_join_21 : decode cX0_join 21 = .ok (.lconst 1, 1) := by decide +kernel
theorem dX0_join_22 : decode cX0_join 22 = .ok (.iload_n 2, 1) := by decide +kernel
theorem dX0_join_23 : decode cX0_join 23 = .ok (.lshl, 1) := by decide +kernel
theorem dX0_join_24 : decode cX0_join 24 = .ok (.lor, 1) := by decide +kernel
theorem dX0_join_25 : decode cX0_join 25 = .ok (.lastore, 1) := by decide +kernel
theorem dX0_join_26 : decode cX0_join 26 = .ok (.aload_n 0, 1) := by decide +kernel
theorem dX0_join_27 : decode cX0_join 27 = .ok (.getfield 9, 3) := by decide +kernel
theorem dX0_join_30 : decode cX0_join 30 = .ok (.iload_n 2, 1) := by decide +kernel
theorem dX0_join_31 : decode cX0_join 31 = .ok (.dup2, 1) := by decide +kernel
theorem dX0_join_32 : decode cX0_join 32 = .ok (.laload, 1) := by decide +kernel
theorem dX0_join_33 : decode cX0_join 33 = .ok (.lconst 1, 1) := by decide +kernel
theorem dX0_join_34 : decode cX0_join 34 = .ok (.iload_n 1, 1) := by decide +kernel
theorem dX0_join_35 : decode cX0_join 35 = .ok (.lshl, 1) := by decide +kernel
theorem dX0_join_36 : decode cX0_join 36 = .ok (.lor, 1) := by decide +kernel
theorem dX0_join_37 : decode cX0_join 37 = .ok (.lastore, 1) := by decide +kernel
theorem dX0_join_38 : decode cX0_join 38 = .ok (.aload_n 0, 1) := by decide +kernel
theorem dX0_join_39 : decode cX0_join 39 = .ok (.dup, 1) := by decide +kernel
theorem dX0_join_40 : decode cX0_join 40 = .ok (.getfield 19, 3) := by decide +kernel
theorem dX0_join_43 : decode cX0_join 43 = .ok (.iconst 1, 1) := by decide +kernel
theorem dX0_join_44 : decode cX0_join 44 = .ok (.iadd, 1) := by decide +kernel
theorem dX0_join_45 : decode cX0_join 45 = .ok (.putfield 19, 3) := by decide +kernel
theorem dX0_join_48 : decode cX0_join 48 = .ok (.return_, 1) := by decide +kernel
theorem dX0_cutAll_0 : decode cX0_cutAll 0 = .ok (.iconst 0, 1) := by decide +kernel
theorem dX0_cutAll_1 : decode cX0_cutAll 1 = .ok (.istore_n 1, 1) := by decide +kernel
theorem dX0_cutAll_2 : decode cX0_cutAll 2 = .ok (.iload_n 1, 1) := by decide +kernel
theorem dX0_cutAll_3 : decode cX0_cutAll 3 = .ok (.aload_n 0, 1) := by decide +kernel
theorem dX0_cutAll_4 : decode cX0_cutAll 4 = .ok (.getfield 9, 3) := by decide +kernel
theorem dX0_cutAll_7 : decode cX0_cutAll 7 = .ok (.arraylength, 1) := by decide +kernel
theorem dX0_cutAll_8 : decode cX0_cutAll 8 = .ok (.if_icmp .ge 16, 3) := by decide +kernel
theorem dX0_cutAll_11 : decode cX0_cutAll 11 = .ok (.aload_n 0, 1) := by decide +kernel
theorem dX0_cutAll_12 : decode cX0_cutAll 12 = .ok (.getfield 9, 3) := by decide +kernel
theorem dX0_cutAll_15 : decode cX0_cutAll 15 = .ok (.iload_n 1, 1) := by decide +kernel
theorem dX0_cutAll_16 : decode cX0_cutAll 16 = .ok (.lconst 0, 1) := by decide +kernel
theorem dX0_cutAll_17 : decode cX0_cutAll 17 = .ok (.lastore, 1) := by decide +kernel
theorem dX0_cutAll_18 : decode cX0_cutAll 18 = .ok (.iinc 1 1, 3) := by decide +kernel
theorem dX0_cutAll_21 : decode cX0_cutAll 21 = .ok (.goto (-19), 3) := by decide +kernel
theorem dX0_cutAll_24 : decode cX0_cutAll 24 = .ok (.aload_n 0, 1) := by decide +kernel
theorem dX0_cutAll_25 : decode cX0_cutAll 25 = .ok (.iconst 0, 1) := by decide +kernel
theorem dX0_cutAll_26 : decode cX0_cutAll 26 = .ok (.putfield 19, 3) := by decide +kernel
theorem dX0_cutAll_29 : decode cX0_cutAll 29 = .ok (.return_, 1) := by decide +kernel
theorem dX1_init_0 : decode cX1_init 0 = .ok (.aload_n 0, 1) := by decide +kernel
theorem dX1_init_1 : decode cX1_init 1 = .ok (.invokespecial 3, 3) := by decide +kernel
theorem dX1_init_4 : decode cX1_init 4 = .ok (.aload_n 0, 1) := by decide +kernel
theorem dX1_init_5 : decode cX1_init 5 = .ok (.bipush 48, 2) := by decide +kernel
theorem dX1_init_7 : decode cX1_init 7 = .ok (.newarray .int, 2) := by decide +kernel
theorem dX1_init_9 : decode cX1_init 9 = .ok (.putfield 9, 3) := by decide +kernel
theorem dX1_init_12 : decode cX1_init 12 = .ok (.aload_n 0, 1) := by decide +kernel
theorem dX1_init_13 : decode cX1_init 13 = .ok (.bipush 48, 2) := by decide +kernel
theorem dX1_init_15 : decode cX1_init 15 = .ok (.newarray .int, 2) := by decide +kernel
theorem dX1_init_17 : decode cX1_init 17 = .ok (.putfield 15, 3) := by decide +kernel
theorem dX1_init_20 : decode cX1_init 20 = .ok (.aload_n 0, 1) := by decide +kernel
theorem dX1_init_21 : decode cX1_init 21 = .ok (.iconst 0, 1) := by decide +kernel
theorem dX1_init_22 : decode cX1_init 22 = .ok (.putfield 18, 3) := by decide +kernel
theorem dX1_init_25 : decode cX1_init 25 = .ok (.aload_n 0, 1) := by decide +kernel
theorem dX1_init_26 : decode cX1_init 26 = .ok (.bipush 48, 2) := by decide +kernel
theorem dX1_init_28 : decode cX1_init 28 = .ok (.newarray .long, 2) := by decide +kernel
theorem dX1_init_30 : decode cX1_init 30 = .ok (.putfield 22, 3) := by decide +kernel
theorem dX1_init_33 : decode cX1_init 33 = .ok (.aload_n 0, 1) := by decide +kernel
theorem dX1_init_34 : decode cX1_init 34 = .ok (.sipush 2304, 3) := by decide +kernel
theorem dX1_init_37 : decode cX1_init 37 = .ok (.newarray .int, 2) := by decide +kernel
theorem dX1_init_39 : decode cX1_init 39 = .ok (.putfield 26, 3) := by decide +kernel
theorem dX1_init_42 : decode cX1_init 42 = .ok (.aload_n 0, 1) := by decide +kernel
theorem dX1_init_43 : decode cX1_init 43 = .ok (.sipush 2304, 3) := by decide +kernel
theorem dX1_init_46 : decode cX1_init 46 = .ok (.newarray .int, 2) := by decide +kernel
theorem dX1_init_48 : decode cX1_init 48 = .ok (.putfield 29, 3) := by decide +kernel
theorem dX1_init_51 : decode cX1_init 51 = .ok (.return_, 1) := by decide +kernel
theorem dX1_forget_0 : decode cX1_forget 0 = .ok (.aload_n 0, 1) := by decide +kernel
theorem dX1_forget_1 : decode cX1_forget 1 = .ok (.iconst 0, 1) := by decide +kernel
theorem dX1_forget_2 : decode cX1_forget 2 = .ok (.putfield 18, 3) := by decide +kernel
theorem dX1_forget_5 : decode cX1_forget 5 = .ok (.iconst 0, 1) := by decide +kernel
theorem dX1_forget_6 : decode cX1_forget 6 = .ok (.istore_n 1, 1) := by decide +kernel
theorem dX1_forget_7 : decode cX1_forget 7 = .ok (.iload_n 1, 1) := by decide +kernel
theorem dX1_forget_8 : decode cX1_forget 8 = .ok (.aload_n 0, 1) := by decide +kernel
theorem dX1_forget_9 : decode cX1_forget 9 = .ok (.getfield 22, 3) := by decide +kernel
theorem dX1_forget_12 : decode cX1_forget 12 = .ok (.arraylength, 1) := by decide +kernel
theorem dX1_forget_13 : decode cX1_forget 13 = .ok (.if_icmp .ge 16, 3) := by decide +kernel
theorem dX1_forget_16 : decode cX1_forget 16 = .ok (.aload_n 0, 1) := by decide +kernel
theorem dX1_forget_17 : decode cX1_forget 17 = .ok (.getfield 22, 3) := by decide +kernel
theorem dX1_forget_20 : decode cX1_forget 20 = .ok (.iload_n 1, 1) := by decide +kernel
theorem dX1_forget_21 : decode cX1_forget 21 = .ok (.lconst 0, 1) := by decide +kernel
theorem dX1_forget_22 : decode cX1_forget 22 = .ok (.lastore, 1) := by decide +kernel
theorem dX1_forget_23 : decode cX1_forget 23 = .ok (.iinc 1 1, 3) := by decide +kernel
theorem dX1_forget_26 : decode cX1_forget 26 = .ok (.goto (-19), 3) := by decide +kernel
theorem dX1_forget_29 : decode cX1_forget 29 = .ok (.return_, 1) := by decide +kernel
set_option maxRecDepth 20000 in
theorem ggX1_rankAll_X0_size : GoodIn wsX1_rankAll wsX0_size := goodIn_r _ [5, 6, 34, 35, 36] (by decide +kernel) (by decide +kernel)
set_option maxRecDepth 20000 in
theorem gX1_rankAll_X0_size : GoodIn wsX1_rankAll (wsV RX1 32 RX0 yX0_size wsX0_size) := goodIn_app (goodIn_of _ (by decide +kernel)) ggX1_rankAll_X0_size
set_option maxRecDepth 20000 in
theorem ggX1_rankAll_X0_degree : GoodIn wsX1_rankAll wsX0_degree := goodIn_r _ [10, 11, 12, 13, 4, 14, 15, 16, 17, 18, 19, 20, 21, 22, 23, 24, 25, 34, 35, 36] (by decide +kernel) (by decide +kernel)
set_option maxRecDepth 20000 in
theorem gX1_rankAll_X0_degree : GoodIn wsX1_rankAll (wsV RX1 38 RX0 yX0_degree wsX0_degree) := goodIn_app (goodIn_of _ (by decide +kernel)) ggX1_rankAll_X0_degree
set_option maxRecDepth 20000 in
theorem ggX1_rankAll_X1_rankNext : GoodIn wsX1_rankAll wsX1_rankNext := goodIn_r _ [30, 31, 32, 33, 16, 17, 18, 37, 38, 39, 40, 41, 42] (by decide +kernel) (by decide +kernel)
set_option maxRecDepth 20000 in
theorem gX1_rankAll_X1_rankNext : GoodIn wsX1_rankAll (wsV RX1 42 RX1 yX1_rankNext wsX1_rankNext) := goodIn_app (goodIn_of _ (by decide +kernel)) ggX1_rankAll_X1_rankNext
theorem dX1_rankAll_0 : decode cX1_rankAll 0 = .ok (.bipush 47, 2) := by decide +kernel
theorem dX1_rankAll_2 : decode cX1_rankAll 2 = .ok (.istore_n 2, 1) := by decide +kernel
theorem dX1_rankAll_3 : decode cX1_rankAll 3 = .ok (.iload_n 2, 1) := by decide +kernel
theorem dX1_rankAll_4 : decode cX1_rankAll 4 = .ok (.ifCond .lt 39, 3) := by decide +kernel
theorem dX1_rankAll_7 : decode cX1_rankAll 7 = .ok (.iconst 0, 1) := by decide +kernel
theorem dX1_rankAll_8 : decode cX1_rankAll 8 = .ok (.istore_n 3, 1) := by decide +kernel
theorem dX1_rankAll_9 : decode cX1_rankAll 9 = .ok (.iload_n 3, 1) := by decide +kernel
theorem dX1_rankAll_10 : decode cX1_rankAll 10 = .ok (.aload_n 1, 1) := by decide +kernel
theorem dX1_rankAll_11 : decode cX1_rankAll 11 = .ok (.invokevirtual 32, 3) := by decide +kernel
theorem dX1_rankAll_14 : decode cX1_rankAll 14 = .ok (.if_icmp .ge 23, 3) := by decide +kernel
theorem dX1_rankAll_17 : decode cX1_rankAll 17 = .ok (.aload_n 1, 1) := by decide +kernel
theorem dX1_rankAll_18 : decode cX1_rankAll 18 = .ok (.iload_n 3, 1) := by decide +kernel
theorem dX1_rankAll_19 : decode cX1_rankAll 19 = .ok (.invokevirtual 38, 3) := by decide +kernel
theorem dX1_rankAll_22 : decode cX1_rankAll 22 = .ok (.iload_n 2, 1) := by decide +kernel
theorem dX1_rankAll_23 : decode cX1_rankAll 23 = .ok (.if_icmp .ne 8, 3) := by decide +kernel
theorem dX1_rankAll_26 : decode cX1_rankAll 26 = .ok (.aload_n 0, 1) := by decide +kernel
theorem dX1_rankAll_27 : decode cX1_rankAll 27 = .ok (.iload_n 3, 1) := by decide +kernel
theorem dX1_rankAll_28 : decode cX1_rankAll 28 = .ok (.invokevirtual 42, 3) := by decide +kernel
theorem dX1_rankAll_31 : decode cX1_rankAll 31 = .ok (.iinc 3 1, 3) := by decide +kernel
theorem dX1_rankAll_34 : decode cX1_rankAll 34 = .ok (.goto (-25), 3) := by decide +kernel
theorem dX1_rankAll_37 : decode cX1_rankAll 37 = .ok (.iinc 2 (-1), 3) := by decide +kernel
theorem dX1_rankAll_40 : decode cX1_rankAll 40 = .ok (.goto (-37), 3) := by decide +kernel
theorem dX1_rankAll_43 : decode cX1_rankAll 43 = .ok (.return_, 1) := by decide +kernel
set_option maxRecDepth 20000 in
theorem ggX1_rankNext_X3_isRow : GoodIn wsX1_rankNext wsX3_isRow := goodIn_r _ [6] (by decide +kernel) (by decide +kernel)
set_option maxRecDepth 20000 in
theorem gX1_rankNext_X3_isRow_n46 : GoodIn wsX1_rankNext (wsX3_isRow) := ggX1_rankNext_X3_isRow
theorem dX1_rankNext_0 : decode cX1_rankNext 0 = .ok (.iload_n 1, 1) := by decide +kernel
theorem dX1_rankNext_1 : decode cX1_rankNext 1 = .ok (.invokestatic 46, 3) := by decide +kernel
theorem dX1_rankNext_4 : decode cX1_rankNext 4 = .ok (.ifCond .eq 43, 3) := by decide +kernel
theorem dX1_rankNext_7 : decode cX1_rankNext 7 = .ok (.aload_n 0, 1) := by decide +kernel
theorem dX1_rankNext_8 : decode cX1_rankNext 8 = .ok (.getfield 18, 3) := by decide +kernel
theorem dX1_rankNext_11 : decode cX1_rankNext 11 = .ok (.invokestatic 46, 3) := by decide +kernel
theorem dX1_rankNext_14 : decode cX1_rankNext 14 = .ok (.ifCond .eq 33, 3) := by decide +kernel
theorem dX1_rankNext_17 : decode cX1_rankNext 17 = .ok (.aload_n 0, 1) := by decide +kernel
theorem dX1_rankNext_18 : decode cX1_rankNext 18 = .ok (.getfield 9, 3) := by decide +kernel
theorem dX1_rankNext_21 : decode cX1_rankNext 21 = .ok (.iload_n 1, 1) := by decide +kernel
theorem dX1_rankNext_22 : decode cX1_rankNext 22 = .ok (.aload_n 0, 1) := by decide +kernel
theorem dX1_rankNext_23 : decode cX1_rankNext 23 = .ok (.getfield 18, 3) := by decide +kernel
theorem dX1_rankNext_26 : decode cX1_rankNext 26 = .ok (.iastore, 1) := by decide +kernel
theorem dX1_rankNext_27 : decode cX1_rankNext 27 = .ok (.aload_n 0, 1) := by decide +kernel
theorem dX1_rankNext_28 : decode cX1_rankNext 28 = .ok (.getfield 15, 3) := by decide +kernel
theorem dX1_rankNext_31 : decode cX1_rankNext 31 = .ok (.aload_n 0, 1) := by decide +kernel
theorem dX1_rankNext_32 : decode cX1_rankNext 32 = .ok (.getfield 18, 3) := by decide +kernel
theorem dX1_rankNext_35 : decode cX1_rankNext 35 = .ok (.iload_n 1, 1) := by decide +kernel
theorem dX1_rankNext_36 : decode cX1_rankNext 36 = .ok (.iastore, 1) := by decide +kernel
theorem dX1_rankNext_37 : decode cX1_rankNext 37 = .ok (.aload_n 0, 1) := by decide +kernel
theorem dX1_rankNext_38 : decode cX1_rankNext 38 = .ok (.dup, 1) := by decide +kernel
theorem dX1_rankNext_39 : decode cX1_rankNext 39 = .ok (.getfield 18, 3) := by decide +kernel
theorem dX1_rankNext_42 : decode cX1_rankNext 42 = .ok (.iconst 1, 1) := by decide +kernel
theorem dX1_rankNext_43 : decode cX1_rankNext 43 = .ok (.iadd, 1) := by decide +kernel
theorem dX1_rankNext_44 : decode cX1_rankNext 44 = .ok (.putfield 18, 3) := by decide +kernel
theorem dX1_rankNext_47 : decode cX1_rankNext 47 = .ok (.return_, 1) := by decide +kernel
set_option maxRecDepth 20000 in
theorem ggX1_rankOf_X3_isRow : GoodIn wsX1_rankOf wsX3_isRow := goodIn_r _ [4] (by decide +kernel) (by decide +kernel)
set_option maxRecDepth 20000 in
theorem gX1_rankOf_X3_isRow_n46 : GoodIn wsX1_rankOf (wsX3_isRow) := ggX1_rankOf_X3_isRow
theorem dX1_rankOf_0 : decode cX1_rankOf 0 = .ok (.iload_n 1, 1) := by decide +kernel
theorem dX1_rankOf_1 : decode cX1_rankOf 1 = .ok (.invokestatic 46, 3) := by decide +kernel
theorem dX1_rankOf_4 : decode cX1_rankOf 4 = .ok (.ifCond .eq 12, 3) := by decide +kernel
theorem dX1_rankOf_7 : decode cX1_rankOf 7 = .ok (.aload_n 0, 1) := by decide +kernel
theorem dX1_rankOf_8 : decode cX1_rankOf 8 = .ok (.getfield 9, 3) := by decide +kernel
theorem dX1_rankOf_11 : decode cX1_rankOf 11 = .ok (.iload_n 1, 1) := by decide +kernel
theorem dX1_rankOf_12 : decode cX1_rankOf 12 = .ok (.iaload, 1) := by decide +kernel
theorem dX1_rankOf_13 : decode cX1_rankOf 13 = .ok (.goto 4, 3) := by decide +kernel
theorem dX1_rankOf_16 : decode cX1_rankOf 16 = .ok (.iconst (-1), 1) := by decide +kernel
theorem dX1_rankOf_17 : decode cX1_rankOf 17 = .ok (.ireturn, 1) := by decide +kernel
set_option maxRecDepth 20000 in
theorem ggX1_vertexOf_X3_isRow : GoodIn wsX1_vertexOf wsX3_isRow := goodIn_r _ [4] (by decide +kernel) (by decide +kernel)
set_option maxRecDepth 20000 in
theorem gX1_vertexOf_X3_isRow_n46 : GoodIn wsX1_vertexOf (wsX3_isRow) := ggX1_vertexOf_X3_isRow
theorem dX1_vertexOf_0 : decode cX1_vertexOf 0 = .ok (.iload_n 1, 1) := by decide +kernel
theorem dX1_vertexOf_1 : decode cX1_vertexOf 1 = .ok (.invokestatic 46, 3) := by decide +kernel
theorem dX1_vertexOf_4 : decode cX1_vertexOf 4 = .ok (.ifCond .eq 12, 3) := by decide +kernel
theorem dX1_vertexOf_7 : decode cX1_vertexOf 7 = .ok (.aload_n 0, 1) := by decide +kernel
theorem dX1_vertexOf_8 : decode cX1_vertexOf 8 = .ok (.getfield 15, 3) := by decide +kernel
theorem dX1_vertexOf_11 : decode cX1_vertexOf 11 = .ok (.iload_n 1, 1) := by decide +kernel
theorem dX1_vertexOf_12 : decode cX1_vertexOf 12 = .ok (.iaload, 1) := by decide +kernel
theorem dX1_vertexOf_13 : decode cX1_vertexOf 13 = .ok (.goto 4, 3) := by decide +kernel
theorem dX1_vertexOf_16 : decode cX1_vertexOf 16 = .ok (.iconst (-1), 1) := by decide +kernel
theorem dX1_vertexOf_17 : decode cX1_vertexOf 17 = .ok (.ireturn, 1) := by decide +kernel
set_option maxRecDepth 20000 in
theorem ggX1_put_X3_isRow : GoodIn wsX1_put wsX3_isRow := goodIn_r _ [6] (by decide +kernel) (by decide +kernel)
set_option maxRecDepth 20000 in
theorem gX1_put_X3_isRow_n46 : GoodIn wsX1_put (wsX3_isRow) := ggX1_put_X3_isRow
theorem dX1_put_0 : decode cX1_put 0 = .ok (.iload_n 1, 1) := by decide +kernel
theorem dX1_put_1 : decode cX1_put 1 = .ok (.invokestatic 46, 3) := by decide +kernel
theorem dX1_put_4 : decode cX1_put 4 = .ok (.ifCond .eq 47, 3) := by decide +kernel
theorem dX1_put_7 : decode cX1_put 7 = .ok (.iload_n 2, 1) := by decide +kernel
theorem dX1_put_8 : decode cX1_put 8 = .ok (.invokestatic 46, 3) := by decide +kernel
theorem dX1_put_11 : decode cX1_put 11 = .ok (.ifCond .eq 40, 3) := by decide +kernel
theorem dX1_put_14 : decode cX1_put 14 = .ok (.aload_n 0, 1) := by decide +kernel
theorem dX1_put_15 : decode cX1_put 15 = .ok (.getfield 22, 3) := by decide +kernel
theorem dX1_put_18 : decode cX1_put 18 = .ok (.iload_n 2, 1) := by decide +kernel
theorem dX1_put_19 : decode cX1_put 19 = .ok (.dup2, 1) := by decide +kernel
theorem dX1_put_20 : decode cX1_put 20 = .ok (.laload, 1) := by decide +kernel
theorem dX1_put_21 : decode cX1_put 21 = .ok (.lconst 1, 1) := by decide +kernel
theorem dX1_put_22 : decode cX1_put 22 = .ok (.iload_n 1, 1) := by decide +kernel
theorem dX1_put_23 : decode cX1_put 23 = .ok (.lshl, 1) := by decide +kernel
theorem dX1_put_24 : decode cX1_put 24 = .ok (.lor, 1) := by decide +kernel
theorem dX1_put_25 : decode cX1_put 25 = .ok (.lastore, 1) := by decide +kernel
theorem dX1_put_26 : decode cX1_put 26 = .ok (.aload_n 0, 1) := by decide +kernel
theorem dX1_put_27 : decode cX1_put 27 = .ok (.getfield 26, 3) := by decide +kernel
theorem dX1_put_30 : decode cX1_put 30 = .ok (.iload_n 2, 1) := by decide +kernel
theorem dX1_put_31 : decode cX1_put 31 = .ok (.bipush 48, 2) := by decide +kernel
theorem dX1_put_33 : decode cX1_put 33 = .ok (.imul, 1) := by decide +kernel
theorem dX1_put_34 : decode cX1_put 34 = .ok (.iload_n 1, 1) := by decide +kernel
theorem dX1_put_35 : decode cX1_put 35 = .ok (.iadd, 1) := by decide +kernel
theorem dX1_put_36 : decode cX1_put 36 = .ok (.iload_n 3, 1) := by decide +kernel
theorem dX1_put_37 : decode cX1_put 37 = .ok (.iastore, 1) := by decide +kernel
theorem dX1_put_38 : decode cX1_put 38 = .ok (.aload_n 0, 1) := by decide +kernel
theorem dX1_put_39 : decode cX1_put 39 = .ok (.getfield 29, 3) := by decide +kernel
theorem dX1_put_42 : decode cX1_put 42 = .ok (.iload_n 2, 1) := by decide +kernel
theorem dX1_put_43 : decode cX1_put 43 = .ok (.bipush 48, 2) := by decide +kernel
theorem dX1_put_45 : decode cX1_put 45 = .ok (.imul, 1) := by decide +kernel
theorem dX1_put_46 : decode cX1_put 46 = .ok (.iload_n 1, 1) := by decide +kernel
theorem dX1_put_47 : decode cX1_put 47 = .ok (.iadd, 1) := by decide +kernel
theorem dX1_put_48 : decode cX1_put 48 = .ok (.iload 4, 2) := by decide +kernel
theorem dX1_put_50 : decode cX1_put 50 = .ok (.iastore, 1) := by decide +kernel
theorem dX1_put_51 : decode cX1_put 51 = .ok (.return_, 1) := by decide +kernel
set_option maxRecDepth 20000 in
theorem ggX1_hasEntry_X3_isRow : GoodIn wsX1_hasEntry wsX3_isRow := goodIn_r _ [4] (by decide +kernel) (by decide +kernel)
set_option maxRecDepth 20000 in
theorem gX1_hasEntry_X3_isRow_n46 : GoodIn wsX1_hasEntry (wsX3_isRow) := ggX1_hasEntry_X3_isRow
set_option maxRecDepth 20000 in
theorem ggX1_hasEntry_X3_hasBit : GoodIn wsX1_hasEntry wsX3_hasBit := goodIn_r _ [6] (by decide +kernel) (by decide +kernel)
set_option maxRecDepth 20000 in
theorem gX1_hasEntry_X3_hasBit_n50 : GoodIn wsX1_hasEntry (wsX3_hasBit) := ggX1_hasEntry_X3_hasBit
theorem dX1_hasEntry_0 : decode cX1_hasEntry 0 = .ok (.iload_n 2, 1) := by decide +kernel
theorem dX1_hasEntry_1 : decode cX1_hasEntry 1 = .ok (.invokestatic 46, 3) := by decide +kernel
theorem dX1_hasEntry_4 : decode cX1_hasEntry 4 = .ok (.ifCond .eq 27, 3) := by decide +kernel
theorem dX1_hasEntry_7 : decode cX1_hasEntry 7 = .ok (.iload_n 1, 1) := by decide +kernel
theorem dX1_hasEntry_8 : decode cX1_hasEntry 8 = .ok (.invokestatic 46, 3) := by decide +kernel
theorem dX1_hasEntry_11 : decode cX1_hasEntry 11 = .ok (.ifCond .eq 20, 3) := by decide +kernel
theorem dX1_hasEntry_14 : decode cX1_hasEntry 14 = .ok (.aload_n 0, 1) := by decide +kernel
theorem dX1_hasEntry_15 : decode cX1_hasEntry 15 = .ok (.getfield 22, 3) := by decide +kernel
theorem dX1_hasEntry_18 : decode cX1_hasEntry 18 = .ok (.iload_n 2, 1) := by decide +kernel
theorem dX1_hasEntry_19 : decode cX1_hasEntry 19 = .ok (.laload, 1) := by decide +kernel
theorem dX1_hasEntry_20 : decode cX1_hasEntry 20 = .ok (.iload_n 1, 1) := by decide +kernel
theorem dX1_hasEntry_21 : decode cX1_hasEntry 21 = .ok (.invokestatic 50, 3) := by decide +kernel
theorem dX1_hasEntry_24 : decode cX1_hasEntry 24 = .ok (.ifCond .eq 7, 3) := by decide +kernel
theorem dX1_hasEntry_27 : decode cX1_hasEntry 27 = .ok (.iconst 1, 1) := by decide +kernel
theorem dX1_hasEntry_28 : decode cX1_hasEntry 28 = .ok (.goto 4, 3) := by decide +kernel
theorem dX1_hasEntry_31 : decode cX1_hasEntry 31 = .ok (.iconst 0, 1) := by decide +kernel
theorem dX1_hasEntry_32 : decode cX1_hasEntry 32 = .ok (.ireturn, 1) := by decide +kernel
set_option maxRecDepth 20000 in
theorem ggX1_distanceTo_X1_hasEntry : GoodIn wsX1_distanceTo wsX1_hasEntry := goodIn_r _ [6, 7, 8, 9, 10, 11, 12, 13, 14, 15, 16, 17, 18] (by decide +kernel) (by decide +kernel)
set_option maxRecDepth 20000 in
theorem gX1_distanceTo_X1_hasEntry : GoodIn wsX1_distanceTo (wsV RX1 54 RX1 yX1_hasEntry wsX1_hasEntry) := goodIn_app (goodIn_of _ (by decide +kernel)) ggX1_distanceTo_X1_hasEntry
theorem dX1_distanceTo_0 : decode cX1_distanceTo 0 = .ok (.aload_n 0, 1) := by decide +kernel
theorem dX1_distanceTo_1 : decode cX1_distanceTo 1 = .ok (.iload_n 1, 1) := by decide +kernel
theorem dX1_distanceTo_2 : decode cX1_distanceTo 2 = .ok (.iload_n 2, 1) := by decide +kernel
theorem dX1_distanceTo_3 : decode cX1_distanceTo 3 = .ok (.invokevirtual 54, 3) := by decide +kernel
theorem dX1_distanceTo_6 : decode cX1_distanceTo 6 = .ok (.ifCond .ne 5, 3) := by decide +kernel
theorem dX1_distanceTo_9 : decode cX1_distanceTo 9 = .ok (.iconst (-1), 1) := by decide +kernel
theorem dX1_distanceTo_10 : decode cX1_distanceTo 10 = .ok (.ireturn, 1) := by decide +kernel
theorem dX1_distanceTo_11 : decode cX1_distanceTo 11 = .ok (.aload_n 0, 1) := by decide +kernel
theorem dX1_distanceTo_12 : decode cX1_distanceTo 12 = .ok (.getfield 26, 3) := by decide +kernel
theorem dX1_distanceTo_15 : decode cX1_distanceTo 15 = .ok (.iload_n 2, 1) := by decide +kernel
theorem dX1_distanceTo_16 : decode cX1_distanceTo 16 = .ok (.bipush 48, 2) := by decide +kernel
theorem dX1_distanceTo_18 : decode cX1_distanceTo 18 = .ok (.imul, 1) := by decide +kernel
theorem dX1_distanceTo_19 : decode cX1_distanceTo 19 = .ok (.iload_n 1, 1) := by decide +kernel
theorem dX1_distanceTo_20 : decode cX1_distanceTo 20 = .ok (.iadd, 1) := by decide +kernel
theorem dX1_distanceTo_21 : decode cX1_distanceTo 21 = .ok (.iaload, 1) := by decide +kernel
theorem dX1_distanceTo_22 : decode cX1_distanceTo 22 = .ok (.ireturn, 1) := by decide +kernel
set_option maxRecDepth 20000 in
theorem ggX1_parentTowards_X1_hasEntry : GoodIn wsX1_parentTowards wsX1_hasEntry := goodIn_r _ [6, 7, 8, 9, 10, 11, 12, 13, 14, 15, 16, 17, 18] (by decide +kernel) (by decide +kernel)
set_option maxRecDepth 20000 in
theorem gX1_parentTowards_X1_hasEntry : GoodIn wsX1_parentTowards (wsV RX1 54 RX1 yX1_hasEntry wsX1_hasEntry) := goodIn_app (goodIn_of _ (by decide +kernel)) ggX1_parentTowards_X1_hasEntry
theorem dX1_parentTowards_0 : decode cX1_parentTowards 0 = .ok (.aload_n 0, 1) := by decide +kernel
theorem dX1_parentTowards_1 : decode cX1_parentTowards 1 = .ok (.iload_n 1, 1) := by decide +kernel
theorem dX1_parentTowards_2 : decode cX1_parentTowards 2 = .ok (.iload_n 2, 1) := by decide +kernel
theorem dX1_parentTowards_3 : decode cX1_parentTowards 3 = .ok (.invokevirtual 54, 3) := by decide +kernel
theorem dX1_parentTowards_6 : decode cX1_parentTowards 6 = .ok (.ifCond .ne 5, 3) := by decide +kernel
theorem dX1_parentTowards_9 : decode cX1_parentTowards 9 = .ok (.iconst (-1), 1) := by decide +kernel
theorem dX1_parentTowards_10 : decode cX1_parentTowards 10 = .ok (.ireturn, 1) := by decide +kernel
theorem dX1_parentTowards_11 : decode cX1_parentTowards 11 = .ok (.aload_n 0, 1) := by decide +kernel
theorem dX1_parentTowards_12 : decode cX1_parentTowards 12 = .ok (.getfield 29, 3) := by decide +kernel
theorem dX1_parentTowards_15 : decode cX1_parentTowards 15 = .ok (.iload_n 2, 1) := by decide +kernel
theorem dX1_parentTowards_16 : decode cX1_parentTowards 16 = .ok (.bipush 48, 2) := by decide +kernel
theorem dX1_parentTowards_18 : decode cX1_parentTowards 18 = .ok (.imul, 1) := by decide +kernel
theorem dX1_parentTowards_19 : decode cX1_parentTowards 19 = .ok (.iload_n 1, 1) := by decide +kernel
theorem dX1_parentTowards_20 : decode cX1_parentTowards 20 = .ok (.iadd, 1) := by decide +kernel
theorem dX1_parentTowards_21 : decode cX1_parentTowards 21 = .ok (.iaload, 1) := by decide +kernel
theorem dX1_parentTowards_22 : decode cX1_parentTowards 22 = .ok (.ireturn, 1) := by decide +kernel
set_option maxRecDepth 20000 in
theorem ggX1_countOf_X3_isRow : GoodIn wsX1_countOf wsX3_isRow := goodIn_r _ [4] (by decide +kernel) (by decide +kernel)
set_option maxRecDepth 20000 in
theorem gX1_countOf_X3_isRow_n46 : GoodIn wsX1_countOf (wsX3_isRow) := ggX1_countOf_X3_isRow
set_option maxRecDepth 20000 in
theorem ggX1_countOf_J13_bitCount_95d88 : GoodIn wsX1_countOf wsJ13_bitCount_95d88 := goodIn_r _ [8, 9, 10, 11] (by decide +kernel) (by decide +kernel)
set_option maxRecDepth 20000 in
theorem gX1_countOf_J13_bitCount_95d88 : GoodIn wsX1_countOf (va_wsS RX1 58 yJ13_bitCount_95d88 wsJ13_bitCount_95d88) := goodIn_app (goodIn_of _ (by decide +kernel)) ggX1_countOf_J13_bitCount_95d88
theorem dX1_countOf_0 : decode cX1_countOf 0 = .ok (.iload_n 1, 1) := by decide +kernel
theorem dX1_countOf_1 : decode cX1_countOf 1 = .ok (.invokestatic 46, 3) := by decide +kernel
theorem dX1_countOf_4 : decode cX1_countOf 4 = .ok (.ifCond .eq 15, 3) := by decide +kernel
theorem dX1_countOf_7 : decode cX1_countOf 7 = .ok (.aload_n 0, 1) := by decide +kernel
theorem dX1_countOf_8 : decode cX1_countOf 8 = .ok (.getfield 22, 3) := by decide +kernel
theorem dX1_countOf_11 : decode cX1_countOf 11 = .ok (.iload_n 1, 1) := by decide +kernel
theorem dX1_countOf_12 : decode cX1_countOf 12 = .ok (.laload, 1) := by decide +kernel
theorem dX1_countOf_13 : decode cX1_countOf 13 = .ok (.invokestatic 58, 3) := by decide +kernel
theorem dX1_countOf_16 : decode cX1_countOf 16 = .ok (.goto 4, 3) := by decide +kernel
theorem dX1_countOf_19 : decode cX1_countOf 19 = .ok (.iconst 0, 1) := by decide +kernel
theorem dX1_countOf_20 : decode cX1_countOf 20 = .ok (.ireturn, 1) := by decide +kernel
set_option maxRecDepth 20000 in
theorem ggX1_countAll_X1_countOf : GoodIn wsX1_countAll wsX1_countOf := goodIn_r _ [5, 6, 7, 8, 9, 10, 11, 12, 13, 14, 15, 16, 17, 18, 19, 20, 21, 22] (by decide +kernel) (by decide +kernel)
set_option maxRecDepth 20000 in
theorem gX1_countAll_X1_countOf : GoodIn wsX1_countAll (wsV RX1 64 RX1 yX1_countOf wsX1_countOf) := goodIn_app (goodIn_of _ (by decide +kernel)) ggX1_countAll_X1_countOf
theorem dX1_countAll_0 : decode cX1_countAll 0 = .ok (.iconst 0, 1) := by decide +kernel
theorem dX1_countAll_1 : decode cX1_countAll 1 = .ok (.istore_n 1, 1) := by decide +kernel
theorem dX1_countAll_2 : decode cX1_countAll 2 = .ok (.iconst 0, 1) := by decide +kernel
theorem dX1_countAll_3 : decode cX1_countAll 3 = .ok (.istore_n 2, 1) := by decide +kernel
theorem dX1_countAll_4 : decode cX1_countAll 4 = .ok (.iload_n 2, 1) := by decide +kernel
theorem dX1_countAll_5 : decode cX1_countAll 5 = .ok (.bipush 48, 2) := by decide +kernel
theorem dX1_countAll_7 : decode cX1_countAll 7 = .ok (.if_icmp .ge 17, 3) := by decide +kernel
theorem dX1_countAll_10 : decode cX1_countAll 10 = .ok (.iload_n 1, 1) := by decide +kernel
theorem dX1_countAll_11 : decode cX1_countAll 11 = .ok (.aload_n 0, 1) := by decide +kernel
theorem dX1_countAll_12 : decode cX1_countAll 12 = .ok (.iload_n 2, 1) := by decide +kernel
theorem dX1_countAll_13 : decode cX1_countAll 13 = .ok (.invokevirtual 64, 3) := by decide +kernel
theorem dX1_countAll_16 : decode cX1_countAll 16 = .ok (.iadd, 1) := by decide +kernel
theorem dX1_countAll_17 : decode cX1_countAll 17 = .ok (.istore_n 1, 1) := by decide +kernel
theorem dX1_countAll_18 : decode cX1_countAll 18 = .ok (.iinc 2 1, 3) := by decide +kernel
theorem dX1_countAll_21 : decode cX1_countAll 21 = .ok (.goto (-17), 3) := by decide +kernel
theorem dX1_countAll_24 : decode cX1_countAll 24 = .ok (.iload_n 1, 1) := by decide +kernel
theorem dX1_countAll_25 : decode cX1_countAll 25 = .ok (.ireturn, 1) := by decide +kernel
set_option maxRecDepth 20000 in
theorem ggX1_hubRankOfEntry_X3_isRow : GoodIn wsX1_hubRankOfEntry wsX3_isRow := goodIn_r _ [4] (by decide +kernel) (by decide +kernel)
set_option maxRecDepth 20000 in
theorem gX1_hubRankOfEntry_X3_isRow_n46 : GoodIn wsX1_hubRankOfEntry (wsX3_isRow) := ggX1_hubRankOfEntry_X3_isRow
set_option maxRecDepth 20000 in
theorem ggX1_hubRankOfEntry_X3_hasBit : GoodIn wsX1_hubRankOfEntry wsX3_hasBit := goodIn_r _ [6] (by decide +kernel) (by decide +kernel)
set_option maxRecDepth 20000 in
theorem gX1_hubRankOfEntry_X3_hasBit_n50 : GoodIn wsX1_hubRankOfEntry (wsX3_hasBit) := ggX1_hubRankOfEntry_X3_hasBit
theorem dX1_hubRankOfEntry_0 : decode cX1_hubRankOfEntry 0 = .ok (.iload_n 1, 1) := by decide +kernel
theorem dX1_hubRankOfEntry_1 : decode cX1_hubRankOfEntry 1 = .ok (.invokestatic 46, 3) := by decide +kernel
theorem dX1_hubRankOfEntry_4 : decode cX1_hubRankOfEntry 4 = .ok (.ifCond .ne 5, 3) := by decide +kernel
theorem dX1_hubRankOfEntry_7 : decode cX1_hubRankOfEntry 7 = .ok (.iconst (-1), 1) := by decide +kernel
theorem dX1_hubRankOfEntry_8 : decode cX1_hubRankOfEntry 8 = .ok (.ireturn, 1) := by decide +kernel
theorem dX1_hubRankOfEntry_9 : decode cX1_hubRankOfEntry 9 = .ok (.iconst 0, 1) := by decide +kernel
theorem dX1_hubRankOfEntry_10 : decode cX1_hubRankOfEntry 10 = .ok (.istore_n 3, 1) := by decide +kernel
theorem dX1_hubRankOfEntry_11 : decode cX1_hubRankOfEntry 11 = .ok (.iconst 0, 1) := by decide +kernel
theorem dX1_hubRankOfEntry_12 : decode cX1_hubRankOfEntry 12 = .ok (.istore 4, 2) := by decide +kernel
theorem dX1_hubRankOfEntry_14 : decode cX1_hubRankOfEntry 14 = .ok (.iload 4, 2) := by decide +kernel
theorem dX1_hubRankOfEntry_16 : decode cX1_hubRankOfEntry 16 = .ok (.bipush 48, 2) := by decide +kernel
theorem dX1_hubRankOfEntry_18 : decode cX1_hubRankOfEntry 18 = .ok (.if_icmp .ge 34, 3) := by decide +kernel
theorem dX1_hubRankOfEntry_21 : decode cX1_hubRankOfEntry 21 = .ok (.aload_n 0, 1) := by decide +kernel
theorem dX1_hubRankOfEntry_22 : decode cX1_hubRankOfEntry 22 = .ok (.getfield 22, 3) := by decide +kernel
theorem dX1_hubRankOfEntry_25 : decode cX1_hubRankOfEntry 25 = .ok (.iload_n 1, 1) := by decide +kernel
theorem dX1_hubRankOfEntry_26 : decode cX1_hubRankOfEntry 26 = .ok (.laload, 1) := by decide +kernel
theorem dX1_hubRankOfEntry_27 : decode cX1_hubRankOfEntry 27 = .ok (.iload 4, 2) := by decide +kernel
theorem dX1_hubRankOfEntry_29 : decode cX1_hubRankOfEntry 29 = .ok (.invokestatic 50, 3) := by decide +kernel
theorem dX1_hubRankOfEntry_32 : decode cX1_hubRankOfEntry 32 = .ok (.ifCond .eq 14, 3) := by decide +kernel
theorem dX1_hubRankOfEntry_35 : decode cX1_hubRankOfEntry 35 = .ok (.iload_n 3, 1) := by decide +kernel
theorem dX1_hubRankOfEntry_36 : decode cX1_hubRankOfEntry 36 = .ok (.iload_n 2, 1) := by decide +kernel
theorem dX1_hubRankOfEntry_37 : decode cX1_hubRankOfEntry 37 = .ok (.if_icmp .ne 6, 3) := by decide +kernel
theorem dX1_hubRankOfEntry_40 : decode cX1_hubRankOfEntry 40 = .ok (.iload 4, 2) := by decide +kernel
theorem dX1_hubRankOfEntry_42 : decode cX1_hubRankOfEntry 42 = .ok (.ireturn, 1) := by decide +kernel
theorem dX1_hubRankOfEntry_43 : decode cX1_hubRankOfEntry 43 = .ok (.iinc 3 1, 3) := by decide +kernel
theorem dX1_hubRankOfEntry_46 : decode cX1_hubRankOfEntry 46 = .ok (.iinc 4 1, 3) := by decide +kernel
theorem dX1_hubRankOfEntry_49 : decode cX1_hubRankOfEntry 49 = .ok (.goto (-35), 3) := by decide +kernel
theorem dX1_hubRankOfEntry_52 : decode cX1_hubRankOfEntry 52 = .ok (.iconst (-1), 1) := by decide +kernel
theorem dX1_hubRankOfEntry_53 : decode cX1_hubRankOfEntry 53 = .ok (.ireturn, 1) := by decide +kernel
set_option maxRecDepth 20000 in
theorem ggX1_reaches_X1_vertexOf : GoodIn wsX1_reaches wsX1_vertexOf := goodIn_r _ [5, 6, 7, 8, 9, 22, 23, 24, 25, 26, 27] (by decide +kernel) (by decide +kernel)
set_option maxRecDepth 20000 in
theorem gX1_reaches_X1_vertexOf : GoodIn wsX1_reaches (wsV RX1 67 RX1 yX1_vertexOf wsX1_vertexOf) := goodIn_app (goodIn_of _ (by decide +kernel)) ggX1_reaches_X1_vertexOf
set_option maxRecDepth 20000 in
theorem ggX1_reaches_X1_commonHubs : GoodIn wsX1_reaches wsX1_commonHubs := goodIn_r _ [13, 14, 7, 8, 9, 22, 23, 24, 25, 26, 27] (by decide +kernel) (by decide +kernel)
set_option maxRecDepth 20000 in
theorem gX1_reaches_X1_commonHubs : GoodIn wsX1_reaches (wsV RX1 70 RX1 yX1_commonHubs wsX1_commonHubs) := goodIn_app (goodIn_of _ (by decide +kernel)) ggX1_reaches_X1_commonHubs
set_option maxRecDepth 20000 in
theorem ggX1_reaches_X3_hasBit : GoodIn wsX1_reaches wsX3_hasBit := goodIn_r _ [16] (by decide +kernel) (by decide +kernel)
set_option maxRecDepth 20000 in
theorem gX1_reaches_X3_hasBit_n50 : GoodIn wsX1_reaches (wsX3_hasBit) := ggX1_reaches_X3_hasBit
set_option maxRecDepth 20000 in
theorem ggX1_reaches_X1_sumThrough : GoodIn wsX1_reaches wsX1_sumThrough := goodIn_r _ [20, 21, 7, 8, 9, 22, 23, 24, 25, 26, 27] (by decide +kernel) (by decide +kernel)
set_option maxRecDepth 20000 in
theorem gX1_reaches_X1_sumThrough : GoodIn wsX1_reaches (wsV RX1 74 RX1 yX1_sumThrough wsX1_sumThrough) := goodIn_app (goodIn_of _ (by decide +kernel)) ggX1_reaches_X1_sumThrough
theorem dX1_reaches_0 : decode cX1_reaches 0 = .ok (.aload_n 0, 1) := by decide +kernel
theorem dX1_reaches_1 : decode cX1_reaches 1 = .ok (.iload_n 1, 1) := by decide +kernel
theorem dX1_reaches_2 : decode cX1_reaches 2 = .ok (.invokevirtual 67, 3) := by decide +kernel
theorem dX1_reaches_5 : decode cX1_reaches 5 = .ok (.istore 4, 2) := by decide +kernel
theorem dX1_reaches_7 : decode cX1_reaches 7 = .ok (.aload_n 0, 1) := by decide +kernel
theorem dX1_reaches_8 : decode cX1_reaches 8 = .ok (.iload 4, 2) := by decide +kernel
theorem dX1_reaches_10 : decode cX1_reaches 10 = .ok (.iload_n 2, 1) := by decide +kernel
theorem dX1_reaches_11 : decode cX1_reaches 11 = .ok (.invokevirtual 70, 3) := by decide +kernel
theorem dX1_reaches_14 : decode cX1_reaches 14 = .ok (.lstore 5, 2) := by decide +kernel
theorem dX1_reaches_16 : decode cX1_reaches 16 = .ok (.iconst 0, 1) := by decide +kernel
theorem dX1_reaches_17 : decode cX1_reaches 17 = .ok (.istore 7, 2) := by decide +kernel
theorem dX1_reaches_19 : decode cX1_reaches 19 = .ok (.iload 7, 2) := by decide +kernel
theorem dX1_reaches_21 : decode cX1_reaches 21 = .ok (.iload_n 1, 1) := by decide +kernel
theorem dX1_reaches_22 : decode cX1_reaches 22 = .ok (.if_icmp .gt 41, 3) := by decide +kernel
theorem dX1_reaches_25 : decode cX1_reaches 25 = .ok (.iload 7, 2) := by decide +kernel
theorem dX1_reaches_27 : decode cX1_reaches 27 = .ok (.bipush 48, 2) := by decide +kernel
theorem dX1_reaches_29 : decode cX1_reaches 29 = .ok (.if_icmp .ge 34, 3) := by decide +kernel
theorem dX1_reaches_32 : decode cX1_reaches 32 = .ok (.lload 5, 2) := by decide +kernel
theorem dX1_reaches_34 : decode cX1_reaches 34 = .ok (.iload 7, 2) := by decide +kernel
theorem dX1_reaches_36 : decode cX1_reaches 36 = .ok (.invokestatic 50, 3) := by decide +kernel
theorem dX1_reaches_39 : decode cX1_reaches 39 = .ok (.ifCond .eq 18, 3) := by decide +kernel
theorem dX1_reaches_42 : decode cX1_reaches 42 = .ok (.aload_n 0, 1) := by decide +kernel
theorem dX1_reaches_43 : decode cX1_reaches 43 = .ok (.iload 7, 2) := by decide +kernel
theorem dX1_reaches_45 : decode cX1_reaches 45 = .ok (.iload 4, 2) := by decide +kernel
theorem dX1_reaches_47 : decode cX1_reaches 47 = .ok (.iload_n 2, 1) := by decide +kernel
theorem dX1_reaches_48 : decode cX1_reaches 48 = .ok (.invokevirtual 74, 3) := by decide +kernel
theorem dX1_reaches_51 : decode cX1_reaches 51 = .ok (.iload_n 3, 1) := by decide +kernel
theorem dX1_reaches_52 : decode cX1_reaches 52 = .ok (.if_icmp .gt 5, 3) := by decide +kernel
theorem dX1_reaches_55 : decode cX1_reaches 55 = .ok (.iconst 1, 1) := by decide +kernel
theorem dX1_reaches_56 : decode cX1_reaches 56 = .ok (.ireturn, 1) := by decide +kernel
theorem dX1_reaches_57 : decode cX1_reaches 57 = .ok (.iinc 7 1, 3) := by decide +kernel
theorem dX1_reaches_60 : decode cX1_reaches 60 = .ok (.goto (-41), 3) := by decide +kernel
theorem dX1_reaches_63 : decode cX1_reaches 63 = .ok (.iconst 0, 1) := by decide +kernel
theorem dX1_reaches_64 : decode cX1_reaches 64 = .ok (.ireturn, 1) := by decide +kernel
set_option maxRecDepth 20000 in
theorem ggX1_meetingRank_X1_commonHubs : GoodIn wsX1_meetingRank wsX1_commonHubs := goodIn_r _ [5, 6, 7, 8, 9, 17, 18, 19, 20, 21, 22] (by decide +kernel) (by decide +kernel)
set_option maxRecDepth 20000 in
theorem gX1_meetingRank_X1_commonHubs : GoodIn wsX1_meetingRank (wsV RX1 70 RX1 yX1_commonHubs wsX1_commonHubs) := goodIn_app (goodIn_of _ (by decide +kernel)) ggX1_meetingRank_X1_commonHubs
set_option maxRecDepth 20000 in
theorem ggX1_meetingRank_X3_hasBit : GoodIn wsX1_meetingRank wsX3_hasBit := goodIn_r _ [11] (by decide +kernel) (by decide +kernel)
set_option maxRecDepth 20000 in
theorem gX1_meetingRank_X3_hasBit_n50 : GoodIn wsX1_meetingRank (wsX3_hasBit) := ggX1_meetingRank_X3_hasBit
set_option maxRecDepth 20000 in
theorem ggX1_meetingRank_X1_sumThrough : GoodIn wsX1_meetingRank wsX1_sumThrough := goodIn_r _ [15, 16, 7, 8, 9, 17, 18, 19, 20, 21, 22] (by decide +kernel) (by decide +kernel)
set_option maxRecDepth 20000 in
theorem gX1_meetingRank_X1_sumThrough : GoodIn wsX1_meetingRank (wsV RX1 74 RX1 yX1_sumThrough wsX1_sumThrough) := goodIn_app (goodIn_of _ (by decide +kernel)) ggX1_meetingRank_X1_sumThrough
theorem dX1_meetingRank_0 : decode cX1_meetingRank 0 = .ok (.aload_n 0, 1) := by decide +kernel
theorem dX1_meetingRank_1 : decode cX1_meetingRank 1 = .ok (.iload_n 1, 1) := by decide +kernel
theorem dX1_meetingRank_2 : decode cX1_meetingRank 2 = .ok (.iload_n 2, 1) := by decide +kernel
theorem dX1_meetingRank_3 : decode cX1_meetingRank 3 = .ok (.invokevirtual 70, 3) := by decide +kernel
theorem dX1_meetingRank_6 : decode cX1_meetingRank 6 = .ok (.lstore_n 3, 1) := by decide +kernel
theorem dX1_meetingRank_7 : decode cX1_meetingRank 7 = .ok (.iconst (-1), 1) := by decide +kernel
theorem dX1_meetingRank_8 : decode cX1_meetingRank 8 = .ok (.istore 5, 2) := by decide +kernel
theorem dX1_meetingRank_10 : decode cX1_meetingRank 10 = .ok (.iconst 0, 1) := by decide +kernel
theorem dX1_meetingRank_11 : decode cX1_meetingRank 11 = .ok (.istore 6, 2) := by decide +kernel
theorem dX1_meetingRank_13 : decode cX1_meetingRank 13 = .ok (.iload 6, 2) := by decide +kernel
theorem dX1_meetingRank_15 : decode cX1_meetingRank 15 = .ok (.bipush 48, 2) := by decide +kernel
theorem dX1_meetingRank_17 : decode cX1_meetingRank 17 = .ok (.if_icmp .ge 47, 3) := by decide +kernel
theorem dX1_meetingRank_20 : decode cX1_meetingRank 20 = .ok (.lload_n 3, 1) := by decide +kernel
theorem dX1_meetingRank_21 : decode cX1_meetingRank 21 = .ok (.iload 6, 2) := by decide +kernel
theorem dX1_meetingRank_23 : decode cX1_meetingRank 23 = .ok (.invokestatic 50, 3) := by decide +kernel
theorem dX1_meetingRank_26 : decode cX1_meetingRank 26 = .ok (.ifCond .eq 32, 3) := by decide +kernel
theorem dX1_meetingRank_29 : decode cX1_meetingRank 29 = .ok (.iload 5, 2) := by decide +kernel
theorem dX1_meetingRank_31 : decode cX1_meetingRank 31 = .ok (.iconst (-1), 1) := by decide +kernel
theorem dX1_meetingRank_32 : decode cX1_meetingRank 32 = .ok (.if_icmp .eq 22, 3) := by decide +kernel
theorem dX1_meetingRank_35 : decode cX1_meetingRank 35 = .ok (.aload_n 0, 1) := by decide +kernel
theorem dX1_meetingRank_36 : decode cX1_meetingRank 36 = .ok (.iload 6, 2) := by decide +kernel
theorem dX1_meetingRank_38 : decode cX1_meetingRank 38 = .ok (.iload_n 1, 1) := by decide +kernel
theorem dX1_meetingRank_39 : decode cX1_meetingRank 39 = .ok (.iload_n 2, 1) := by decide +kernel
theorem dX1_meetingRank_40 : decode cX1_meetingRank 40 = .ok (.invokevirtual 74, 3) := by decide +kernel
theorem dX1_meetingRank_43 : decode cX1_meetingRank 43 = .ok (.aload_n 0, 1) := by decide +kernel
theorem dX1_meetingRank_44 : decode cX1_meetingRank 44 = .ok (.iload 5, 2) := by decide +kernel
theorem dX1_meetingRank_46 : decode cX1_meetingRank 46 = .ok (.iload_n 1, 1) := by decide +kernel
theorem dX1_meetingRank_47 : decode cX1_meetingRank 47 = .ok (.iload_n 2, 1) := by decide +kernel
theorem dX1_meetingRank_48 : decode cX1_meetingRank 48 = .ok (.invokevirtual 74, 3) := by decide +kernel
theorem dX1_meetingRank_51 : decode cX1_meetingRank 51 = .ok (.if_icmp .ge 7, 3) := by decide +kernel
theorem dX1_meetingRank_54 : decode cX1_meetingRank 54 = .ok (.iload 6, 2) := by decide +kernel
theorem dX1_meetingRank_56 : decode cX1_meetingRank 56 = .ok (.istore 5, 2) := by decide +kernel
theorem dX1_meetingRank_58 : decode cX1_meetingRank 58 = .ok (.iinc 6 1, 3) := by decide +kernel
theorem dX1_meetingRank_61 : decode cX1_meetingRank 61 = .ok (.goto (-48), 3) := by decide +kernel
theorem dX1_meetingRank_64 : decode cX1_meetingRank 64 = .ok (.iload 5, 2) := by decide +kernel
theorem dX1_meetingRank_66 : decode cX1_meetingRank 66 = .ok (.ireturn, 1) := by decide +kernel
set_option maxRecDepth 20000 in
theorem ggX1_commonHubs_X3_isRow : GoodIn wsX1_commonHubs wsX3_isRow := goodIn_r _ [4] (by decide +kernel) (by decide +kernel)
set_option maxRecDepth 20000 in
theorem gX1_commonHubs_X3_isRow_n46 : GoodIn wsX1_commonHubs (wsX3_isRow) := ggX1_commonHubs_X3_isRow
theorem dX1_commonHubs_0 : decode cX1_commonHubs 0 = .ok (.iload_n 1, 1) := by decide +kernel
theorem dX1_commonHubs_1 : decode cX1_commonHubs 1 = .ok (.invokestatic 46, 3) := by decide +kernel
theorem dX1_commonHubs_4 : decode cX1_commonHubs 4 = .ok (.ifCond .eq 26, 3) := by decide +kernel
theorem dX1_commonHubs_7 : decode cX1_commonHubs 7 = .ok (.iload_n 2, 1) := by decide +kernel
theorem dX1_commonHubs_8 : decode cX1_commonHubs 8 = .ok (.invokestatic 46, 3) := by decide +kernel
theorem dX1_commonHubs_11 : decode cX1_commonHubs 11 = .ok (.ifCond .eq 19, 3) := by decide +kernel
theorem dX1_commonHubs_14 : decode cX1_commonHubs 14 = .ok (.aload_n 0, 1) := by decide +kernel
theorem dX1_commonHubs_15 : decode cX1_commonHubs 15 = .ok (.getfield 22, 3) := by decide +kernel
theorem dX1_commonHubs_18 : decode cX1_commonHubs 18 = .ok (.iload_n 1, 1) := by decide +kernel
theorem dX1_commonHubs_19 : decode cX1_commonHubs 19 = .ok (.laload, 1) := by decide +kernel
theorem dX1_commonHubs_20 : decode cX1_commonHubs 20 = .ok (.aload_n 0, 1) := by decide +kernel
theorem dX1_commonHubs_21 : decode cX1_commonHubs 21 = .ok (.getfield 22, 3) := by decide +kernel
theorem dX1_commonHubs_24 : decode cX1_commonHubs 24 = .ok (.iload_n 2, 1) := by decide +kernel
theorem dX1_commonHubs_25 : decode cX1_commonHubs 25 = .ok (.laload, 1) := by decide +kernel
theorem dX1_commonHubs_26 : decode cX1_commonHubs 26 = .ok (.land, 1) := by decide +kernel
theorem dX1_commonHubs_27 : decode cX1_commonHubs 27 = .ok (.goto 4, 3) := by decide +kernel
theorem dX1_commonHubs_30 : decode cX1_commonHubs 30 = .ok (.lconst 0, 1) := by decide +kernel
theorem dX1_commonHubs_31 : decode cX1_commonHubs 31 = .ok (.lreturn, 1) := by decide +kernel
set_option maxRecDepth 20000 in
theorem ggX1_sumThrough_X3_isRow : GoodIn wsX1_sumThrough wsX3_isRow := goodIn_r _ [4] (by decide +kernel) (by decide +kernel)
set_option maxRecDepth 20000 in
theorem gX1_sumThrough_X3_isRow_n46 : GoodIn wsX1_sumThrough (wsX3_isRow) := ggX1_sumThrough_X3_isRow
theorem dX1_sumThrough_0 : decode cX1_sumThrough 0 = .ok (.iload_n 1, 1) := by decide +kernel
theorem dX1_sumThrough_1 : decode cX1_sumThrough 1 = .ok (.invokestatic 46, 3) := by decide +kernel
theorem dX1_sumThrough_4 : decode cX1_sumThrough 4 = .ok (.ifCond .eq 17, 3) := by decide +kernel
theorem dX1_sumThrough_7 : decode cX1_sumThrough 7 = .ok (.iload_n 2, 1) := by decide +kernel
theorem dX1_sumThrough_8 : decode cX1_sumThrough 8 = .ok (.invokestatic 46, 3) := by decide +kernel
theorem dX1_sumThrough_11 : decode cX1_sumThrough 11 = .ok (.ifCond .eq 10, 3) := by decide +kernel
theorem dX1_sumThrough_14 : decode cX1_sumThrough 14 = .ok (.iload_n 3, 1) := by decide +kernel
theorem dX1_sumThrough_15 : decode cX1_sumThrough 15 = .ok (.invokestatic 46, 3) := by decide +kernel
theorem dX1_sumThrough_18 : decode cX1_sumThrough 18 = .ok (.ifCond .ne 5, 3) := by decide +kernel
theorem dX1_sumThrough_21 : decode cX1_sumThrough 21 = .ok (.iconst (-1), 1) := by decide +kernel
theorem dX1_sumThrough_22 : decode cX1_sumThrough 22 = .ok (.ireturn, 1) := by decide +kernel
theorem dX1_sumThrough_23 : decode cX1_sumThrough 23 = .ok (.aload_n 0, 1) := by decide +kernel
theorem dX1_sumThrough_24 : decode cX1_sumThrough 24 = .ok (.getfield 26, 3) := by decide +kernel
theorem dX1_sumThrough_27 : decode cX1_sumThrough 27 = .ok (.iload_n 2, 1) := by decide +kernel
theorem dX1_sumThrough_28 : decode cX1_sumThrough 28 = .ok (.bipush 48, 2) := by decide +kernel
theorem dX1_sumThrough_30 : decode cX1_sumThrough 30 = .ok (.imul, 1) := by decide +kernel
theorem dX1_sumThrough_31 : decode cX1_sumThrough 31 = .ok (.iload_n 1, 1) := by decide +kernel
theorem dX1_sumThrough_32 : decode cX1_sumThrough 32 = .ok (.iadd, 1) := by decide +kernel
theorem dX1_sumThrough_33 : decode cX1_sumThrough 33 = .ok (.iaload, 1) := by decide +kernel
theorem dX1_sumThrough_34 : decode cX1_sumThrough 34 = .ok (.aload_n 0, 1) := by decide +kernel
theorem dX1_sumThrough_35 : decode cX1_sumThrough 35 = .ok (.getfield 26, 3) := by decide +kernel
theorem dX1_sumThrough_38 : decode cX1_sumThrough 38 = .ok (.iload_n 3, 1) := by decide +kernel
theorem dX1_sumThrough_39 : decode cX1_sumThrough 39 = .ok (.bipush 48, 2) := by decide +kernel
theorem dX1_sumThrough_41 : decode cX1_sumThrough 41 = .ok (.imul, 1) := by decide +kernel
theorem dX1_sumThrough_42 : decode cX1_sumThrough 42 = .ok (.iload_n 1, 1) := by decide +kernel
theorem dX1_sumThrough_43 : decode cX1_sumThrough 43 = .ok (.iadd, 1) := by decide +kernel
theorem dX1_sumThrough_44 : decode cX1_sumThrough 44 = .ok (.iaload, 1) := by decide +kernel
theorem dX1_sumThrough_45 : decode cX1_sumThrough 45 = .ok (.iadd, 1) := by decide +kernel
theorem dX1_sumThrough_46 : decode cX1_sumThrough 46 = .ok (.ireturn, 1) := by decide +kernel
set_option maxRecDepth 20000 in
theorem ggX1_estimate_X1_meetingRank : GoodIn wsX1_estimate wsX1_meetingRank := goodIn_r _ [5, 6, 7, 8, 4, 9, 10, 11, 12, 13, 14, 15, 16, 17, 18, 19, 20, 21, 22, 23, 24, 25, 26] (by decide +kernel) (by decide +kernel)
set_option maxRecDepth 20000 in
theorem gX1_estimate_X1_meetingRank : GoodIn wsX1_estimate (wsV RX1 78 RX1 yX1_meetingRank wsX1_meetingRank) := goodIn_app (goodIn_of _ (by decide +kernel)) ggX1_estimate_X1_meetingRank
set_option maxRecDepth 20000 in
theorem ggX1_estimate_X1_sumThrough : GoodIn wsX1_estimate wsX1_sumThrough := goodIn_r _ [19, 20, 11, 12, 13, 21, 22, 23, 24, 25, 26] (by decide +kernel) (by decide +kernel)
set_option maxRecDepth 20000 in
theorem gX1_estimate_X1_sumThrough : GoodIn wsX1_estimate (wsV RX1 74 RX1 yX1_sumThrough wsX1_sumThrough) := goodIn_app (goodIn_of _ (by decide +kernel)) ggX1_estimate_X1_sumThrough
theorem dX1_estimate_0 : decode cX1_estimate 0 = .ok (.aload_n 0, 1) := by decide +kernel
theorem dX1_estimate_1 : decode cX1_estimate 1 = .ok (.iload_n 1, 1) := by decide +kernel
theorem dX1_estimate_2 : decode cX1_estimate 2 = .ok (.iload_n 2, 1) := by decide +kernel
theorem dX1_estimate_3 : decode cX1_estimate 3 = .ok (.invokevirtual 78, 3) := by decide +kernel
theorem dX1_estimate_6 : decode cX1_estimate 6 = .ok (.istore_n 3, 1) := by decide +kernel
theorem dX1_estimate_7 : decode cX1_estimate 7 = .ok (.iload_n 3, 1) := by decide +kernel
theorem dX1_estimate_8 : decode cX1_estimate 8 = .ok (.iconst (-1), 1) := by decide +kernel
theorem dX1_estimate_9 : decode cX1_estimate 9 = .ok (.if_icmp .ne 7, 3) := by decide +kernel
theorem dX1_estimate_12 : decode cX1_estimate 12 = .ok (.iconst (-1), 1) := by decide +kernel
theorem dX1_estimate_13 : decode cX1_estimate 13 = .ok (.goto 10, 3) := by decide +kernel
theorem dX1_estimate_16 : decode cX1_estimate 16 = .ok (.aload_n 0, 1) := by decide +kernel
theorem dX1_estimate_17 : decode cX1_estimate 17 = .ok (.iload_n 3, 1) := by decide +kernel
theorem dX1_estimate_18 : decode cX1_estimate 18 = .ok (.iload_n 1, 1) := by decide +kernel
theorem dX1_estimate_19 : decode cX1_estimate 19 = .ok (.iload_n 2, 1) := by decide +kernel
theorem dX1_estimate_20 : decode cX1_estimate 20 = .ok (.invokevirtual 74, 3) := by decide +kernel
theorem dX1_estimate_23 : decode cX1_estimate 23 = .ok (.ireturn, 1) := by decide +kernel
set_option maxRecDepth 20000 in
theorem ggX1_vertexOnPath_X1_meetingRank : GoodIn wsX1_vertexOnPath wsX1_meetingRank := goodIn_r _ [5, 6, 7, 8, 4, 9, 10, 11, 12, 13, 14, 15, 16, 17, 18, 19, 20, 43, 44, 45, 46, 47, 48] (by decide +kernel) (by decide +kernel)
set_option maxRecDepth 20000 in
theorem gX1_vertexOnPath_X1_meetingRank : GoodIn wsX1_vertexOnPath (wsV RX1 78 RX1 yX1_meetingRank wsX1_meetingRank) := goodIn_app (goodIn_of _ (by decide +kernel)) ggX1_vertexOnPath_X1_meetingRank
set_option maxRecDepth 20000 in
theorem ggX1_vertexOnPath_X1_stepsTo : GoodIn wsX1_vertexOnPath wsX1_stepsTo := goodIn_r _ [24, 25, 26, 27, 4, 28, 29, 11, 12, 13, 30, 31, 32, 33, 34, 35, 36, 37, 38, 10, 14, 15, 43, 44, 45, 46, 47, 48] (by decide +kernel) (by decide +kernel)
set_option maxRecDepth 20000 in
theorem gX1_vertexOnPath_X1_stepsTo : GoodIn wsX1_vertexOnPath (wsV RX1 82 RX1 yX1_stepsTo wsX1_stepsTo) := goodIn_app (goodIn_of _ (by decide +kernel)) ggX1_vertexOnPath_X1_stepsTo
set_option maxRecDepth 20000 in
theorem ggX1_vertexOnPath_X1_climb : GoodIn wsX1_vertexOnPath wsX1_climb := goodIn_r _ [42, 30, 31, 32, 4, 33, 34, 35, 36, 37, 38, 10, 11, 12, 13, 14, 15, 43, 44, 45, 46, 47, 48] (by decide +kernel) (by decide +kernel)
set_option maxRecDepth 20000 in
theorem gX1_vertexOnPath_X1_climb : GoodIn wsX1_vertexOnPath (wsV RX1 85 RX1 yX1_climb wsX1_climb) := goodIn_app (goodIn_of _ (by decide +kernel)) ggX1_vertexOnPath_X1_climb
theorem dX1_vertexOnPath_0 : decode cX1_vertexOnPath 0 = .ok (.aload_n 0, 1) := by decide +kernel
theorem dX1_vertexOnPath_1 : decode cX1_vertexOnPath 1 = .ok (.iload_n 1, 1) := by decide +kernel
theorem dX1_vertexOnPath_2 : decode cX1_vertexOnPath 2 = .ok (.iload_n 2, 1) := by decide +kernel
theorem dX1_vertexOnPath_3 : decode cX1_vertexOnPath 3 = .ok (.invokevirtual 78, 3) := by decide +kernel
theorem dX1_vertexOnPath_6 : decode cX1_vertexOnPath 6 = .ok (.istore 4, 2) := by decide +kernel
theorem dX1_vertexOnPath_8 : decode cX1_vertexOnPath 8 = .ok (.iload 4, 2) := by decide +kernel
theorem dX1_vertexOnPath_10 : decode cX1_vertexOnPath 10 = .ok (.iconst (-1), 1) := by decide +kernel
theorem dX1_vertexOnPath_11 : decode cX1_vertexOnPath 11 = .ok (.if_icmp .ne 5, 3) := by decide +kernel
theorem dX1_vertexOnPath_14 : decode cX1_vertexOnPath 14 = .ok (.iconst (-1), 1) := by decide +kernel
theorem dX1_vertexOnPath_15 : decode cX1_vertexOnPath 15 = .ok (.ireturn, 1) := by decide +kernel
theorem dX1_vertexOnPath_16 : decode cX1_vertexOnPath 16 = .ok (.aload_n 0, 1) := by decide +kernel
theorem dX1_vertexOnPath_17 : decode cX1_vertexOnPath 17 = .ok (.iload 4, 2) := by decide +kernel
theorem dX1_vertexOnPath_19 : decode cX1_vertexOnPath 19 = .ok (.iload_n 1, 1) := by decide +kernel
theorem dX1_vertexOnPath_20 : decode cX1_vertexOnPath 20 = .ok (.invokevirtual 82, 3) := by decide +kernel
theorem dX1_vertexOnPath_23 : decode cX1_vertexOnPath 23 = .ok (.istore 5, 2) := by decide +kernel
theorem dX1_vertexOnPath_25 : decode cX1_vertexOnPath 25 = .ok (.aload_n 0, 1) := by decide +kernel
theorem dX1_vertexOnPath_26 : decode cX1_vertexOnPath 26 = .ok (.iload 4, 2) := by decide +kernel
theorem dX1_vertexOnPath_28 : decode cX1_vertexOnPath 28 = .ok (.iload_n 2, 1) := by decide +kernel
theorem dX1_vertexOnPath_29 : decode cX1_vertexOnPath 29 = .ok (.invokevirtual 82, 3) := by decide +kernel
theorem dX1_vertexOnPath_32 : decode cX1_vertexOnPath 32 = .ok (.istore 6, 2) := by decide +kernel
theorem dX1_vertexOnPath_34 : decode cX1_vertexOnPath 34 = .ok (.iload_n 3, 1) := by decide +kernel
theorem dX1_vertexOnPath_35 : decode cX1_vertexOnPath 35 = .ok (.iload 5, 2) := by decide +kernel
theorem dX1_vertexOnPath_37 : decode cX1_vertexOnPath 37 = .ok (.iload 6, 2) := by decide +kernel
theorem dX1_vertexOnPath_39 : decode cX1_vertexOnPath 39 = .ok (.iadd, 1) := by decide +kernel
theorem dX1_vertexOnPath_40 : decode cX1_vertexOnPath 40 = .ok (.if_icmp .le 5, 3) := by decide +kernel
theorem dX1_vertexOnPath_43 : decode cX1_vertexOnPath 43 = .ok (.iconst (-1), 1) := by decide +kernel
theorem dX1_vertexOnPath_44 : decode cX1_vertexOnPath 44 = .ok (.ireturn, 1) := by decide +kernel
theorem dX1_vertexOnPath_45 : decode cX1_vertexOnPath 45 = .ok (.iload_n 3, 1) := by decide +kernel
theorem dX1_vertexOnPath_46 : decode cX1_vertexOnPath 46 = .ok (.iload 5, 2) := by decide +kernel
theorem dX1_vertexOnPath_48 : decode cX1_vertexOnPath 48 = .ok (.if_icmp .gt 14, 3) := by decide +kernel
theorem dX1_vertexOnPath_51 : decode cX1_vertexOnPath 51 = .ok (.aload_n 0, 1) := by decide +kernel
theorem dX1_vertexOnPath_52 : decode cX1_vertexOnPath 52 = .ok (.iload 4, 2) := by decide +kernel
theorem dX1_vertexOnPath_54 : decode cX1_vertexOnPath 54 = .ok (.iload_n 1, 1) := by decide +kernel
theorem dX1_vertexOnPath_55 : decode cX1_vertexOnPath 55 = .ok (.iload_n 3, 1) := by decide +kernel
theorem dX1_vertexOnPath_56 : decode cX1_vertexOnPath 56 = .ok (.invokevirtual 85, 3) := by decide +kernel
theorem dX1_vertexOnPath_59 : decode cX1_vertexOnPath 59 = .ok (.goto 17, 3) := by decide +kernel
theorem dX1_vertexOnPath_62 : decode cX1_vertexOnPath 62 = .ok (.aload_n 0, 1) := by decide +kernel
theorem dX1_vertexOnPath_63 : decode cX1_vertexOnPath 63 = .ok (.iload 4, 2) := by decide +kernel
theorem dX1_vertexOnPath_65 : decode cX1_vertexOnPath 65 = .ok (.iload_n 2, 1) := by decide +kernel
theorem dX1_vertexOnPath_66 : decode cX1_vertexOnPath 66 = .ok (.iload 5, 2) := by decide +kernel
theorem dX1_vertexOnPath_68 : decode cX1_vertexOnPath 68 = .ok (.iload 6, 2) := by decide +kernel
theorem dX1_vertexOnPath_70 : decode cX1_vertexOnPath 70 = .ok (.iadd, 1) := by decide +kernel
theorem dX1_vertexOnPath_71 : decode cX1_vertexOnPath 71 = .ok (.iload_n 3, 1) := by decide +kernel
theorem dX1_vertexOnPath_72 : decode cX1_vertexOnPath 72 = .ok (.isub, 1) := by decide +kernel
theorem dX1_vertexOnPath_73 : decode cX1_vertexOnPath 73 = .ok (.invokevirtual 85, 3) := by decide +kernel
theorem dX1_vertexOnPath_76 : decode cX1_vertexOnPath 76 = .ok (.ireturn, 1) := by decide +kernel
set_option maxRecDepth 20000 in
theorem ggX1_stepsTo_X1_vertexOf : GoodIn wsX1_stepsTo wsX1_vertexOf := goodIn_r _ [5, 6, 7, 8, 9, 22, 23, 24, 25, 26, 27] (by decide +kernel) (by decide +kernel)
set_option maxRecDepth 20000 in
theorem gX1_stepsTo_X1_vertexOf : GoodIn wsX1_stepsTo (wsV RX1 67 RX1 yX1_vertexOf wsX1_vertexOf) := goodIn_app (goodIn_of _ (by decide +kernel)) ggX1_stepsTo_X1_vertexOf
set_option maxRecDepth 20000 in
theorem ggX1_stepsTo_X1_parentTowards : GoodIn wsX1_stepsTo wsX1_parentTowards := goodIn_r _ [13, 14, 15, 16, 17, 4, 18, 19, 7, 8, 9, 20, 21, 22, 23, 24, 25, 26, 27] (by decide +kernel) (by decide +kernel)
set_option maxRecDepth 20000 in
theorem gX1_stepsTo_X1_parentTowards : GoodIn wsX1_stepsTo (wsV RX1 88 RX1 yX1_parentTowards wsX1_parentTowards) := goodIn_app (goodIn_of _ (by decide +kernel)) ggX1_stepsTo_X1_parentTowards
theorem dX1_stepsTo_0 : decode cX1_stepsTo 0 = .ok (.aload_n 0, 1) := by decide +kernel
theorem dX1_stepsTo_1 : decode cX1_stepsTo 1 = .ok (.iload_n 1, 1) := by decide +kernel
theorem dX1_stepsTo_2 : decode cX1_stepsTo 2 = .ok (.invokevirtual 67, 3) := by decide +kernel
theorem dX1_stepsTo_5 : decode cX1_stepsTo 5 = .ok (.istore_n 3, 1) := by decide +kernel
theorem dX1_stepsTo_6 : decode cX1_stepsTo 6 = .ok (.iconst 0, 1) := by decide +kernel
theorem dX1_stepsTo_7 : decode cX1_stepsTo 7 = .ok (.istore 4, 2) := by decide +kernel
theorem dX1_stepsTo_9 : decode cX1_stepsTo 9 = .ok (.iload_n 2, 1) := by decide +kernel
theorem dX1_stepsTo_10 : decode cX1_stepsTo 10 = .ok (.istore 5, 2) := by decide +kernel
theorem dX1_stepsTo_12 : decode cX1_stepsTo 12 = .ok (.iload 5, 2) := by decide +kernel
theorem dX1_stepsTo_14 : decode cX1_stepsTo 14 = .ok (.iload_n 3, 1) := by decide +kernel
theorem dX1_stepsTo_15 : decode cX1_stepsTo 15 = .ok (.if_icmp .eq 25, 3) := by decide +kernel
theorem dX1_stepsTo_18 : decode cX1_stepsTo 18 = .ok (.iload 4, 2) := by decide +kernel
theorem dX1_stepsTo_20 : decode cX1_stepsTo 20 = .ok (.bipush 48, 2) := by decide +kernel
theorem dX1_stepsTo_22 : decode cX1_stepsTo 22 = .ok (.if_icmp .ge 18, 3) := by decide +kernel
theorem dX1_stepsTo_25 : decode cX1_stepsTo 25 = .ok (.aload_n 0, 1) := by decide +kernel
theorem dX1_stepsTo_26 : decode cX1_stepsTo 26 = .ok (.iload_n 1, 1) := by decide +kernel
theorem dX1_stepsTo_27 : decode cX1_stepsTo 27 = .ok (.iload 5, 2) := by decide +kernel
theorem dX1_stepsTo_29 : decode cX1_stepsTo 29 = .ok (.invokevirtual 88, 3) := by decide +kernel
theorem dX1_stepsTo_32 : decode cX1_stepsTo 32 = .ok (.istore 5, 2) := by decide +kernel
theorem dX1_stepsTo_34 : decode cX1_stepsTo 34 = .ok (.iinc 4 1, 3) := by decide +kernel
theorem dX1_stepsTo_37 : decode cX1_stepsTo 37 = .ok (.goto (-25), 3) := by decide +kernel
theorem dX1_stepsTo_40 : decode cX1_stepsTo 40 = .ok (.iload 4, 2) := by decide +kernel
theorem dX1_stepsTo_42 : decode cX1_stepsTo 42 = .ok (.ireturn, 1) := by decide +kernel
set_option maxRecDepth 20000 in
theorem ggX1_climb_X1_parentTowards : GoodIn wsX1_climb wsX1_parentTowards := goodIn_r _ [5, 6, 7, 8, 9, 4, 10, 11, 12, 13, 14, 15, 16, 17, 18, 19, 20, 21, 22] (by decide +kernel) (by decide +kernel)
set_option maxRecDepth 20000 in
theorem gX1_climb_X1_parentTowards : GoodIn wsX1_climb (wsV RX1 88 RX1 yX1_parentTowards wsX1_parentTowards) := goodIn_app (goodIn_of _ (by decide +kernel)) ggX1_climb_X1_parentTowards
theorem dX1_climb_0 : decode cX1_climb 0 = .ok (.iload_n 2, 1) := by decide +kernel
theorem dX1_climb_1 : decode cX1_climb 1 = .ok (.istore 4, 2) := by decide +kernel
theorem dX1_climb_3 : decode cX1_climb 3 = .ok (.iconst 0, 1) := by decide +kernel
theorem dX1_climb_4 : decode cX1_climb 4 = .ok (.istore 5, 2) := by decide +kernel
theorem dX1_climb_6 : decode cX1_climb 6 = .ok (.iload 5, 2) := by decide +kernel
theorem dX1_climb_8 : decode cX1_climb 8 = .ok (.iload_n 3, 1) := by decide +kernel
theorem dX1_climb_9 : decode cX1_climb 9 = .ok (.if_icmp .ge 25, 3) := by decide +kernel
theorem dX1_climb_12 : decode cX1_climb 12 = .ok (.iload 5, 2) := by decide +kernel
theorem dX1_climb_14 : decode cX1_climb 14 = .ok (.bipush 48, 2) := by decide +kernel
theorem dX1_climb_16 : decode cX1_climb 16 = .ok (.if_icmp .ge 18, 3) := by decide +kernel
theorem dX1_climb_19 : decode cX1_climb 19 = .ok (.aload_n 0, 1) := by decide +kernel
theorem dX1_climb_20 : decode cX1_climb 20 = .ok (.iload_n 1, 1) := by decide +kernel
theorem dX1_climb_21 : decode cX1_climb 21 = .ok (.iload 4, 2) := by decide +kernel
theorem dX1_climb_23 : decode cX1_climb 23 = .ok (.invokevirtual 88, 3) := by decide +kernel
theorem dX1_climb_26 : decode cX1_climb 26 = .ok (.istore 4, 2) := by decide +kernel
theorem dX1_climb_28 : decode cX1_climb 28 = .ok (.iinc 5 1, 3) := by decide +kernel
theorem dX1_climb_31 : decode cX1_climb 31 = .ok (.goto (-25), 3) := by decide +kernel
theorem dX1_climb_34 : decode cX1_climb 34 = .ok (.iload 4, 2) := by decide +kernel
theorem dX1_climb_36 : decode cX1_climb 36 = .ok (.ireturn, 1) := by decide +kernel
theorem dX2_init_0 : decode cX2_init 0 = .ok (.aload_n 0, 1) := by decide +kernel
theorem dX2_init_1 : decode cX2_init 1 = .ok (.invokespecial 3, 3) := by decide +kernel
theorem dX2_init_4 : decode cX2_init 4 = .ok (.aload_n 0, 1) := by decide +kernel
theorem dX2_init_5 : decode cX2_init 5 = .ok (.aload_n 1, 1) := by decide +kernel
theorem dX2_init_6 : decode cX2_init 6 = .ok (.putfield 9, 3) := by decide +kernel
theorem dX2_init_9 : decode cX2_init 9 = .ok (.aload_n 0, 1) := by decide +kernel
theorem dX2_init_10 : decode cX2_init 10 = .ok (.aload_n 2, 1) := by decide +kernel
theorem dX2_init_11 : decode cX2_init 11 = .ok (.putfield 15, 3) := by decide +kernel
theorem dX2_init_14 : decode cX2_init 14 = .ok (.aload_n 0, 1) := by decide +kernel
theorem dX2_init_15 : decode cX2_init 15 = .ok (.bipush 48, 2) := by decide +kernel
theorem dX2_init_17 : decode cX2_init 17 = .ok (.newarray .int, 2) := by decide +kernel
theorem dX2_init_19 : decode cX2_init 19 = .ok (.putfield 19, 3) := by decide +kernel
theorem dX2_init_22 : decode cX2_init 22 = .ok (.aload_n 0, 1) := by decide +kernel
theorem dX2_init_23 : decode cX2_init 23 = .ok (.bipush 48, 2) := by decide +kernel
theorem dX2_init_25 : decode cX2_init 25 = .ok (.newarray .int, 2) := by decide +kernel
theorem dX2_init_27 : decode cX2_init 27 = .ok (.putfield 23, 3) := by decide +kernel
theorem dX2_init_30 : decode cX2_init 30 = .ok (.aload_n 0, 1) := by decide +kernel
theorem dX2_init_31 : decode cX2_init 31 = .ok (.bipush 48, 2) := by decide +kernel
theorem dX2_init_33 : decode cX2_init 33 = .ok (.newarray .int, 2) := by decide +kernel
theorem dX2_init_35 : decode cX2_init 35 = .ok (.putfield 26, 3) := by decide +kernel
theorem dX2_init_38 : decode cX2_init 38 = .ok (.aload_n 0, 1) := by decide +kernel
theorem dX2_init_39 : decode cX2_init 39 = .ok (.iconst 0, 1) := by decide +kernel
theorem dX2_init_40 : decode cX2_init 40 = .ok (.putfield 29, 3) := by decide +kernel
theorem dX2_init_43 : decode cX2_init 43 = .ok (.aload_n 0, 1) := by decide +kernel
theorem dX2_init_44 : decode cX2_init 44 = .ok (.lconst 0, 1) := by decide +kernel
theorem dX2_init_45 : decode cX2_init 45 = .ok (.putfield 33, 3) := by decide +kernel
theorem dX2_init_48 : decode cX2_init 48 = .ok (.aload_n 0, 1) := by decide +kernel
theorem dX2_init_49 : decode cX2_init 49 = .ok (.iconst 0, 1) := by decide +kernel
theorem dX2_init_50 : decode cX2_init 50 = .ok (.putfield 37, 3) := by decide +kernel
theorem dX2_init_53 : decode cX2_init 53 = .ok (.aload_n 0, 1) := by decide +kernel
theorem dX2_init_54 : decode cX2_init 54 = .ok (.iconst 0, 1) := by decide +kernel
theorem dX2_init_55 : decode cX2_init 55 = .ok (.putfield 40, 3) := by decide +kernel
theorem dX2_init_58 : decode cX2_init 58 = .ok (.aload_n 0, 1) := by decide +kernel
theorem dX2_init_59 : decode cX2_init 59 = .ok (.iconst 0, 1) := by decide +kernel
theorem dX2_init_60 : decode cX2_init 60 = .ok (.putfield 43, 3) := by decide +kernel
theorem dX2_init_63 : decode cX2_init 63 = .ok (.return_, 1) := by decide +kernel
theorem dX2_forgetCounts_0 : decode cX2_forgetCounts 0 = .ok (.aload_n 0, 1) := by decide +kernel
theorem dX2_forgetCounts_1 : decode cX2_forgetCounts 1 = .ok (.iconst 0, 1) := by decide +kernel
theorem dX2_forgetCounts_2 : decode cX2_forgetCounts 2 = .ok (.putfield 37, 3) := by decide +kernel
theorem dX2_forgetCounts_5 : decode cX2_forgetCounts 5 = .ok (.aload_n 0, 1) := by decide +kernel
theorem dX2_forgetCounts_6 : decode cX2_forgetCounts 6 = .ok (.iconst 0, 1) := by decide +kernel
theorem dX2_forgetCounts_7 : decode cX2_forgetCounts 7 = .ok (.putfield 40, 3) := by decide +kernel
theorem dX2_forgetCounts_10 : decode cX2_forgetCounts 10 = .ok (.aload_n 0, 1) := by decide +kernel
theorem dX2_forgetCounts_11 : decode cX2_forgetCounts 11 = .ok (.iconst 0, 1) := by decide +kernel
theorem dX2_forgetCounts_12 : decode cX2_forgetCounts 12 = .ok (.putfield 43, 3) := by decide +kernel
theorem dX2_forgetCounts_15 : decode cX2_forgetCounts 15 = .ok (.return_, 1) := by decide +kernel
theorem dX2_countOfPruned_0 : decode cX2_countOfPruned 0 = .ok (.aload_n 0, 1) := by decide +kernel
theorem dX2_countOfPruned_1 : decode cX2_countOfPruned 1 = .ok (.getfield 40, 3) := by decide +kernel
theorem dX2_countOfPruned_4 : decode cX2_countOfPruned 4 = .ok (.ireturn, 1) := by decide +kernel
theorem dX2_countOfWritten_0 : decode cX2_countOfWritten 0 = .ok (.aload_n 0, 1) := by decide +kernel
theorem dX2_countOfWritten_1 : decode cX2_countOfWritten 1 = .ok (.getfield 43, 3) := by decide +kernel
theorem dX2_countOfWritten_4 : decode cX2_countOfWritten 4 = .ok (.ireturn, 1) := by decide +kernel
set_option maxRecDepth 20000 in
theorem ggX2_labelAll_X2_forgetCounts : GoodIn wsX2_labelAll wsX2_forgetCounts := goodIn_r _ [8, 3, 9, 10, 98, 99, 100, 101, 102, 103, 104, 105, 106, 107] (by decide +kernel) (by decide +kernel)
set_option maxRecDepth 20000 in
theorem gX2_labelAll_X2_forgetCounts : GoodIn wsX2_labelAll (wsV RX2 46 RX2 yX2_forgetCounts wsX2_forgetCounts) := goodIn_app (goodIn_of _ (by decide +kernel)) ggX2_labelAll_X2_forgetCounts
set_option maxRecDepth 20000 in
theorem ggX2_labelAll_X1_forget : GoodIn wsX2_labelAll wsX1_forget := goodIn_r _ [15, 16, 17, 108, 109, 110, 111, 112, 113] (by decide +kernel) (by decide +kernel)
set_option maxRecDepth 20000 in
theorem gX2_labelAll_X1_forget : GoodIn wsX2_labelAll (wsV RX2 49 RX1 yX1_forget wsX1_forget) := goodIn_app (goodIn_of _ (by decide +kernel)) ggX2_labelAll_X1_forget
set_option maxRecDepth 20000 in
theorem ggX2_labelAll_X1_rankAll : GoodIn wsX2_labelAll wsX1_rankAll := goodIn_r _ [21, 22, 23, 24, 25, 26, 27, 28, 29, 30, 31, 32, 33, 34, 35, 36, 37, 38, 39, 40, 41, 42, 43, 44, 45, 46, 47, 48, 49, 14, 50, 16, 51, 52, 114, 115, 116, 108, 109, 110, 111, 112, 113] (by decide +kernel) (by decide +kernel)
set_option maxRecDepth 20000 in
theorem gX2_labelAll_X1_rankAll : GoodIn wsX2_labelAll (wsV RX2 54 RX1 yX1_rankAll wsX1_rankAll) := goodIn_app (goodIn_of _ (by decide +kernel)) ggX2_labelAll_X1_rankAll
set_option maxRecDepth 20000 in
theorem ggX2_labelAll_X0_size : GoodIn wsX2_labelAll wsX0_size := goodIn_r _ [26, 27, 114, 115, 116] (by decide +kernel) (by decide +kernel)
set_option maxRecDepth 20000 in
theorem gX2_labelAll_X0_size : GoodIn wsX2_labelAll (wsV RX2 58 RX0 yX0_size wsX0_size) := goodIn_app (goodIn_of _ (by decide +kernel)) ggX2_labelAll_X0_size
set_option maxRecDepth 20000 in
theorem ggX2_labelAll_X1_vertexOf : GoodIn wsX2_labelAll wsX1_vertexOf := goodIn_r _ [57, 52, 37, 38, 39, 108, 109, 110, 111, 112, 113] (by decide +kernel) (by decide +kernel)
set_option maxRecDepth 20000 in
theorem gX2_labelAll_X1_vertexOf : GoodIn wsX2_labelAll (wsV RX2 64 RX1 yX1_vertexOf wsX1_vertexOf) := goodIn_app (goodIn_of _ (by decide +kernel)) ggX2_labelAll_X1_vertexOf
set_option maxRecDepth 20000 in
theorem ggX2_labelAll_X2_search : GoodIn wsX2_labelAll wsX2_search := goodIn_r _ [61, 62, 63, 64, 65, 66, 67, 68, 69, 7, 70, 37, 38, 39, 71, 72, 73, 74, 3, 1, 9, 10, 2, 75, 76, 77, 78, 14, 79, 80, 55, 56, 57, 52, 81, 82, 83, 84, 17, 85, 86, 87, 88, 89, 90, 91, 92, 93, 94, 95, 96, 97, 33, 34, 25, 35, 36, 53, 23, 24, 26, 27, 98, 99, 100, 101, 102, 103, 104, 105, 106, 107, 108, 109, 110, 111, 112, 113, 114, 115, 116] (by decide +kernel) (by decide +kernel)
set_option maxRecDepth 20000 in
theorem gX2_labelAll_X2_search : GoodIn wsX2_labelAll (wsV RX2 68 RX2 yX2_search wsX2_search) := goodIn_app (goodIn_of _ (by decide +kernel)) ggX2_labelAll_X2_search
theorem dX2_labelAll_0 : decode cX2_labelAll 0 = .ok (.aload_n 0, 1) := by decide +kernel
theorem dX2_labelAll_1 : decode cX2_labelAll 1 = .ok (.invokevirtual 46, 3) := by decide +kernel
theorem dX2_labelAll_4 : decode cX2_labelAll 4 = .ok (.aload_n 0, 1) := by decide +kernel
theorem dX2_labelAll_5 : decode cX2_labelAll 5 = .ok (.getfield 15, 3) := by decide +kernel
theorem dX2_labelAll_8 : decode cX2_labelAll 8 = .ok (.invokevirtual 49, 3) := by decide +kernel
theorem dX2_labelAll_11 : decode cX2_labelAll 11 = .ok (.aload_n 0, 1) := by decide +kernel
theorem dX2_labelAll_12 : decode cX2_labelAll 12 = .ok (.getfield 15, 3) := by decide +kernel
theorem dX2_labelAll_15 : decode cX2_labelAll 15 = .ok (.aload_n 0, 1) := by decide +kernel
theorem dX2_labelAll_16 : decode cX2_labelAll 16 = .ok (.getfield 9, 3) := by decide +kernel
theorem dX2_labelAll_19 : decode cX2_labelAll 19 = .ok (.invokevirtual 54, 3) := by decide +kernel
theorem dX2_labelAll_22 : decode cX2_labelAll 22 = .ok (.iconst 0, 1) := by decide +kernel
theorem dX2_labelAll_23 : decode cX2_labelAll 23 = .ok (.istore_n 1, 1) := by decide +kernel
theorem dX2_labelAll_24 : decode cX2_labelAll 24 = .ok (.iload_n 1, 1) := by decide +kernel
theorem dX2_labelAll_25 : decode cX2_labelAll 25 = .ok (.aload_n 0, 1) := by decide +kernel
theorem dX2_labelAll_26 : decode cX2_labelAll 26 = .ok (.getfield 9, 3) := by decide +kernel
theorem dX2_labelAll_29 : decode cX2_labelAll 29 = .ok (.invokevirtual 58, 3) := by decide +kernel
theorem dX2_labelAll_32 : decode cX2_labelAll 32 = .ok (.if_icmp .ge 24, 3) := by decide +kernel
theorem dX2_labelAll_35 : decode cX2_labelAll 35 = .ok (.aload_n 0, 1) := by decide +kernel
theorem dX2_labelAll_36 : decode cX2_labelAll 36 = .ok (.iload_n 1, 1) := by decide +kernel
theorem dX2_labelAll_37 : decode cX2_labelAll 37 = .ok (.aload_n 0, 1) := by decide +kernel
theorem dX2_labelAll_38 : decode cX2_labelAll 38 = .ok (.getfield 15, 3) := by decide +kernel
theorem dX2_labelAll_41 : decode cX2_labelAll 41 = .ok (.iload_n 1, 1) := by decide +kernel
theorem dX2_labelAll_42 : decode cX2_labelAll 42 = .ok (.invokevirtual 64, 3) := by decide +kernel
theorem dX2_labelAll_45 : decode cX2_labelAll 45 = .ok (.iconst 0, 1) := by decide +kernel
theorem dX2_labelAll_46 : decode cX2_labelAll 46 = .ok (.iconst (-1), 1) := by decide +kernel
theorem dX2_labelAll_47 : decode cX2_labelAll 47 = .ok (.invokevirtual 68, 3) := by decide +kernel
theorem dX2_labelAll_50 : decode cX2_labelAll 50 = .ok (.iinc 1 1, 3) := by decide +kernel
theorem dX2_labelAll_53 : decode cX2_labelAll 53 = .ok (.goto (-29), 3) := by decide +kernel
theorem dX2_labelAll_56 : decode cX2_labelAll 56 = .ok (.aload_n 0, 1) := by decide +kernel
theorem dX2_labelAll_57 : decode cX2_labelAll 57 = .ok (.getfield 37, 3) := by decide +kernel
theorem dX2_labelAll_60 : decode cX2_labelAll 60 = .ok (.ireturn, 1) := by decide +kernel
set_option maxRecDepth 20000 in
theorem ggX2_extend_X2_forgetCounts : GoodIn wsX2_extend wsX2_forgetCounts := goodIn_r _ [8, 3, 9, 10, 78, 79, 80, 81, 82, 83, 84, 85, 86, 87] (by decide +kernel) (by decide +kernel)
set_option maxRecDepth 20000 in
theorem gX2_extend_X2_forgetCounts : GoodIn wsX2_extend (wsV RX2 46 RX2 yX2_forgetCounts wsX2_forgetCounts) := goodIn_app (goodIn_of _ (by decide +kernel)) ggX2_extend_X2_forgetCounts
set_option maxRecDepth 20000 in
theorem ggX2_extend_X0_size : GoodIn wsX2_extend wsX0_size := goodIn_r _ [15, 16, 88, 89, 90] (by decide +kernel) (by decide +kernel)
set_option maxRecDepth 20000 in
theorem gX2_extend_X0_size : GoodIn wsX2_extend (wsV RX2 58 RX0 yX0_size wsX0_size) := goodIn_app (goodIn_of _ (by decide +kernel)) ggX2_extend_X0_size
set_option maxRecDepth 20000 in
theorem ggX2_extend_X1_distanceTo : GoodIn wsX2_extend wsX1_distanceTo := goodIn_r _ [21, 22, 23, 24, 25, 20, 26, 27, 28, 29, 30, 31, 32, 91, 92, 93, 94, 95, 96] (by decide +kernel) (by decide +kernel)
set_option maxRecDepth 20000 in
theorem gX2_extend_X1_distanceTo : GoodIn wsX2_extend (wsV RX2 72 RX1 yX1_distanceTo wsX1_distanceTo) := goodIn_app (goodIn_of _ (by decide +kernel)) ggX2_extend_X1_distanceTo
set_option maxRecDepth 20000 in
theorem ggX2_extend_X2_search : GoodIn wsX2_extend wsX2_search := goodIn_r _ [36, 37, 38, 39, 40, 41, 42, 43, 44, 7, 45, 28, 29, 30, 46, 47, 48, 49, 3, 2, 9, 10, 1, 50, 51, 52, 53, 20, 54, 55, 56, 57, 58, 59, 60, 61, 62, 63, 27, 31, 32, 64, 65, 66, 67, 22, 68, 69, 70, 71, 72, 73, 74, 75, 14, 76, 77, 11, 12, 13, 15, 16, 78, 79, 80, 81, 82, 83, 84, 85, 86, 87, 91, 92, 93, 94, 95, 96, 88, 89, 90] (by decide +kernel) (by decide +kernel)
set_option maxRecDepth 20000 in
theorem gX2_extend_X2_search : GoodIn wsX2_extend (wsV RX2 68 RX2 yX2_search wsX2_search) := goodIn_app (goodIn_of _ (by decide +kernel)) ggX2_extend_X2_search
theorem dX2_extend_0 : decode cX2_extend 0 = .ok (.aload_n 0, 1) := by decide +kernel
theorem dX2_extend_1 : decode cX2_extend 1 = .ok (.invokevirtual 46, 3) := by decide +kernel
theorem dX2_extend_4 : decode cX2_extend 4 = .ok (.iconst 0, 1) := by decide +kernel
theorem dX2_extend_5 : decode cX2_extend 5 = .ok (.istore_n 3, 1) := by decide +kernel
theorem dX2_extend_6 : decode cX2_extend 6 = .ok (.iload_n 3, 1) := by decide +kernel
theorem dX2_extend_7 : decode cX2_extend 7 = .ok (.aload_n 0, 1) := by decide +kernel
theorem dX2_extend_8 : decode cX2_extend 8 = .ok (.getfield 9, 3) := by decide +kernel
theorem dX2_extend_11 : decode cX2_extend 11 = .ok (.invokevirtual 58, 3) := by decide +kernel
theorem dX2_extend_14 : decode cX2_extend 14 = .ok (.if_icmp .ge 65, 3) := by decide +kernel
theorem dX2_extend_17 : decode cX2_extend 17 = .ok (.aload_n 0, 1) := by decide +kernel
theorem dX2_extend_18 : decode cX2_extend 18 = .ok (.getfield 15, 3) := by decide +kernel
theorem dX2_extend_21 : decode cX2_extend 21 = .ok (.iload_n 3, 1) := by decide +kernel
theorem dX2_extend_22 : decode cX2_extend 22 = .ok (.iload_n 1, 1) := by decide +kernel
theorem dX2_extend_23 : decode cX2_extend 23 = .ok (.invokevirtual 72, 3) := by decide +kernel
theorem dX2_extend_26 : decode cX2_extend 26 = .ok (.istore 4, 2) := by decide +kernel
theorem dX2_extend_28 : decode cX2_extend 28 = .ok (.aload_n 0, 1) := by decide +kernel
theorem dX2_extend_29 : decode cX2_extend 29 = .ok (.getfield 15, 3) := by decide +kernel
theorem dX2_extend_32 : decode cX2_extend 32 = .ok (.iload_n 3, 1) := by decide +kernel
theorem dX2_extend_33 : decode cX2_extend 33 = .ok (.iload_n 2, 1) := by decide +kernel
theorem dX2_extend_34 : decode cX2_extend 34 = .ok (.invokevirtual 72, 3) := by decide +kernel
theorem dX2_extend_37 : decode cX2_extend 37 = .ok (.istore 5, 2) := by decide +kernel
theorem dX2_extend_39 : decode cX2_extend 39 = .ok (.iload 4, 2) := by decide +kernel
theorem dX2_extend_41 : decode cX2_extend 41 = .ok (.iconst (-1), 1) := by decide +kernel
theorem dX2_extend_42 : decode cX2_extend 42 = .ok (.if_icmp .eq 14, 3) := by decide +kernel
theorem dX2_extend_45 : decode cX2_extend 45 = .ok (.aload_n 0, 1) := by decide +kernel
theorem dX2_extend_46 : decode cX2_extend 46 = .ok (.iload_n 3, 1) := by decide +kernel
theorem dX2_extend_47 : decode cX2_extend 47 = .ok (.iload_n 2, 1) := by decide +kernel
theorem dX2_extend_48 : decode cX2_extend 48 = .ok (.iload 4, 2) := by decide +kernel
theorem dX2_extend_50 : decode cX2_extend 50 = .ok (.iconst 1, 1) := by decide +kernel
theorem dX2_extend_51 : decode cX2_extend 51 = .ok (.iadd, 1) := by decide +kernel
theorem dX2_extend_52 : decode cX2_extend 52 = .ok (.iload_n 1, 1) := by decide +kernel
theorem dX2_extend_53 : decode cX2_extend 53 = .ok (.invokevirtual 68, 3) := by decide +kernel
theorem dX2_extend_56 : decode cX2_extend 56 = .ok (.iload 5, 2) := by decide +kernel
theorem dX2_extend_58 : decode cX2_extend 58 = .ok (.iconst (-1), 1) := by decide +kernel
theorem dX2_extend_59 : decode cX2_extend 59 = .ok (.if_icmp .eq 14, 3) := by decide +kernel
theorem dX2_extend_62 : decode cX2_extend 62 = .ok (.aload_n 0, 1) := by decide +kernel
theorem dX2_extend_63 : decode cX2_extend 63 = .ok (.iload_n 3, 1) := by decide +kernel
theorem dX2_extend_64 : decode cX2_extend 64 = .ok (.iload_n 1, 1) := by decide +kernel
theorem dX2_extend_65 : decode cX2_extend 65 = .ok (.iload 5, 2) := by decide +kernel
theorem dX2_extend_67 : decode cX2_extend 67 = .ok (.iconst 1, 1) := by decide +kernel
theorem dX2_extend_68 : decode cX2_extend 68 = .ok (.iadd, 1) := by decide +kernel
theorem dX2_extend_69 : decode cX2_extend 69 = .ok (.iload_n 2, 1) := by decide +kernel
theorem dX2_extend_70 : decode cX2_extend 70 = .ok (.invokevirtual 68, 3) := by decide +kernel
theorem dX2_extend_73 : decode cX2_extend 73 = .ok (.iinc 3 1, 3) := by decide +kernel
theorem dX2_extend_76 : decode cX2_extend 76 = .ok (.goto (-70), 3) := by decide +kernel
theorem dX2_extend_79 : decode cX2_extend 79 = .ok (.aload_n 0, 1) := by decide +kernel
theorem dX2_extend_80 : decode cX2_extend 80 = .ok (.getfield 37, 3) := by decide +kernel
theorem dX2_extend_83 : decode cX2_extend 83 = .ok (.ireturn, 1) := by decide +kernel
set_option maxRecDepth 20000 in
theorem ggX2_search_X2_enqueue : GoodIn wsX2_search wsX2_enqueue := goodIn_r _ [10, 1, 2, 3, 4, 5, 11, 12, 13, 62, 63, 64, 65, 66, 67, 68, 69, 70, 71] (by decide +kernel) (by decide +kernel)
set_option maxRecDepth 20000 in
theorem gX2_search_X2_enqueue : GoodIn wsX2_search (wsV RX2 76 RX2 yX2_enqueue wsX2_enqueue) := goodIn_app (goodIn_of _ (by decide +kernel)) ggX2_search_X2_enqueue
set_option maxRecDepth 20000 in
theorem ggX2_search_X2_visit : GoodIn wsX2_search wsX2_visit := goodIn_r _ [17, 18, 19, 20, 21, 22, 2, 23, 24, 25, 26, 27, 28, 29, 30, 31, 32, 33, 11, 12, 13, 34, 35, 36, 37, 38, 39, 40, 41, 42, 43, 44, 45, 46, 47, 48, 49, 50, 51, 52, 53, 54, 55, 56, 57, 58, 59, 60, 61, 6, 7, 8, 9, 10, 1, 3, 4, 5, 62, 63, 64, 65, 66, 67, 68, 69, 70, 71, 72, 73, 74, 75, 76, 77, 78, 79, 80] (by decide +kernel) (by decide +kernel)
set_option maxRecDepth 20000 in
theorem gX2_search_X2_visit : GoodIn wsX2_search (wsV RX2 80 RX2 yX2_visit wsX2_visit) := goodIn_app (goodIn_of _ (by decide +kernel)) ggX2_search_X2_visit
theorem dX2_search_0 : decode cX2_search 0 = .ok (.aload_n 0, 1) := by decide +kernel
theorem dX2_search_1 : decode cX2_search 1 = .ok (.iconst 0, 1) := by decide +kernel
theorem dX2_search_2 : decode cX2_search 2 = .ok (.putfield 29, 3) := by decide +kernel
theorem dX2_search_5 : decode cX2_search 5 = .ok (.aload_n 0, 1) := by decide +kernel
theorem dX2_search_6 : decode cX2_search 6 = .ok (.lconst 0, 1) := by decide +kernel
theorem dX2_search_7 : decode cX2_search 7 = .ok (.putfield 33, 3) := by decide +kernel
theorem dX2_search_10 : decode cX2_search 10 = .ok (.aload_n 0, 1) := by decide +kernel
theorem dX2_search_11 : decode cX2_search 11 = .ok (.iload_n 2, 1) := by decide +kernel
theorem dX2_search_12 : decode cX2_search 12 = .ok (.iload_n 3, 1) := by decide +kernel
theorem dX2_search_13 : decode cX2_search 13 = .ok (.iload 4, 2) := by decide +kernel
theorem dX2_search_15 : decode cX2_search 15 = .ok (.invokevirtual 76, 3) := by decide +kernel
theorem dX2_search_18 : decode cX2_search 18 = .ok (.iconst 0, 1) := by decide +kernel
theorem dX2_search_19 : decode cX2_search 19 = .ok (.istore 5, 2) := by decide +kernel
theorem dX2_search_21 : decode cX2_search 21 = .ok (.iload 5, 2) := by decide +kernel
theorem dX2_search_23 : decode cX2_search 23 = .ok (.aload_n 0, 1) := by decide +kernel
theorem dX2_search_24 : decode cX2_search 24 = .ok (.getfield 29, 3) := by decide +kernel
theorem dX2_search_27 : decode cX2_search 27 = .ok (.if_icmp .ge 42, 3) := by decide +kernel
theorem dX2_search_30 : decode cX2_search 30 = .ok (.iload 5, 2) := by decide +kernel
theorem dX2_search_32 : decode cX2_search 32 = .ok (.bipush 48, 2) := by decide +kernel
theorem dX2_search_34 : decode cX2_search 34 = .ok (.if_icmp .ge 35, 3) := by decide +kernel
theorem dX2_search_37 : decode cX2_search 37 = .ok (.aload_n 0, 1) := by decide +kernel
theorem dX2_search_38 : decode cX2_search 38 = .ok (.iload_n 1, 1) := by decide +kernel
theorem dX2_search_39 : decode cX2_search 39 = .ok (.aload_n 0, 1) := by decide +kernel
theorem dX2_search_40 : decode cX2_search 40 = .ok (.getfield 19, 3) := by decide +kernel
theorem dX2_search_43 : decode cX2_search 43 = .ok (.iload 5, 2) := by decide +kernel
theorem dX2_search_45 : decode cX2_search 45 = .ok (.iaload, 1) := by decide +kernel
theorem dX2_search_46 : decode cX2_search 46 = .ok (.aload_n 0, 1) := by decide +kernel
theorem dX2_search_47 : decode cX2_search 47 = .ok (.getfield 23, 3) := by decide +kernel
theorem dX2_search_50 : decode cX2_search 50 = .ok (.iload 5, 2) := by decide +kernel
theorem dX2_search_52 : decode cX2_search 52 = .ok (.iaload, 1) := by decide +kernel
theorem dX2_search_53 : decode cX2_search 53 = .ok (.aload_n 0, 1) := by decide +kernel
theorem dX2_search_54 : decode cX2_search 54 = .ok (.getfield 26, 3) := by decide +kernel
theorem dX2_search_57 : decode cX2_search 57 = .ok (.iload 5, 2) := by decide +kernel
theorem dX2_search_59 : decode cX2_search 59 = .ok (.iaload, 1) := by decide +kernel
theorem dX2_search_60 : decode cX2_search 60 = .ok (.invokevirtual 80, 3) := by decide +kernel
theorem dX2_search_63 : decode cX2_search 63 = .ok (.iinc 5 1, 3) := by decide +kernel
theorem dX2_search_66 : decode cX2_search 66 = .ok (.goto (-45), 3) := by decide +kernel
theorem dX2_search_69 : decode cX2_search 69 = .ok (.return_, 1) := by decide +kernel
set_option maxRecDepth 20000 in
theorem ggX2_enqueue_X3_isRow : GoodIn wsX2_enqueue wsX3_isRow := goodIn_r _ [8] (by decide +kernel) (by decide +kernel)
set_option maxRecDepth 20000 in
theorem gX2_enqueue_X3_isRow_n83 : GoodIn wsX2_enqueue (wsX3_isRow) := ggX2_enqueue_X3_isRow
theorem dX2_enqueue_0 : decode cX2_enqueue 0 = .ok (.iload_n 1, 1) := by decide +kernel
theorem dX2_enqueue_1 : decode cX2_enqueue 1 = .ok (.invokestatic 83, 3) := by decide +kernel
theorem dX2_enqueue_4 : decode cX2_enqueue 4 = .ok (.ifCond .eq 65, 3) := by decide +kernel
theorem dX2_enqueue_7 : decode cX2_enqueue 7 = .ok (.aload_n 0, 1) := by decide +kernel
theorem dX2_enqueue_8 : decode cX2_enqueue 8 = .ok (.getfield 29, 3) := by decide +kernel
theorem dX2_enqueue_11 : decode cX2_enqueue 11 = .ok (.invokestatic 83, 3) := by decide +kernel
theorem dX2_enqueue_14 : decode cX2_enqueue 14 = .ok (.ifCond .eq 55, 3) := by decide +kernel
theorem dX2_enqueue_17 : decode cX2_enqueue 17 = .ok (.aload_n 0, 1) := by decide +kernel
theorem dX2_enqueue_18 : decode cX2_enqueue 18 = .ok (.dup, 1) := by decide +kernel
theorem dX2_enqueue_19 : decode cX2_enqueue 19 = .ok (.getfield 33, 3) := by decide +kernel
theorem dX2_enqueue_22 : decode cX2_enqueue 22 = .ok (.lconst 1, 1) := by decide +kernel
theorem dX2_enqueue_23 : decode cX2_enqueue 23 = .ok (.iload_n 1, 1) := by decide +kernel
theorem dX2_enqueue_24 : decode cX2_enqueue 24 = .ok (.lshl, 1) := by decide +kernel
theorem dX2_enqueue_25 : decode cX2_enqueue 25 = .ok (.lor, 1) := by decide +kernel
theorem dX2_enqueue_26 : decode cX2_enqueue 26 = .ok (.putfield 33, 3) := by decide +kernel
theorem dX2_enqueue_29 : decode cX2_enqueue 29 = .ok (.aload_n 0, 1) := by decide +kernel
theorem dX2_enqueue_30 : decode cX2_enqueue 30 = .ok (.getfield 19, 3) := by decide +kernel
theorem dX2_enqueue_33 : decode cX2_enqueue 33 = .ok (.aload_n 0, 1) := by decide +kernel
theorem dX2_enqueue_34 : decode cX2_enqueue 34 = .ok (.getfield 29, 3) := by decide +kernel
theorem dX2_enqueue_37 : decode cX2_enqueue 37 = .ok (.iload_n 1, 1) := by decide +kernel
theorem dX2_enqueue_38 : decode cX2_enqueue 38 = .ok (.iastore, 1) := by decide +kernel
theorem dX2_enqueue_39 : decode cX2_enqueue 39 = .ok (.aload_n 0, 1) := by decide +kernel
theorem dX2_enqueue_40 : decode cX2_enqueue 40 = .ok (.getfield 23, 3) := by decide +kernel
theorem dX2_enqueue_43 : decode cX2_enqueue 43 = .ok (.aload_n 0, 1) := by decide +kernel
theorem dX2_enqueue_44 : decode cX2_enqueue 44 = .ok (.getfield 29, 3) := by decide +kernel
theorem dX2_enqueue_47 : decode cX2_enqueue 47 = .ok (.iload_n 2, 1) := by decide +kernel
theorem dX2_enqueue_48 : decode cX2_enqueue 48 = .ok (.iastore, 1) := by decide +kernel
theorem dX2_enqueue_49 : decode cX2_enqueue 49 = .ok (.aload_n 0, 1) := by decide +kernel
theorem dX2_enqueue_50 : decode cX2_enqueue 50 = .ok (.getfield 26, 3) := by decide +kernel
theorem dX2_enqueue_53 : decode cX2_enqueue 53 = .ok (.aload_n 0, 1) := by decide +kernel
theorem dX2_enqueue_54 : decode cX2_enqueue 54 = .ok (.getfield 29, 3) := by decide +kernel
theorem dX2_enqueue_57 : decode cX2_enqueue 57 = .ok (.iload_n 3, 1) := by decide +kernel
theorem dX2_enqueue_58 : decode cX2_enqueue 58 = .ok (.iastore, 1) := by decide +kernel
theorem dX2_enqueue_59 : decode cX2_enqueue 59 = .ok (.aload_n 0, 1) := by decide +kernel
theorem dX2_enqueue_60 : decode cX2_enqueue 60 = .ok (.dup, 1) := by decide +kernel
theorem dX2_enqueue_61 : decode cX2_enqueue 61 = .ok (.getfield 29, 3) := by decide +kernel
theorem dX2_enqueue_64 : decode cX2_enqueue 64 = .ok (.iconst 1, 1) := by decide +kernel
theorem dX2_enqueue_65 : decode cX2_enqueue 65 = .ok (.iadd, 1) := by decide +kernel
theorem dX2_enqueue_66 : decode cX2_enqueue 66 = .ok (.putfield 29, 3) := by decide +kernel
theorem dX2_enqueue_69 : decode cX2_enqueue 69 = .ok (.return_, 1) := by decide +kernel
set_option maxRecDepth 20000 in
theorem ggX2_visit_X1_reaches : GoodIn wsX2_visit wsX1_reaches := goodIn_r _ [12, 13, 14, 15, 11, 16, 17, 18, 19, 20, 21, 22, 23, 24, 25, 26, 27, 28, 29, 30, 31, 32, 68, 69, 70, 71, 72, 73] (by decide +kernel) (by decide +kernel)
set_option maxRecDepth 20000 in
theorem gX2_visit_X1_reaches : GoodIn wsX2_visit (wsV RX2 87 RX1 yX1_reaches wsX1_reaches) := goodIn_app (goodIn_of _ (by decide +kernel)) ggX2_visit_X1_reaches
set_option maxRecDepth 20000 in
theorem ggX2_visit_X1_put : GoodIn wsX2_visit wsX1_put := goodIn_r _ [36, 25, 32, 37, 18, 19, 20, 68, 69, 70, 71, 72, 73] (by decide +kernel) (by decide +kernel)
set_option maxRecDepth 20000 in
theorem gX2_visit_X1_put : GoodIn wsX2_visit (wsV RX2 91 RX1 yX1_put wsX1_put) := goodIn_app (goodIn_of _ (by decide +kernel)) ggX2_visit_X1_put
set_option maxRecDepth 20000 in
theorem ggX2_visit_X0_adjacent : GoodIn wsX2_visit wsX0_adjacent := goodIn_r _ [42, 43, 18, 19, 20, 74, 75, 76] (by decide +kernel) (by decide +kernel)
set_option maxRecDepth 20000 in
theorem gX2_visit_X0_adjacent : GoodIn wsX2_visit (wsV RX2 94 RX0 yX0_adjacent wsX0_adjacent) := goodIn_app (goodIn_of _ (by decide +kernel)) ggX2_visit_X0_adjacent
set_option maxRecDepth 20000 in
theorem ggX2_visit_X0_size : GoodIn wsX2_visit wsX0_size := goodIn_r _ [47, 48, 74, 75, 76] (by decide +kernel) (by decide +kernel)
set_option maxRecDepth 20000 in
theorem gX2_visit_X0_size : GoodIn wsX2_visit (wsV RX2 58 RX0 yX0_size wsX0_size) := goodIn_app (goodIn_of _ (by decide +kernel)) ggX2_visit_X0_size
set_option maxRecDepth 20000 in
theorem ggX2_visit_X3_hasBit : GoodIn wsX2_visit wsX3_hasBit := goodIn_r _ [27] (by decide +kernel) (by decide +kernel)
set_option maxRecDepth 20000 in
theorem gX2_visit_X3_hasBit_n100 : GoodIn wsX2_visit (wsX3_hasBit) := ggX2_visit_X3_hasBit
set_option maxRecDepth 20000 in
theorem ggX2_visit_X2_enqueue : GoodIn wsX2_visit wsX2_enqueue := goodIn_r _ [53, 54, 6, 55, 56, 57, 18, 19, 20, 58, 59, 60, 61, 62, 63, 64, 65, 66, 67] (by decide +kernel) (by decide +kernel)
set_option maxRecDepth 20000 in
theorem gX2_visit_X2_enqueue : GoodIn wsX2_visit (wsV RX2 76 RX2 yX2_enqueue wsX2_enqueue) := goodIn_app (goodIn_of _ (by decide +kernel)) ggX2_visit_X2_enqueue
theorem dX2_visit_0 : decode cX2_visit 0 = .ok (.aload_n 0, 1) := by decide +kernel
theorem dX2_visit_1 : decode cX2_visit 1 = .ok (.dup, 1) := by decide +kernel
theorem dX2_visit_2 : decode cX2_visit 2 = .ok (.getfield 37, 3) := by decide +kernel
theorem dX2_visit_5 : decode cX2_visit 5 = .ok (.iconst 1, 1) := by decide +kernel
theorem dX2_visit_6 : decode cX2_visit 6 = .ok (.iadd, 1) := by decide +kernel
theorem dX2_visit_7 : decode cX2_visit 7 = .ok (.putfield 37, 3) := by decide +kernel
theorem dX2_visit_10 : decode cX2_visit 10 = .ok (.aload_n 0, 1) := by decide +kernel
theorem dX2_visit_11 : decode cX2_visit 11 = .ok (.getfield 15, 3) := by decide +kernel
theorem dX2_visit_14 : decode cX2_visit 14 = .ok (.iload_n 1, 1) := by decide +kernel
theorem dX2_visit_15 : decode cX2_visit 15 = .ok (.iload_n 2, 1) := by decide +kernel
theorem dX2_visit_16 : decode cX2_visit 16 = .ok (.iload_n 3, 1) := by decide +kernel
theorem dX2_visit_17 : decode cX2_visit 17 = .ok (.invokevirtual 87, 3) := by decide +kernel
theorem dX2_visit_20 : decode cX2_visit 20 = .ok (.ifCond .eq 14, 3) := by decide +kernel
theorem dX2_visit_23 : decode cX2_visit 23 = .ok (.aload_n 0, 1) := by decide +kernel
theorem dX2_visit_24 : decode cX2_visit 24 = .ok (.dup, 1) := by decide +kernel
theorem dX2_visit_25 : decode cX2_visit 25 = .ok (.getfield 40, 3) := by decide +kernel
theorem dX2_visit_28 : decode cX2_visit 28 = .ok (.iconst 1, 1) := by decide +kernel
theorem dX2_visit_29 : decode cX2_visit 29 = .ok (.iadd, 1) := by decide +kernel
theorem dX2_visit_30 : decode cX2_visit 30 = .ok (.putfield 40, 3) := by decide +kernel
theorem dX2_visit_33 : decode cX2_visit 33 = .ok (.return_, 1) := by decide +kernel
theorem dX2_visit_34 : decode cX2_visit 34 = .ok (.aload_n 0, 1) := by decide +kernel
theorem dX2_visit_35 : decode cX2_visit 35 = .ok (.getfield 15, 3) := by decide +kernel
theorem dX2_visit_38 : decode cX2_visit 38 = .ok (.iload_n 1, 1) := by decide +kernel
theorem dX2_visit_39 : decode cX2_visit 39 = .ok (.iload_n 2, 1) := by decide +kernel
theorem dX2_visit_40 : decode cX2_visit 40 = .ok (.iload_n 3, 1) := by decide +kernel
theorem dX2_visit_41 : decode cX2_visit 41 = .ok (.iload 4, 2) := by decide +kernel
theorem dX2_visit_43 : decode cX2_visit 43 = .ok (.invokevirtual 91, 3) := by decide +kernel
theorem dX2_visit_46 : decode cX2_visit 46 = .ok (.aload_n 0, 1) := by decide +kernel
theorem dX2_visit_47 : decode cX2_visit 47 = .ok (.dup, 1) := by decide +kernel
theorem dX2_visit_48 : decode cX2_visit 48 = .ok (.getfield 43, 3) := by decide +kernel
theorem dX2_visit_51 : decode cX2_visit 51 = .ok (.iconst 1, 1) := by decide +kernel
theorem dX2_visit_52 : decode cX2_visit 52 = .ok (.iadd, 1) := by decide +kernel
theorem dX2_visit_53 : decode cX2_visit 53 = .ok (.putfield 43, 3) := by decide +kernel
theorem dX2_visit_56 : decode cX2_visit 56 = .ok (.aload_n 0, 1) := by decide +kernel
theorem dX2_visit_57 : decode cX2_visit 57 = .ok (.getfield 9, 3) := by decide +kernel
theorem dX2_visit_60 : decode cX2_visit 60 = .ok (.iload_n 2, 1) := by decide +kernel
theorem dX2_visit_61 : decode cX2_visit 61 = .ok (.invokevirtual 94, 3) := by decide +kernel
theorem dX2_visit_64 : decode cX2_visit 64 = .ok (.aload_n 0, 1) := by decide +kernel
theorem dX2_visit_65 : decode cX2_visit 65 = .ok (.getfield 33, 3) := by decide +kernel
theorem dX2_visit_68 : decode cX2_visit 68 = .ok (.ldc2_w 98, 3) := by decide +kernel
theorem dX2_visit_71 : decode cX2_visit 71 = .ok (.lxor, 1) := by decide +kernel
theorem dX2_visit_72 : decode cX2_visit 72 = .ok (.land, 1) := by decide +kernel
theorem dX2_visit_73 : decode cX2_visit 73 = .ok (.lstore 5, 2) := by decide +kernel
theorem dX2_visit_75 : decode cX2_visit 75 = .ok (.iconst 0, 1) := by decide +kernel
theorem dX2_visit_76 : decode cX2_visit 76 = .ok (.istore 7, 2) := by decide +kernel
theorem dX2_visit_78 : decode cX2_visit 78 = .ok (.iload 7, 2) := by decide +kernel
theorem dX2_visit_80 : decode cX2_visit 80 = .ok (.aload_n 0, 1) := by decide +kernel
theorem dX2_visit_81 : decode cX2_visit 81 = .ok (.getfield 9, 3) := by decide +kernel
theorem dX2_visit_84 : decode cX2_visit 84 = .ok (.invokevirtual 58, 3) := by decide +kernel
theorem dX2_visit_87 : decode cX2_visit 87 = .ok (.if_icmp .ge 29, 3) := by decide +kernel
theorem dX2_visit_90 : decode cX2_visit 90 = .ok (.lload 5, 2) := by decide +kernel
theorem dX2_visit_92 : decode cX2_visit 92 = .ok (.iload 7, 2) := by decide +kernel
theorem dX2_visit_94 : decode cX2_visit 94 = .ok (.invokestatic 100, 3) := by decide +kernel
theorem dX2_visit_97 : decode cX2_visit 97 = .ok (.ifCond .eq 13, 3) := by decide +kernel
theorem dX2_visit_100 : decode cX2_visit 100 = .ok (.aload_n 0, 1) := by decide +kernel
theorem dX2_visit_101 : decode cX2_visit 101 = .ok (.iload 7, 2) := by decide +kernel
theorem dX2_visit_103 : decode cX2_visit 103 = .ok (.iload_n 3, 1) := by decide +kernel
theorem dX2_visit_104 : decode cX2_visit 104 = .ok (.iconst 1, 1) := by decide +kernel
theorem dX2_visit_105 : decode cX2_visit 105 = .ok (.iadd, 1) := by decide +kernel
theorem dX2_visit_106 : decode cX2_visit 106 = .ok (.iload_n 2, 1) := by decide +kernel
theorem dX2_visit_107 : decode cX2_visit 107 = .ok (.invokevirtual 76, 3) := by decide +kernel
theorem dX2_visit_110 : decode cX2_visit 110 = .ok (.iinc 7 1, 3) := by decide +kernel
theorem dX2_visit_113 : decode cX2_visit 113 = .ok (.goto (-35), 3) := by decide +kernel
theorem dX2_visit_116 : decode cX2_visit 116 = .ok (.return_, 1) := by decide +kernel
set_option maxRecDepth 20000 in
theorem ggX3_init_X0_init : GoodIn wsX3_init wsX0_init := goodIn_r _ [21, 22, 2, 3, 23, 24, 25, 26, 52, 53, 54] (by decide +kernel) (by decide +kernel)
set_option maxRecDepth 20000 in
theorem gX3_init_X0_init : GoodIn wsX3_init (wsX0_init) := ggX3_init_X0_init
set_option maxRecDepth 20000 in
theorem ggX3_init_X1_init : GoodIn wsX3_init wsX1_init := goodIn_r _ [29, 30, 2, 3, 31, 32, 33, 34, 23, 35, 36, 37, 61, 62, 63, 64, 65, 66] (by decide +kernel) (by decide +kernel)
set_option maxRecDepth 20000 in
theorem gX3_init_X1_init : GoodIn wsX3_init (wsX1_init) := ggX3_init_X1_init
set_option maxRecDepth 20000 in
theorem ggX3_init_X2_init : GoodIn wsX3_init wsX2_init := goodIn_r _ [40, 41, 2, 3, 42, 43, 31, 44, 45, 46, 47, 48, 49, 50, 51, 67, 68, 69, 70, 71, 72, 73, 74, 75, 76] (by decide +kernel) (by decide +kernel)
set_option maxRecDepth 20000 in
theorem dJ13_bitCount_95d88_0 : decode cJ13_bitCount_95d88 0 = .ok (.lload_n 0, 1) := by decide +kernel
theorem dJ13_bitCount_95d88_1 : decode cJ13_bitCount_95d88 1 = .ok (.lload_n 0, 1) := by decide +kernel
theorem dJ13_bitCount_95d88_2 : decode cJ13_bitCount_95d88 2 = .ok (.iconst 1, 1) := by decide +kernel
theorem dJ13_bitCount_95d88_3 : decode cJ13_bitCount_95d88 3 = .ok (.lushr, 1) := by decide +kernel
theorem dJ13_bitCount_95d88_4 : decode cJ13_bitCount_95d88 4 = .ok (.ldc2_w 314, 3) := by decide +kernel
theorem dJ13_bitCount_95d88_7 : decode cJ13_bitCount_95d88 7 = .ok (.land, 1) := by decide +kernel
theorem dJ13_bitCount_95d88_8 : decode cJ13_bitCount_95d88 8 = .ok (.lsub, 1) := by decide +kernel
theorem dJ13_bitCount_95d88_9 : decode cJ13_bitCount_95d88 9 = .ok (.lstore_n 0, 1) := by decide +kernel
theorem dJ13_bitCount_95d88_10 : decode cJ13_bitCount_95d88 10 = .ok (.lload_n 0, 1) := by decide +kernel
theorem dJ13_bitCount_95d88_11 : decode cJ13_bitCount_95d88 11 = .ok (.ldc2_w 316, 3) := by decide +kernel
theorem dJ13_bitCount_95d88_14 : decode cJ13_bitCount_95d88 14 = .ok (.land, 1) := by decide +kernel
theorem dJ13_bitCount_95d88_15 : decode cJ13_bitCount_95d88 15 = .ok (.lload_n 0, 1) := by decide +kernel
theorem dJ13_bitCount_95d88_16 : decode cJ13_bitCount_95d88 16 = .ok (.iconst 2, 1) := by decide +kernel
theorem dJ13_bitCount_95d88_17 : decode cJ13_bitCount_95d88 17 = .ok (.lushr, 1) := by decide +kernel
theorem dJ13_bitCount_95d88_18 : decode cJ13_bitCount_95d88 18 = .ok (.ldc2_w 316, 3) := by decide +kernel
theorem dJ13_bitCount_95d88_21 : decode cJ13_bitCount_95d88 21 = .ok (.land, 1) := by decide +kernel
theorem dJ13_bitCount_95d88_22 : decode cJ13_bitCount_95d88 22 = .ok (.ladd, 1) := by decide +kernel
theorem dJ13_bitCount_95d88_23 : decode cJ13_bitCount_95d88 23 = .ok (.lstore_n 0, 1) := by decide +kernel
theorem dJ13_bitCount_95d88_24 : decode cJ13_bitCount_95d88 24 = .ok (.lload_n 0, 1) := by decide +kernel
theorem dJ13_bitCount_95d88_25 : decode cJ13_bitCount_95d88 25 = .ok (.lload_n 0, 1) := by decide +kernel
theorem dJ13_bitCount_95d88_26 : decode cJ13_bitCount_95d88 26 = .ok (.iconst 4, 1) := by decide +kernel
theorem dJ13_bitCount_95d88_27 : decode cJ13_bitCount_95d88 27 = .ok (.lushr, 1) := by decide +kernel
theorem dJ13_bitCount_95d88_28 : decode cJ13_bitCount_95d88 28 = .ok (.ladd, 1) := by decide +kernel
theorem dJ13_bitCount_95d88_29 : decode cJ13_bitCount_95d88 29 = .ok (.ldc2_w 318, 3) := by decide +kernel
theorem dJ13_bitCount_95d88_32 : decode cJ13_bitCount_95d88 32 = .ok (.land, 1) := by decide +kernel
theorem dJ13_bitCount_95d88_33 : decode cJ13_bitCount_95d88 33 = .ok (.lstore_n 0, 1) := by decide +kernel
theorem dJ13_bitCount_95d88_34 : decode cJ13_bitCount_95d88 34 = .ok (.lload_n 0, 1) := by decide +kernel
theorem dJ13_bitCount_95d88_35 : decode cJ13_bitCount_95d88 35 = .ok (.lload_n 0, 1) := by decide +kernel
theorem dJ13_bitCount_95d88_36 : decode cJ13_bitCount_95d88 36 = .ok (.bipush 8, 2) := by decide +kernel
theorem dJ13_bitCount_95d88_38 : decode cJ13_bitCount_95d88 38 = .ok (.lushr, 1) := by decide +kernel
theorem dJ13_bitCount_95d88_39 : decode cJ13_bitCount_95d88 39 = .ok (.ladd, 1) := by decide +kernel
theorem dJ13_bitCount_95d88_40 : decode cJ13_bitCount_95d88 40 = .ok (.lstore_n 0, 1) := by decide +kernel
theorem dJ13_bitCount_95d88_41 : decode cJ13_bitCount_95d88 41 = .ok (.lload_n 0, 1) := by decide +kernel
theorem dJ13_bitCount_95d88_42 : decode cJ13_bitCount_95d88 42 = .ok (.lload_n 0, 1) := by decide +kernel
theorem dJ13_bitCount_95d88_43 : decode cJ13_bitCount_95d88 43 = .ok (.bipush 16, 2) := by decide +kernel
theorem dJ13_bitCount_95d88_45 : decode cJ13_bitCount_95d88 45 = .ok (.lushr, 1) := by decide +kernel
theorem dJ13_bitCount_95d88_46 : decode cJ13_bitCount_95d88 46 = .ok (.ladd, 1) := by decide +kernel
theorem dJ13_bitCount_95d88_47 : decode cJ13_bitCount_95d88 47 = .ok (.lstore_n 0, 1) := by decide +kernel
theorem dJ13_bitCount_95d88_48 : decode cJ13_bitCount_95d88 48 = .ok (.lload_n 0, 1) := by decide +kernel
theorem dJ13_bitCount_95d88_49 : decode cJ13_bitCount_95d88 49 = .ok (.lload_n 0, 1) := by decide +kernel
theorem dJ13_bitCount_95d88_50 : decode cJ13_bitCount_95d88 50 = .ok (.bipush 32, 2) := by decide +kernel
theorem dJ13_bitCount_95d88_52 : decode cJ13_bitCount_95d88 52 = .ok (.lushr, 1) := by decide +kernel
theorem dJ13_bitCount_95d88_53 : decode cJ13_bitCount_95d88 53 = .ok (.ladd, 1) := by decide +kernel
theorem dJ13_bitCount_95d88_54 : decode cJ13_bitCount_95d88 54 = .ok (.lstore_n 0, 1) := by decide +kernel
theorem dJ13_bitCount_95d88_55 : decode cJ13_bitCount_95d88 55 = .ok (.lload_n 0, 1) := by decide +kernel
theorem dJ13_bitCount_95d88_56 : decode cJ13_bitCount_95d88 56 = .ok (.l2i, 1) := by decide +kernel
theorem dJ13_bitCount_95d88_57 : decode cJ13_bitCount_95d88 57 = .ok (.bipush 127, 2) := by decide +kernel
theorem dJ13_bitCount_95d88_59 : decode cJ13_bitCount_95d88 59 = .ok (.iand, 1) := by decide +kernel
theorem dJ13_bitCount_95d88_60 : decode cJ13_bitCount_95d88 60 = .ok (.ireturn, 1) := by decide +kernel
theorem dJ9_max_7cf53_0 : decode cJ9_max_7cf53 0 = .ok (.iload_n 0, 1) := by decide +kernel
theorem dJ9_max_7cf53_1 : decode cJ9_max_7cf53 1 = .ok (.iload_n 1, 1) := by decide +kernel
theorem dJ9_max_7cf53_2 : decode cJ9_max_7cf53 2 = .ok (.if_icmp .lt 7, 3) := by decide +kernel
theorem dJ9_max_7cf53_5 : decode cJ9_max_7cf53 5 = .ok (.iload_n 0, 1) := by decide +kernel
theorem dJ9_max_7cf53_6 : decode cJ9_max_7cf53 6 = .ok (.goto 4, 3) := by decide +kernel
theorem dJ9_max_7cf53_9 : decode cJ9_max_7cf53 9 = .ok (.iload_n 1, 1) := by decide +kernel
theorem dJ9_max_7cf53_10 : decode cJ9_max_7cf53 10 = .ok (.ireturn, 1) := by decide +kernel
end
section
theorem gX3_init_X2_init : GoodIn wsX3_init (wsX2_init) := ggX3_init_X2_init
theorem dX3_init_0 : decode cX3_init 0 = .ok (.aload_n 0, 1) := by decide +kernel
theorem dX3_init_1 : decode cX3_init 1 = .ok (.invokespecial 1, 3) := by decide +kernel
theorem dX3_init_4 : decode cX3_init 4 = .ok (.aload_n 0, 1) := by decide +kernel
theorem dX3_init_5 : decode cX3_init 5 = .ok (.new 7, 3) := by decide +kernel
theorem dX3_init_8 : decode cX3_init 8 = .ok (.dup, 1) := by decide +kernel
theorem dX3_init_9 : decode cX3_init 9 = .ok (.invokespecial 9, 3) := by decide +kernel
theorem dX3_init_12 : decode cX3_init 12 = .ok (.putfield 10, 3) := by decide +kernel
theorem dX3_init_15 : decode cX3_init 15 = .ok (.aload_n 0, 1) := by decide +kernel
theorem dX3_init_16 : decode cX3_init 16 = .ok (.new 16, 3) := by decide +kernel
theorem dX3_init_19 : decode cX3_init 19 = .ok (.dup, 1) := by decide +kernel
theorem dX3_init_20 : decode cX3_init 20 = .ok (.invokespecial 18, 3) := by decide +kernel
theorem dX3_init_23 : decode cX3_init 23 = .ok (.putfield 19, 3) := by decide +kernel
theorem dX3_init_26 : decode cX3_init 26 = .ok (.aload_n 0, 1) := by decide +kernel
theorem dX3_init_27 : decode cX3_init 27 = .ok (.new 23, 3) := by decide +kernel
theorem dX3_init_30 : decode cX3_init 30 = .ok (.dup, 1) := by decide +kernel
theorem dX3_init_31 : decode cX3_init 31 = .ok (.aload_n 0, 1) := by decide +kernel
theorem dX3_init_32 : decode cX3_init 32 = .ok (.getfield 10, 3) := by decide +kernel
theorem dX3_init_35 : decode cX3_init 35 = .ok (.aload_n 0, 1) := by decide +kernel
theorem dX3_init_36 : decode cX3_init 36 = .ok (.getfield 19, 3) := by decide +kernel
theorem dX3_init_39 : decode cX3_init 39 = .ok (.invokespecial 25, 3) := by decide +kernel
theorem dX3_init_42 : decode cX3_init 42 = .ok (.putfield 28, 3) := by decide +kernel
theorem dX3_init_45 : decode cX3_init 45 = .ok (.aload_n 0, 1) := by decide +kernel
theorem dX3_init_46 : decode cX3_init 46 = .ok (.new 16, 3) := by decide +kernel
theorem dX3_init_49 : decode cX3_init 49 = .ok (.dup, 1) := by decide +kernel
theorem dX3_init_50 : decode cX3_init 50 = .ok (.invokespecial 18, 3) := by decide +kernel
theorem dX3_init_53 : decode cX3_init 53 = .ok (.putfield 32, 3) := by decide +kernel
theorem dX3_init_56 : decode cX3_init 56 = .ok (.aload_n 0, 1) := by decide +kernel
theorem dX3_init_57 : decode cX3_init 57 = .ok (.new 23, 3) := by decide +kernel
theorem dX3_init_60 : decode cX3_init 60 = .ok (.dup, 1) := by decide +kernel
theorem dX3_init_61 : decode cX3_init 61 = .ok (.aload_n 0, 1) := by decide +kernel
theorem dX3_init_62 : decode cX3_init 62 = .ok (.getfield 10, 3) := by decide +kernel
theorem dX3_init_65 : decode cX3_init 65 = .ok (.aload_n 0, 1) := by decide +kernel
theorem dX3_init_66 : decode cX3_init 66 = .ok (.getfield 32, 3) := by decide +kernel
theorem dX3_init_69 : decode cX3_init 69 = .ok (.invokespecial 25, 3) := by decide +kernel
theorem dX3_init_72 : decode cX3_init 72 = .ok (.putfield 35, 3) := by decide +kernel
theorem dX3_init_75 : decode cX3_init 75 = .ok (.aload_n 0, 1) := by decide +kernel
theorem dX3_init_76 : decode cX3_init 76 = .ok (.iconst 0, 1) := by decide +kernel
theorem dX3_init_77 : decode cX3_init 77 = .ok (.putfield 38, 3) := by decide +kernel
theorem dX3_init_80 : decode cX3_init 80 = .ok (.return_, 1) := by decide +kernel
set_option maxRecDepth 20000 in
theorem ggX3_addVertex_X3_requireRoomFor : GoodIn wsX3_addVertex wsX3_requireRoomFor := goodIn_ca (goodIn_r _ [5, 6, 7, 8, 9, 10, 11, 12, 13, 14, 46, 47, 48, 49, 50, 51, 52, 53, 54] (by decide +kernel) (by decide +kernel)) (goodIn_sub (fun _ h => List.mem_cons_of_mem _ (List.mem_append_right _ h)) (by decide +kernel))
set_option maxRecDepth 20000 in
theorem gX3_addVertex_X3_requireRoomFor : GoodIn wsX3_addVertex (wsV RX3 42 RX3 yX3_requireRoomFor wsX3_requireRoomFor) := goodIn_app (goodIn_of _ (by decide +kernel)) ggX3_addVertex_X3_requireRoomFor
set_option maxRecDepth 20000 in
theorem ggX3_addVertex_X3_appendVertex : GoodIn wsX3_addVertex wsX3_appendVertex := goodIn_r _ [18, 8, 19, 20, 21, 22, 23, 12, 24, 14, 25, 26, 27, 28, 29, 30, 31, 32, 33, 4, 34, 35, 36, 37, 38, 39, 40, 41, 42, 43, 44, 45, 46, 47, 48, 49, 50, 51, 52, 53, 54, 55, 56, 57, 58, 59, 60] (by decide +kernel) (by decide +kernel)
set_option maxRecDepth 20000 in
theorem gX3_addVertex_X3_appendVertex : GoodIn wsX3_addVertex (wsV RX3 46 RX3 yX3_appendVertex wsX3_appendVertex) := goodIn_app (goodIn_of _ (by decide +kernel)) ggX3_addVertex_X3_appendVertex
theorem dX3_addVertex_0 : decode cX3_addVertex 0 = .ok (.aload_n 0, 1) := by decide +kernel
theorem dX3_addVertex_1 : decode cX3_addVertex 1 = .ok (.iconst 1, 1) := by decide +kernel
theorem dX3_addVertex_2 : decode cX3_addVertex 2 = .ok (.invokevirtual 42, 3) := by decide +kernel
theorem dX3_addVertex_5 : decode cX3_addVertex 5 = .ok (.aload_n 0, 1) := by decide +kernel
theorem dX3_addVertex_6 : decode cX3_addVertex 6 = .ok (.invokevirtual 46, 3) := by decide +kernel
theorem dX3_addVertex_9 : decode cX3_addVertex 9 = .ok (.ireturn, 1) := by decide +kernel
set_option maxRecDepth 20000 in
theorem ggX3_addVertices_X3_requireRoomFor : GoodIn wsX3_addVertices wsX3_requireRoomFor := goodIn_ca (goodIn_r _ [8, 9, 10, 3, 11, 12, 13, 14, 15, 16, 48, 49, 50, 51, 52, 53, 54, 55, 56] (by decide +kernel) (by decide +kernel)) (goodIn_sub (fun _ h => List.mem_cons_of_mem _ (List.mem_append_right _ h)) (by decide +kernel))
set_option maxRecDepth 20000 in
theorem gX3_addVertices_X3_requireRoomFor : GoodIn wsX3_addVertices (wsV RX3 42 RX3 yX3_requireRoomFor wsX3_requireRoomFor) := goodIn_app (goodIn_of _ (by decide +kernel)) ggX3_addVertices_X3_requireRoomFor
set_option maxRecDepth 20000 in
theorem ggX3_addVertices_X3_appendVertex : GoodIn wsX3_addVertices wsX3_appendVertex := goodIn_r _ [20, 3, 21, 22, 23, 24, 25, 14, 26, 16, 27, 28, 29, 30, 31, 32, 33, 34, 35, 7, 36, 37, 38, 39, 40, 41, 42, 43, 44, 45, 46, 47, 48, 49, 50, 51, 52, 53, 54, 55, 56, 57, 58, 59, 60, 61, 62] (by decide +kernel) (by decide +kernel)
set_option maxRecDepth 20000 in
theorem gX3_addVertices_X3_appendVertex : GoodIn wsX3_addVertices (wsV RX3 46 RX3 yX3_appendVertex wsX3_appendVertex) := goodIn_app (goodIn_of _ (by decide +kernel)) ggX3_addVertices_X3_appendVertex
set_option maxRecDepth 20000 in
theorem ggX3_addVertices_X0_size : GoodIn wsX3_addVertices wsX0_size := goodIn_r _ [15, 16, 54, 55, 56] (by decide +kernel) (by decide +kernel)
set_option maxRecDepth 20000 in
theorem gX3_addVertices_X0_size : GoodIn wsX3_addVertices (wsV RX3 57 RX0 yX0_size wsX0_size) := goodIn_app (goodIn_of _ (by decide +kernel)) ggX3_addVertices_X0_size
theorem dX3_addVertices_0 : decode cX3_addVertices 0 = .ok (.iload_n 1, 1) := by decide +kernel
theorem dX3_addVertices_1 : decode cX3_addVertices 1 = .ok (.iconst 1, 1) := by decide +kernel
theorem dX3_addVertices_2 : decode cX3_addVertices 2 = .ok (.if_icmp .lt 9, 3) := by decide +kernel
theorem dX3_addVertices_5 : decode cX3_addVertices 5 = .ok (.iload_n 1, 1) := by decide +kernel
theorem dX3_addVertices_6 : decode cX3_addVertices 6 = .ok (.bipush 48, 2) := by decide +kernel
theorem dX3_addVertices_8 : decode cX3_addVertices 8 = .ok (.if_icmp .le 13, 3) := by decide +kernel
theorem dX3_addVertices_11 : decode cX3_addVertices 11 = .ok (.new 50, 3) := by decide +kernel
theorem dX3_addVertices_14 : decode cX3_addVertices 14 = .ok (.dup, 1) := by decide +kernel
theorem dX3_addVertices_15 : decode cX3_addVertices 15 = .ok (.ldc 52, 2) := by decide +kernel
theorem dX3_addVertices_17 : decode cX3_addVertices 17 = .ok (.invokespecial 54, 3) := by decide +kernel
theorem dX3_addVertices_20 : decode cX3_addVertices 20 = .ok (.athrow, 1) := by decide +kernel
theorem dX3_addVertices_21 : decode cX3_addVertices 21 = .ok (.aload_n 0, 1) := by decide +kernel
theorem dX3_addVertices_22 : decode cX3_addVertices 22 = .ok (.iload_n 1, 1) := by decide +kernel
theorem dX3_addVertices_23 : decode cX3_addVertices 23 = .ok (.invokevirtual 42, 3) := by decide +kernel
theorem dX3_addVertices_26 : decode cX3_addVertices 26 = .ok (.iconst 0, 1) := by decide +kernel
theorem dX3_addVertices_27 : decode cX3_addVertices 27 = .ok (.istore_n 2, 1) := by decide +kernel
theorem dX3_addVertices_28 : decode cX3_addVertices 28 = .ok (.iload_n 2, 1) := by decide +kernel
theorem dX3_addVertices_29 : decode cX3_addVertices 29 = .ok (.iload_n 1, 1) := by decide +kernel
theorem dX3_addVertices_30 : decode cX3_addVertices 30 = .ok (.if_icmp .ge 14, 3) := by decide +kernel
theorem dX3_addVertices_33 : decode cX3_addVertices 33 = .ok (.aload_n 0, 1) := by decide +kernel
theorem dX3_addVertices_34 : decode cX3_addVertices 34 = .ok (.invokevirtual 46, 3) := by decide +kernel
theorem dX3_addVertices_37 : decode cX3_addVertices 37 = .ok (.pop, 1) := by decide +kernel
theorem dX3_addVertices_38 : decode cX3_addVertices 38 = .ok (.iinc 2 1, 3) := by decide +kernel
theorem dX3_addVertices_41 : decode cX3_addVertices 41 = .ok (.goto (-13), 3) := by decide +kernel
theorem dX3_addVertices_44 : decode cX3_addVertices 44 = .ok (.aload_n 0, 1) := by decide +kernel
theorem dX3_addVertices_45 : decode cX3_addVertices 45 = .ok (.getfield 10, 3) := by decide +kernel
theorem dX3_addVertices_48 : decode cX3_addVertices 48 = .ok (.invokevirtual 57, 3) := by decide +kernel
theorem dX3_addVertices_51 : decode cX3_addVertices 51 = .ok (.ireturn, 1) := by decide +kernel
set_option maxRecDepth 20000 in
theorem ggX3_addEdge_X3_requireVertex : GoodIn wsX3_addEdge wsX3_requireVertex := goodIn_ca (goodIn_r _ [10, 11, 12, 3, 13, 14, 15, 16, 17, 18, 107, 108, 109, 110, 111, 112, 113, 114, 115] (by decide +kernel) (by decide +kernel)) (goodIn_sub (fun _ h => List.mem_cons_of_mem _ (List.mem_append_right _ h)) (by decide +kernel))
set_option maxRecDepth 20000 in
theorem gX3_addEdge_X3_requireVertex : GoodIn wsX3_addEdge (wsV RX3 60 RX3 yX3_requireVertex wsX3_requireVertex) := goodIn_app (goodIn_of _ (by decide +kernel)) ggX3_addEdge_X3_requireVertex
set_option maxRecDepth 20000 in
theorem ggX3_addEdge_X0_joins : GoodIn wsX3_addEdge wsX0_joins := goodIn_r _ [22, 23, 9, 24, 25, 26, 27, 16, 28, 29, 30, 31, 113, 114, 115] (by decide +kernel) (by decide +kernel)
set_option maxRecDepth 20000 in
theorem gX3_addEdge_X0_joins : GoodIn wsX3_addEdge (wsV RX3 63 RX0 yX0_joins wsX0_joins) := goodIn_app (goodIn_of _ (by decide +kernel)) ggX3_addEdge_X0_joins
set_option maxRecDepth 20000 in
theorem ggX3_addEdge_X0_join : GoodIn wsX3_addEdge wsX0_join := goodIn_r _ [35, 29, 36, 23, 9, 24, 113, 114, 115] (by decide +kernel) (by decide +kernel)
set_option maxRecDepth 20000 in
theorem gX3_addEdge_X0_join : GoodIn wsX3_addEdge (wsV RX3 72 RX0 yX0_join wsX0_join) := goodIn_app (goodIn_of _ (by decide +kernel)) ggX3_addEdge_X0_join
set_option maxRecDepth 20000 in
theorem ggX3_addEdge_X2_extend : GoodIn wsX3_addEdge wsX2_extend := goodIn_r _ [41, 42, 43, 44, 45, 46, 47, 40, 48, 49, 50, 51, 52, 53, 16, 54, 18, 55, 56, 57, 58, 59, 60, 61, 62, 63, 64, 65, 23, 9, 24, 30, 31, 66, 67, 68, 69, 70, 71, 72, 73, 74, 75, 76, 77, 78, 79, 80, 81, 82, 83, 84, 85, 86, 87, 88, 89, 90, 91, 92, 93, 94, 95, 96, 97, 98, 99, 100, 101, 102, 103, 104, 105, 106, 26, 27, 28, 29, 116, 117, 118, 119, 120, 121, 122, 123, 124, 125, 113, 114, 115, 126, 127, 128, 129, 130, 131] (by decide +kernel) (by decide +kernel)
set_option maxRecDepth 20000 in
theorem gX3_addEdge_X2_extend : GoodIn wsX3_addEdge (wsV RX3 76 RX2 yX2_extend wsX2_extend) := goodIn_app (goodIn_of _ (by decide +kernel)) ggX3_addEdge_X2_extend
theorem dX3_addEdge_0 : decode cX3_addEdge 0 = .ok (.aload_n 0, 1) := by decide +kernel
theorem dX3_addEdge_1 : decode cX3_addEdge 1 = .ok (.iload_n 1, 1) := by decide +kernel
theorem dX3_addEdge_2 : decode cX3_addEdge 2 = .ok (.invokevirtual 60, 3) := by decide +kernel
theorem dX3_addEdge_5 : decode cX3_addEdge 5 = .ok (.aload_n 0, 1) := by decide +kernel
theorem dX3_addEdge_6 : decode cX3_addEdge 6 = .ok (.iload_n 2, 1) := by decide +kernel
theorem dX3_addEdge_7 : decode cX3_addEdge 7 = .ok (.invokevirtual 60, 3) := by decide +kernel
theorem dX3_addEdge_10 : decode cX3_addEdge 10 = .ok (.iload_n 1, 1) := by decide +kernel
theorem dX3_addEdge_11 : decode cX3_addEdge 11 = .ok (.iload_n 2, 1) := by decide +kernel
theorem dX3_addEdge_12 : decode cX3_addEdge 12 = .ok (.if_icmp .eq 15, 3) := by decide +kernel
theorem dX3_addEdge_15 : decode cX3_addEdge 15 = .ok (.aload_n 0, 1) := by decide +kernel
theorem dX3_addEdge_16 : decode cX3_addEdge 16 = .ok (.getfield 10, 3) := by decide +kernel
theorem dX3_addEdge_19 : decode cX3_addEdge 19 = .ok (.iload_n 1, 1) := by decide +kernel
theorem dX3_addEdge_20 : decode cX3_addEdge 20 = .ok (.iload_n 2, 1) := by decide +kernel
theorem dX3_addEdge_21 : decode cX3_addEdge 21 = .ok (.invokevirtual 63, 3) := by decide +kernel
theorem dX3_addEdge_24 : decode cX3_addEdge 24 = .ok (.ifCond .eq 13, 3) := by decide +kernel
theorem dX3_addEdge_27 : decode cX3_addEdge 27 = .ok (.new 67, 3) := by decide +kernel
theorem dX3_addEdge_30 : decode cX3_addEdge 30 = .ok (.dup, 1) := by decide +kernel
theorem dX3_addEdge_31 : decode cX3_addEdge 31 = .ok (.ldc 69, 2) := by decide +kernel
theorem dX3_addEdge_33 : decode cX3_addEdge 33 = .ok (.invokespecial 71, 3) := by decide +kernel
theorem dX3_addEdge_36 : decode cX3_addEdge 36 = .ok (.athrow, 1) := by decide +kernel
theorem dX3_addEdge_37 : decode cX3_addEdge 37 = .ok (.aload_n 0, 1) := by decide +kernel
theorem dX3_addEdge_38 : decode cX3_addEdge 38 = .ok (.getfield 10, 3) := by decide +kernel
theorem dX3_addEdge_41 : decode cX3_addEdge 41 = .ok (.iload_n 1, 1) := by decide +kernel
theorem dX3_addEdge_42 : decode cX3_addEdge 42 = .ok (.iload_n 2, 1) := by decide +kernel
theorem dX3_addEdge_43 : decode cX3_addEdge 43 = .ok (.invokevirtual 72, 3) := by decide +kernel
theorem dX3_addEdge_46 : decode cX3_addEdge 46 = .ok (.aload_n 0, 1) := by decide +kernel
theorem dX3_addEdge_47 : decode cX3_addEdge 47 = .ok (.getfield 38, 3) := by decide +kernel
theorem dX3_addEdge_50 : decode cX3_addEdge 50 = .ok (.ifCond .eq 15, 3) := by decide +kernel
theorem dX3_addEdge_53 : decode cX3_addEdge 53 = .ok (.aload_n 0, 1) := by decide +kernel
theorem dX3_addEdge_54 : decode cX3_addEdge 54 = .ok (.getfield 28, 3) := by decide +kernel
theorem dX3_addEdge_57 : decode cX3_addEdge 57 = .ok (.iload_n 1, 1) := by decide +kernel
theorem dX3_addEdge_58 : decode cX3_addEdge 58 = .ok (.iload_n 2, 1) := by decide +kernel
theorem dX3_addEdge_59 : decode cX3_addEdge 59 = .ok (.invokevirtual 76, 3) := by decide +kernel
theorem dX3_addEdge_62 : decode cX3_addEdge 62 = .ok (.goto 4, 3) := by decide +kernel
theorem dX3_addEdge_65 : decode cX3_addEdge 65 = .ok (.iconst 0, 1) := by decide +kernel
theorem dX3_addEdge_66 : decode cX3_addEdge 66 = .ok (.ireturn, 1) := by decide +kernel
set_option maxRecDepth 20000 in
theorem ggX3_clear_X0_countOfEdges : GoodIn wsX3_clear wsX0_countOfEdges := goodIn_r _ [9, 10, 37, 38, 39] (by decide +kernel) (by decide +kernel)
set_option maxRecDepth 20000 in
theorem gX3_clear_X0_countOfEdges : GoodIn wsX3_clear (wsV RX3 80 RX0 yX0_countOfEdges wsX0_countOfEdges) := goodIn_app (goodIn_of _ (by decide +kernel)) ggX3_clear_X0_countOfEdges
set_option maxRecDepth 20000 in
theorem ggX3_clear_X0_cutAll : GoodIn wsX3_clear wsX0_cutAll := goodIn_r _ [14, 15, 10, 37, 38, 39] (by decide +kernel) (by decide +kernel)
set_option maxRecDepth 20000 in
theorem gX3_clear_X0_cutAll : GoodIn wsX3_clear (wsV RX3 83 RX0 yX0_cutAll wsX0_cutAll) := goodIn_app (goodIn_of _ (by decide +kernel)) ggX3_clear_X0_cutAll
set_option maxRecDepth 20000 in
theorem ggX3_clear_X1_forget : GoodIn wsX3_clear wsX1_forget := goodIn_r _ [20, 21, 22, 40, 41, 42, 43, 44, 45] (by decide +kernel) (by decide +kernel)
set_option maxRecDepth 20000 in
theorem gX3_clear_X1_forget : GoodIn wsX3_clear (wsV RX3 86 RX1 yX1_forget wsX1_forget) := goodIn_app (goodIn_of _ (by decide +kernel)) ggX3_clear_X1_forget
set_option maxRecDepth 20000 in
theorem ggX3_clear_X2_forgetCounts : GoodIn wsX3_clear wsX2_forgetCounts := goodIn_r _ [27, 28, 29, 30, 46, 47, 48, 49, 50, 51, 52, 53, 54, 55] (by decide +kernel) (by decide +kernel)
set_option maxRecDepth 20000 in
theorem gX3_clear_X2_forgetCounts : GoodIn wsX3_clear (wsV RX3 89 RX2 yX2_forgetCounts wsX2_forgetCounts) := goodIn_app (goodIn_of _ (by decide +kernel)) ggX3_clear_X2_forgetCounts
theorem dX3_clear_0 : decode cX3_clear 0 = .ok (.aload_n 0, 1) := by decide +kernel
theorem dX3_clear_1 : decode cX3_clear 1 = .ok (.getfield 10, 3) := by decide +kernel
theorem dX3_clear_4 : decode cX3_clear 4 = .ok (.invokevirtual 80, 3) := by decide +kernel
theorem dX3_clear_7 : decode cX3_clear 7 = .ok (.istore_n 1, 1) := by decide +kernel
theorem dX3_clear_8 : decode cX3_clear 8 = .ok (.aload_n 0, 1) := by decide +kernel
theorem dX3_clear_9 : decode cX3_clear 9 = .ok (.getfield 10, 3) := by decide +kernel
theorem dX3_clear_12 : decode cX3_clear 12 = .ok (.invokevirtual 83, 3) := by decide +kernel
theorem dX3_clear_15 : decode cX3_clear 15 = .ok (.aload_n 0, 1) := by decide +kernel
theorem dX3_clear_16 : decode cX3_clear 16 = .ok (.getfield 19, 3) := by decide +kernel
theorem dX3_clear_19 : decode cX3_clear 19 = .ok (.invokevirtual 86, 3) := by decide +kernel
theorem dX3_clear_22 : decode cX3_clear 22 = .ok (.aload_n 0, 1) := by decide +kernel
theorem dX3_clear_23 : decode cX3_clear 23 = .ok (.getfield 28, 3) := by decide +kernel
theorem dX3_clear_26 : decode cX3_clear 26 = .ok (.invokevirtual 89, 3) := by decide +kernel
theorem dX3_clear_29 : decode cX3_clear 29 = .ok (.aload_n 0, 1) := by decide +kernel
theorem dX3_clear_30 : decode cX3_clear 30 = .ok (.iconst 0, 1) := by decide +kernel
theorem dX3_clear_31 : decode cX3_clear 31 = .ok (.putfield 38, 3) := by decide +kernel
theorem dX3_clear_34 : decode cX3_clear 34 = .ok (.iload_n 1, 1) := by decide +kernel
theorem dX3_clear_35 : decode cX3_clear 35 = .ok (.ireturn, 1) := by decide +kernel
set_option maxRecDepth 20000 in
theorem ggX3_vertices_X0_size : GoodIn wsX3_vertices wsX0_size := goodIn_r _ [6, 7, 14, 15, 16] (by decide +kernel) (by decide +kernel)
set_option maxRecDepth 20000 in
theorem gX3_vertices_X0_size : GoodIn wsX3_vertices (wsV RX3 57 RX0 yX0_size wsX0_size) := goodIn_app (goodIn_of _ (by decide +kernel)) ggX3_vertices_X0_size
theorem dX3_vertices_0 : decode cX3_vertices 0 = .ok (.aload_n 0, 1) := by decide +kernel
theorem dX3_vertices_1 : decode cX3_vertices 1 = .ok (.getfield 10, 3) := by decide +kernel
theorem dX3_vertices_4 : decode cX3_vertices 4 = .ok (.invokevirtual 57, 3) := by decide +kernel
theorem dX3_vertices_7 : decode cX3_vertices 7 = .ok (.ireturn, 1) := by decide +kernel
set_option maxRecDepth 20000 in
theorem ggX3_edges_X0_countOfEdges : GoodIn wsX3_edges wsX0_countOfEdges := goodIn_r _ [6, 7, 14, 15, 16] (by decide +kernel) (by decide +kernel)
set_option maxRecDepth 20000 in
theorem gX3_edges_X0_countOfEdges : GoodIn wsX3_edges (wsV RX3 80 RX0 yX0_countOfEdges wsX0_countOfEdges) := goodIn_app (goodIn_of _ (by decide +kernel)) ggX3_edges_X0_countOfEdges
theorem dX3_edges_0 : decode cX3_edges 0 = .ok (.aload_n 0, 1) := by decide +kernel
theorem dX3_edges_1 : decode cX3_edges 1 = .ok (.getfield 10, 3) := by decide +kernel
theorem dX3_edges_4 : decode cX3_edges 4 = .ok (.invokevirtual 80, 3) := by decide +kernel
theorem dX3_edges_7 : decode cX3_edges 7 = .ok (.ireturn, 1) := by decide +kernel
set_option maxRecDepth 20000 in
theorem ggX3_neighbours_X3_requireVertex : GoodIn wsX3_neighbours wsX3_requireVertex := goodIn_ca (goodIn_r _ [6, 7, 8, 1, 9, 10, 11, 12, 13, 14, 22, 23, 24, 25, 26, 27, 28, 29, 30] (by decide +kernel) (by decide +kernel)) (goodIn_sub (fun _ h => List.mem_cons_of_mem _ (List.mem_append_right _ h)) (by decide +kernel))
set_option maxRecDepth 20000 in
theorem gX3_neighbours_X3_requireVertex : GoodIn wsX3_neighbours (wsV RX3 60 RX3 yX3_requireVertex wsX3_requireVertex) := goodIn_app (goodIn_of _ (by decide +kernel)) ggX3_neighbours_X3_requireVertex
set_option maxRecDepth 20000 in
theorem ggX3_neighbours_X0_adjacent : GoodIn wsX3_neighbours wsX0_adjacent := goodIn_r _ [18, 19, 20, 5, 21, 28, 29, 30] (by decide +kernel) (by decide +kernel)
set_option maxRecDepth 20000 in
theorem gX3_neighbours_X0_adjacent : GoodIn wsX3_neighbours (wsV RX3 92 RX0 yX0_adjacent wsX0_adjacent) := goodIn_app (goodIn_of _ (by decide +kernel)) ggX3_neighbours_X0_adjacent
theorem dX3_neighbours_0 : decode cX3_neighbours 0 = .ok (.aload_n 0, 1) := by decide +kernel
theorem dX3_neighbours_1 : decode cX3_neighbours 1 = .ok (.iload_n 1, 1) := by decide +kernel
theorem dX3_neighbours_2 : decode cX3_neighbours 2 = .ok (.invokevirtual 60, 3) := by decide +kernel
theorem dX3_neighbours_5 : decode cX3_neighbours 5 = .ok (.aload_n 0, 1) := by decide +kernel
theorem dX3_neighbours_6 : decode cX3_neighbours 6 = .ok (.getfield 10, 3) := by decide +kernel
theorem dX3_neighbours_9 : decode cX3_neighbours 9 = .ok (.iload_n 1, 1) := by decide +kernel
theorem dX3_neighbours_10 : decode cX3_neighbours 10 = .ok (.invokevirtual 92, 3) := by decide +kernel
theorem dX3_neighbours_13 : decode cX3_neighbours 13 = .ok (.lreturn, 1) := by decide +kernel
set_option maxRecDepth 20000 in
theorem ggX3_build_X2_labelAll : GoodIn wsX3_build wsX2_labelAll := goodIn_r _ [7, 8, 9, 10, 11, 12, 13, 6, 14, 15, 16, 17, 18, 19, 20, 21, 22, 23, 24, 25, 26, 27, 28, 29, 30, 31, 32, 33, 34, 35, 36, 37, 38, 39, 40, 41, 42, 43, 44, 45, 46, 47, 48, 49, 50, 51, 52, 53, 54, 55, 56, 57, 58, 59, 60, 61, 62, 63, 64, 65, 66, 67, 68, 69, 70, 71, 72, 73, 74, 75, 76, 77, 78, 79, 80, 81, 82, 83, 84, 85, 86, 87, 88, 89, 90, 91, 92, 93, 94, 95, 96, 97, 98, 99, 100, 101, 102, 103, 110, 111, 112, 113, 114, 115, 116, 117, 118, 119, 120, 121, 122, 123, 124, 125, 126, 127, 128] (by decide +kernel) (by decide +kernel)
set_option maxRecDepth 20000 in
theorem gX3_build_X2_labelAll : GoodIn wsX3_build (wsV RX3 96 RX2 yX2_labelAll wsX2_labelAll) := goodIn_app (goodIn_of _ (by decide +kernel)) ggX3_build_X2_labelAll
theorem dX3_build_0 : decode cX3_build 0 = .ok (.aload_n 0, 1) := by decide +kernel
theorem dX3_build_1 : decode cX3_build 1 = .ok (.iconst 1, 1) := by decide +kernel
theorem dX3_build_2 : decode cX3_build 2 = .ok (.putfield 38, 3) := by decide +kernel
theorem dX3_build_5 : decode cX3_build 5 = .ok (.aload_n 0, 1) := by decide +kernel
theorem dX3_build_6 : decode cX3_build 6 = .ok (.getfield 28, 3) := by decide +kernel
theorem dX3_build_9 : decode cX3_build 9 = .ok (.invokevirtual 96, 3) := by decide +kernel
theorem dX3_build_12 : decode cX3_build 12 = .ok (.ireturn, 1) := by decide +kernel
theorem dX3_isBuilt_0 : decode cX3_isBuilt 0 = .ok (.aload_n 0, 1) := by decide +kernel
theorem dX3_isBuilt_1 : decode cX3_isBuilt 1 = .ok (.getfield 38, 3) := by decide +kernel
theorem dX3_isBuilt_4 : decode cX3_isBuilt 4 = .ok (.ireturn, 1) := by decide +kernel
set_option maxRecDepth 20000 in
theorem ggX3_rank_X3_requireLabelOf : GoodIn wsX3_rank wsX3_requireLabelOf := goodIn_ca (goodIn_ca (goodIn_r _ [6, 7, 8, 9, 5, 10, 11, 12, 13, 14, 15, 16, 17, 18, 19, 20, 21, 22, 23, 24, 25, 26, 35, 36, 37, 38, 39, 40, 41, 42, 43] (by decide +kernel) (by decide +kernel)) (goodIn_sub (fun _ h => List.mem_cons_of_mem _ (List.mem_append_left _ (List.mem_append_right _ h))) (by decide +kernel))) (goodIn_sub (fun _ h => List.mem_cons_of_mem _ (List.mem_append_right _ h)) (by decide +kernel))
set_option maxRecDepth 20000 in
theorem gX3_rank_X3_requireLabelOf : GoodIn wsX3_rank (wsV RX3 99 RX3 yX3_requireLabelOf wsX3_requireLabelOf) := goodIn_app (goodIn_of _ (by decide +kernel)) ggX3_rank_X3_requireLabelOf
set_option maxRecDepth 20000 in
theorem ggX3_rank_X1_rankOf : GoodIn wsX3_rank wsX1_rankOf := goodIn_r _ [31, 32, 33, 5, 34, 44, 45, 46, 47, 48, 49] (by decide +kernel) (by decide +kernel)
set_option maxRecDepth 20000 in
theorem gX3_rank_X1_rankOf : GoodIn wsX3_rank (wsV RX3 102 RX1 yX1_rankOf wsX1_rankOf) := goodIn_app (goodIn_of _ (by decide +kernel)) ggX3_rank_X1_rankOf
theorem dX3_rank_0 : decode cX3_rank 0 = .ok (.aload_n 0, 1) := by decide +kernel
theorem dX3_rank_1 : decode cX3_rank 1 = .ok (.iload_n 1, 1) := by decide +kernel
theorem dX3_rank_2 : decode cX3_rank 2 = .ok (.invokevirtual 99, 3) := by decide +kernel
theorem dX3_rank_5 : decode cX3_rank 5 = .ok (.aload_n 0, 1) := by decide +kernel
theorem dX3_rank_6 : decode cX3_rank 6 = .ok (.getfield 19, 3) := by decide +kernel
theorem dX3_rank_9 : decode cX3_rank 9 = .ok (.iload_n 1, 1) := by decide +kernel
theorem dX3_rank_10 : decode cX3_rank 10 = .ok (.invokevirtual 102, 3) := by decide +kernel
theorem dX3_rank_13 : decode cX3_rank 13 = .ok (.ireturn, 1) := by decide +kernel
set_option maxRecDepth 20000 in
theorem ggX3_entries_X1_countAll : GoodIn wsX3_entries wsX1_countAll := goodIn_r _ [7, 8, 9, 10, 6, 11, 12, 13, 14, 15, 16, 17, 18, 19, 20, 21, 22, 29, 30, 31, 32, 33, 34] (by decide +kernel) (by decide +kernel)
set_option maxRecDepth 20000 in
theorem gX3_entries_X1_countAll : GoodIn wsX3_entries (wsV RX3 106 RX1 yX1_countAll wsX1_countAll) := goodIn_app (goodIn_of _ (by decide +kernel)) ggX3_entries_X1_countAll
theorem dX3_entries_0 : decode cX3_entries 0 = .ok (.aload_n 0, 1) := by decide +kernel
theorem dX3_entries_1 : decode cX3_entries 1 = .ok (.getfield 38, 3) := by decide +kernel
theorem dX3_entries_4 : decode cX3_entries 4 = .ok (.ifCond .eq 13, 3) := by decide +kernel
theorem dX3_entries_7 : decode cX3_entries 7 = .ok (.aload_n 0, 1) := by decide +kernel
theorem dX3_entries_8 : decode cX3_entries 8 = .ok (.getfield 19, 3) := by decide +kernel
theorem dX3_entries_11 : decode cX3_entries 11 = .ok (.invokevirtual 106, 3) := by decide +kernel
theorem dX3_entries_14 : decode cX3_entries 14 = .ok (.goto 4, 3) := by decide +kernel
theorem dX3_entries_17 : decode cX3_entries 17 = .ok (.iconst 0, 1) := by decide +kernel
theorem dX3_entries_18 : decode cX3_entries 18 = .ok (.ireturn, 1) := by decide +kernel
set_option maxRecDepth 20000 in
theorem ggX3_entriesIfBuilt_X2_labelAll : GoodIn wsX3_entriesIfBuilt wsX2_labelAll := goodIn_r _ [7, 8, 9, 10, 11, 12, 13, 6, 14, 15, 16, 17, 18, 19, 20, 21, 22, 23, 24, 25, 26, 27, 28, 29, 30, 31, 32, 33, 34, 35, 36, 37, 38, 39, 40, 41, 42, 43, 44, 45, 46, 47, 48, 49, 50, 51, 52, 53, 54, 55, 56, 57, 58, 59, 60, 61, 62, 63, 64, 65, 66, 67, 68, 69, 70, 71, 72, 73, 74, 75, 76, 77, 78, 79, 80, 81, 82, 83, 84, 85, 86, 87, 88, 89, 90, 91, 92, 93, 94, 95, 96, 97, 98, 99, 100, 101, 102, 103, 119, 120, 121, 122, 123, 124, 125, 126, 127, 128, 129, 130, 131, 132, 133, 134, 135, 136, 137] (by decide +kernel) (by decide +kernel)
set_option maxRecDepth 20000 in
theorem gX3_entriesIfBuilt_X2_labelAll : GoodIn wsX3_entriesIfBuilt (wsV RX3 96 RX2 yX2_labelAll wsX2_labelAll) := goodIn_app (goodIn_of _ (by decide +kernel)) ggX3_entriesIfBuilt_X2_labelAll
set_option maxRecDepth 20000 in
theorem ggX3_entriesIfBuilt_X1_countAll : GoodIn wsX3_entriesIfBuilt wsX1_countAll := goodIn_r _ [107, 108, 109, 110, 20, 111, 23, 43, 44, 45, 112, 47, 48, 49, 50, 51, 52, 129, 130, 131, 132, 133, 134] (by decide +kernel) (by decide +kernel)
set_option maxRecDepth 20000 in
theorem gX3_entriesIfBuilt_X1_countAll : GoodIn wsX3_entriesIfBuilt (wsV RX3 106 RX1 yX1_countAll wsX1_countAll) := goodIn_app (goodIn_of _ (by decide +kernel)) ggX3_entriesIfBuilt_X1_countAll
theorem dX3_entriesIfBuilt_0 : decode cX3_entriesIfBuilt 0 = .ok (.aload_n 0, 1) := by decide +kernel
theorem dX3_entriesIfBuilt_1 : decode cX3_entriesIfBuilt 1 = .ok (.getfield 35, 3) := by decide +kernel
theorem dX3_entriesIfBuilt_4 : decode cX3_entriesIfBuilt 4 = .ok (.invokevirtual 96, 3) := by decide +kernel
theorem dX3_entriesIfBuilt_7 : decode cX3_entriesIfBuilt 7 = .ok (.pop, 1) := by decide +kernel
theorem dX3_entriesIfBuilt_8 : decode cX3_entriesIfBuilt 8 = .ok (.aload_n 0, 1) := by decide +kernel
theorem dX3_entriesIfBuilt_9 : decode cX3_entriesIfBuilt 9 = .ok (.getfield 32, 3) := by decide +kernel
theorem dX3_entriesIfBuilt_12 : decode cX3_entriesIfBuilt 12 = .ok (.invokevirtual 106, 3) := by decide +kernel
theorem dX3_entriesIfBuilt_15 : decode cX3_entriesIfBuilt 15 = .ok (.ireturn, 1) := by decide +kernel
set_option maxRecDepth 20000 in
theorem ggX3_labelSize_X3_requireLabelOf : GoodIn wsX3_labelSize wsX3_requireLabelOf := goodIn_ca (goodIn_ca (goodIn_r _ [6, 7, 8, 9, 5, 10, 11, 12, 13, 14, 15, 16, 17, 18, 19, 20, 21, 22, 23, 24, 25, 26, 42, 43, 44, 45, 46, 47, 48, 49, 50] (by decide +kernel) (by decide +kernel)) (goodIn_sub (fun _ h => List.mem_cons_of_mem _ (List.mem_append_left _ (List.mem_append_right _ h))) (by decide +kernel))) (goodIn_sub (fun _ h => List.mem_cons_of_mem _ (List.mem_append_right _ h)) (by decide +kernel))
set_option maxRecDepth 20000 in
theorem gX3_labelSize_X3_requireLabelOf : GoodIn wsX3_labelSize (wsV RX3 99 RX3 yX3_requireLabelOf wsX3_requireLabelOf) := goodIn_app (goodIn_of _ (by decide +kernel)) ggX3_labelSize_X3_requireLabelOf
set_option maxRecDepth 20000 in
theorem ggX3_labelSize_X1_countOf : GoodIn wsX3_labelSize wsX1_countOf := goodIn_r _ [31, 32, 33, 5, 34, 35, 36, 37, 38, 39, 40, 41, 51, 52, 53, 54, 55, 56] (by decide +kernel) (by decide +kernel)
set_option maxRecDepth 20000 in
theorem gX3_labelSize_X1_countOf : GoodIn wsX3_labelSize (wsV RX3 109 RX1 yX1_countOf wsX1_countOf) := goodIn_app (goodIn_of _ (by decide +kernel)) ggX3_labelSize_X1_countOf
theorem dX3_labelSize_0 : decode cX3_labelSize 0 = .ok (.aload_n 0, 1) := by decide +kernel
theorem dX3_labelSize_1 : decode cX3_labelSize 1 = .ok (.iload_n 1, 1) := by decide +kernel
theorem dX3_labelSize_2 : decode cX3_labelSize 2 = .ok (.invokevirtual 99, 3) := by decide +kernel
theorem dX3_labelSize_5 : decode cX3_labelSize 5 = .ok (.aload_n 0, 1) := by decide +kernel
theorem dX3_labelSize_6 : decode cX3_labelSize 6 = .ok (.getfield 19, 3) := by decide +kernel
theorem dX3_labelSize_9 : decode cX3_labelSize 9 = .ok (.iload_n 1, 1) := by decide +kernel
theorem dX3_labelSize_10 : decode cX3_labelSize 10 = .ok (.invokevirtual 109, 3) := by decide +kernel
theorem dX3_labelSize_13 : decode cX3_labelSize 13 = .ok (.ireturn, 1) := by decide +kernel
set_option maxRecDepth 20000 in
theorem ggX3_entryHub_X3_requireLabelOf : GoodIn wsX3_entryHub wsX3_requireLabelOf := goodIn_ca (goodIn_ca (goodIn_r _ [6, 7, 8, 9, 5, 10, 11, 12, 13, 14, 15, 16, 17, 18, 19, 20, 21, 22, 23, 24, 25, 26, 59, 60, 61, 62, 63, 64, 65, 66, 67] (by decide +kernel) (by decide +kernel)) (goodIn_sub (fun _ h => List.mem_cons_of_mem _ (List.mem_append_left _ (List.mem_append_left _ (List.mem_append_right _ h)))) (by decide +kernel))) (goodIn_sub (fun _ h => List.mem_cons_of_mem _ (List.mem_append_left _ (List.mem_append_right _ h))) (by decide +kernel))
set_option maxRecDepth 20000 in
theorem gX3_entryHub_X3_requireLabelOf : GoodIn wsX3_entryHub (wsV RX3 99 RX3 yX3_requireLabelOf wsX3_requireLabelOf) := goodIn_app (goodIn_of _ (by decide +kernel)) ggX3_entryHub_X3_requireLabelOf
set_option maxRecDepth 20000 in
theorem ggX3_entryHub_X3_requireEntry : GoodIn wsX3_entryHub wsX3_requireEntry := goodIn_ca (goodIn_r _ [30, 31, 32, 1, 33, 34, 35, 36, 37, 38, 39, 5, 40, 41, 42, 43, 44, 45, 46, 47, 59, 60, 61, 62, 63, 64, 68, 69, 70, 71, 72, 73] (by decide +kernel) (by decide +kernel)) (goodIn_sub (fun _ h => List.mem_cons_of_mem _ (List.mem_append_right _ h)) (by decide +kernel))
set_option maxRecDepth 20000 in
theorem gX3_entryHub_X3_requireEntry : GoodIn wsX3_entryHub (wsV RX3 112 RX3 yX3_requireEntry wsX3_requireEntry) := goodIn_app (goodIn_of _ (by decide +kernel)) ggX3_entryHub_X3_requireEntry
set_option maxRecDepth 20000 in
theorem ggX3_entryHub_X1_hubRankOfEntry : GoodIn wsX3_entryHub wsX1_hubRankOfEntry := goodIn_r _ [51, 38, 39, 5, 40, 52, 53, 68, 69, 70, 71, 72, 73] (by decide +kernel) (by decide +kernel)
set_option maxRecDepth 20000 in
theorem gX3_entryHub_X1_hubRankOfEntry : GoodIn wsX3_entryHub (wsV RX3 115 RX1 yX1_hubRankOfEntry wsX1_hubRankOfEntry) := goodIn_app (goodIn_of _ (by decide +kernel)) ggX3_entryHub_X1_hubRankOfEntry
set_option maxRecDepth 20000 in
theorem ggX3_entryHub_X1_vertexOf : GoodIn wsX3_entryHub wsX1_vertexOf := goodIn_r _ [57, 58, 39, 5, 40, 68, 69, 70, 71, 72, 73] (by decide +kernel) (by decide +kernel)
set_option maxRecDepth 20000 in
theorem gX3_entryHub_X1_vertexOf : GoodIn wsX3_entryHub (wsV RX3 118 RX1 yX1_vertexOf wsX1_vertexOf) := goodIn_app (goodIn_of _ (by decide +kernel)) ggX3_entryHub_X1_vertexOf
theorem dX3_entryHub_0 : decode cX3_entryHub 0 = .ok (.aload_n 0, 1) := by decide +kernel
theorem dX3_entryHub_1 : decode cX3_entryHub 1 = .ok (.iload_n 1, 1) := by decide +kernel
theorem dX3_entryHub_2 : decode cX3_entryHub 2 = .ok (.invokevirtual 99, 3) := by decide +kernel
theorem dX3_entryHub_5 : decode cX3_entryHub 5 = .ok (.aload_n 0, 1) := by decide +kernel
theorem dX3_entryHub_6 : decode cX3_entryHub 6 = .ok (.iload_n 1, 1) := by decide +kernel
theorem dX3_entryHub_7 : decode cX3_entryHub 7 = .ok (.iload_n 2, 1) := by decide +kernel
theorem dX3_entryHub_8 : decode cX3_entryHub 8 = .ok (.invokevirtual 112, 3) := by decide +kernel
theorem dX3_entryHub_11 : decode cX3_entryHub 11 = .ok (.aload_n 0, 1) := by decide +kernel
theorem dX3_entryHub_12 : decode cX3_entryHub 12 = .ok (.getfield 19, 3) := by decide +kernel
theorem dX3_entryHub_15 : decode cX3_entryHub 15 = .ok (.aload_n 0, 1) := by decide +kernel
theorem dX3_entryHub_16 : decode cX3_entryHub 16 = .ok (.getfield 19, 3) := by decide +kernel
theorem dX3_entryHub_19 : decode cX3_entryHub 19 = .ok (.iload_n 1, 1) := by decide +kernel
theorem dX3_entryHub_20 : decode cX3_entryHub 20 = .ok (.iload_n 2, 1) := by decide +kernel
theorem dX3_entryHub_21 : decode cX3_entryHub 21 = .ok (.invokevirtual 115, 3) := by decide +kernel
theorem dX3_entryHub_24 : decode cX3_entryHub 24 = .ok (.invokevirtual 118, 3) := by decide +kernel
theorem dX3_entryHub_27 : decode cX3_entryHub 27 = .ok (.ireturn, 1) := by decide +kernel
set_option maxRecDepth 20000 in
theorem ggX3_entryDistance_X3_requireLabelOf : GoodIn wsX3_entryDistance wsX3_requireLabelOf := goodIn_ca (goodIn_ca (goodIn_r _ [6, 7, 8, 9, 5, 10, 11, 12, 13, 14, 15, 16, 17, 18, 19, 20, 21, 22, 23, 24, 25, 26, 63, 64, 65, 66, 67, 68, 69, 70, 71] (by decide +kernel) (by decide +kernel)) (goodIn_sub (fun _ h => List.mem_cons_of_mem _ (List.mem_append_left _ (List.mem_append_left _ (List.mem_append_right _ h)))) (by decide +kernel))) (goodIn_sub (fun _ h => List.mem_cons_of_mem _ (List.mem_append_left _ (List.mem_append_right _ h))) (by decide +kernel))
set_option maxRecDepth 20000 in
theorem gX3_entryDistance_X3_requireLabelOf : GoodIn wsX3_entryDistance (wsV RX3 99 RX3 yX3_requireLabelOf wsX3_requireLabelOf) := goodIn_app (goodIn_of _ (by decide +kernel)) ggX3_entryDistance_X3_requireLabelOf
set_option maxRecDepth 20000 in
theorem ggX3_entryDistance_X3_requireEntry : GoodIn wsX3_entryDistance wsX3_requireEntry := goodIn_ca (goodIn_r _ [30, 31, 32, 1, 33, 34, 35, 36, 37, 38, 39, 5, 40, 41, 42, 43, 44, 45, 46, 47, 63, 64, 65, 66, 67, 68, 72, 73, 74, 75, 76, 77] (by decide +kernel) (by decide +kernel)) (goodIn_sub (fun _ h => List.mem_cons_of_mem _ (List.mem_append_right _ h)) (by decide +kernel))
set_option maxRecDepth 20000 in
theorem gX3_entryDistance_X3_requireEntry : GoodIn wsX3_entryDistance (wsV RX3 112 RX3 yX3_requireEntry wsX3_requireEntry) := goodIn_app (goodIn_of _ (by decide +kernel)) ggX3_entryDistance_X3_requireEntry
set_option maxRecDepth 20000 in
theorem ggX3_entryDistance_X1_hubRankOfEntry : GoodIn wsX3_entryDistance wsX1_hubRankOfEntry := goodIn_r _ [51, 38, 39, 5, 40, 52, 53, 72, 73, 74, 75, 76, 77] (by decide +kernel) (by decide +kernel)
set_option maxRecDepth 20000 in
theorem gX3_entryDistance_X1_hubRankOfEntry : GoodIn wsX3_entryDistance (wsV RX3 115 RX1 yX1_hubRankOfEntry wsX1_hubRankOfEntry) := goodIn_app (goodIn_of _ (by decide +kernel)) ggX3_entryDistance_X1_hubRankOfEntry
set_option maxRecDepth 20000 in
theorem ggX3_entryDistance_X1_distanceTo : GoodIn wsX3_entryDistance wsX1_distanceTo := goodIn_r _ [57, 58, 59, 60, 61, 36, 62, 38, 39, 5, 40, 52, 53, 72, 73, 74, 75, 76, 77] (by decide +kernel) (by decide +kernel)
set_option maxRecDepth 20000 in
theorem gX3_entryDistance_X1_distanceTo : GoodIn wsX3_entryDistance (wsV RX3 121 RX1 yX1_distanceTo wsX1_distanceTo) := goodIn_app (goodIn_of _ (by decide +kernel)) ggX3_entryDistance_X1_distanceTo
theorem dX3_entryDistance_0 : decode cX3_entryDistance 0 = .ok (.aload_n 0, 1) := by decide +kernel
theorem dX3_entryDistance_1 : decode cX3_entryDistance 1 = .ok (.iload_n 1, 1) := by decide +kernel
theorem dX3_entryDistance_2 : decode cX3_entryDistance 2 = .ok (.invokevirtual 99, 3) := by decide +kernel
theorem dX3_entryDistance_5 : decode cX3_entryDistance 5 = .ok (.aload_n 0, 1) := by decide +kernel
theorem dX3_entryDistance_6 : decode cX3_entryDistance 6 = .ok (.iload_n 1, 1) := by decide +kernel
theorem dX3_entryDistance_7 : decode cX3_entryDistance 7 = .ok (.iload_n 2, 1) := by decide +kernel
theorem dX3_entryDistance_8 : decode cX3_entryDistance 8 = .ok (.invokevirtual 112, 3) := by decide +kernel
theorem dX3_entryDistance_11 : decode cX3_entryDistance 11 = .ok (.aload_n 0, 1) := by decide +kernel
theorem dX3_entryDistance_12 : decode cX3_entryDistance 12 = .ok (.getfield 19, 3) := by decide +kernel
theorem dX3_entryDistance_15 : decode cX3_entryDistance 15 = .ok (.aload_n 0, 1) := by decide +kernel
theorem dX3_entryDistance_16 : decode cX3_entryDistance 16 = .ok (.getfield 19, 3) := by decide +kernel
theorem dX3_entryDistance_19 : decode cX3_entryDistance 19 = .ok (.iload_n 1, 1) := by decide +kernel
theorem dX3_entryDistance_20 : decode cX3_entryDistance 20 = .ok (.iload_n 2, 1) := by decide +kernel
theorem dX3_entryDistance_21 : decode cX3_entryDistance 21 = .ok (.invokevirtual 115, 3) := by decide +kernel
theorem dX3_entryDistance_24 : decode cX3_entryDistance 24 = .ok (.iload_n 1, 1) := by decide +kernel
theorem dX3_entryDistance_25 : decode cX3_entryDistance 25 = .ok (.invokevirtual 121, 3) := by decide +kernel
theorem dX3_entryDistance_28 : decode cX3_entryDistance 28 = .ok (.ireturn, 1) := by decide +kernel
set_option maxRecDepth 20000 in
theorem ggX3_entryParent_X3_requireLabelOf : GoodIn wsX3_entryParent wsX3_requireLabelOf := goodIn_ca (goodIn_ca (goodIn_r _ [6, 7, 8, 9, 5, 10, 11, 12, 13, 14, 15, 16, 17, 18, 19, 20, 21, 22, 23, 24, 25, 26, 63, 64, 65, 66, 67, 68, 69, 70, 71] (by decide +kernel) (by decide +kernel)) (goodIn_sub (fun _ h => List.mem_cons_of_mem _ (List.mem_append_left _ (List.mem_append_left _ (List.mem_append_right _ h)))) (by decide +kernel))) (goodIn_sub (fun _ h => List.mem_cons_of_mem _ (List.mem_append_left _ (List.mem_append_right _ h))) (by decide +kernel))
set_option maxRecDepth 20000 in
theorem gX3_entryParent_X3_requireLabelOf : GoodIn wsX3_entryParent (wsV RX3 99 RX3 yX3_requireLabelOf wsX3_requireLabelOf) := goodIn_app (goodIn_of _ (by decide +kernel)) ggX3_entryParent_X3_requireLabelOf
set_option maxRecDepth 20000 in
theorem ggX3_entryParent_X3_requireEntry : GoodIn wsX3_entryParent wsX3_requireEntry := goodIn_ca (goodIn_r _ [30, 31, 32, 1, 33, 34, 35, 36, 37, 38, 39, 5, 40, 41, 42, 43, 44, 45, 46, 47, 63, 64, 65, 66, 67, 68, 72, 73, 74, 75, 76, 77] (by decide +kernel) (by decide +kernel)) (goodIn_sub (fun _ h => List.mem_cons_of_mem _ (List.mem_append_right _ h)) (by decide +kernel))
set_option maxRecDepth 20000 in
theorem gX3_entryParent_X3_requireEntry : GoodIn wsX3_entryParent (wsV RX3 112 RX3 yX3_requireEntry wsX3_requireEntry) := goodIn_app (goodIn_of _ (by decide +kernel)) ggX3_entryParent_X3_requireEntry
set_option maxRecDepth 20000 in
theorem ggX3_entryParent_X1_hubRankOfEntry : GoodIn wsX3_entryParent wsX1_hubRankOfEntry := goodIn_r _ [51, 38, 39, 5, 40, 52, 53, 72, 73, 74, 75, 76, 77] (by decide +kernel) (by decide +kernel)
set_option maxRecDepth 20000 in
theorem gX3_entryParent_X1_hubRankOfEntry : GoodIn wsX3_entryParent (wsV RX3 115 RX1 yX1_hubRankOfEntry wsX1_hubRankOfEntry) := goodIn_app (goodIn_of _ (by decide +kernel)) ggX3_entryParent_X1_hubRankOfEntry
set_option maxRecDepth 20000 in
theorem ggX3_entryParent_X1_parentTowards : GoodIn wsX3_entryParent wsX1_parentTowards := goodIn_r _ [57, 58, 59, 60, 61, 36, 62, 38, 39, 5, 40, 52, 53, 72, 73, 74, 75, 76, 77] (by decide +kernel) (by decide +kernel)
set_option maxRecDepth 20000 in
theorem gX3_entryParent_X1_parentTowards : GoodIn wsX3_entryParent (wsV RX3 124 RX1 yX1_parentTowards wsX1_parentTowards) := goodIn_app (goodIn_of _ (by decide +kernel)) ggX3_entryParent_X1_parentTowards
theorem dX3_entryParent_0 : decode cX3_entryParent 0 = .ok (.aload_n 0, 1) := by decide +kernel
theorem dX3_entryParent_1 : decode cX3_entryParent 1 = .ok (.iload_n 1, 1) := by decide +kernel
theorem dX3_entryParent_2 : decode cX3_entryParent 2 = .ok (.invokevirtual 99, 3) := by decide +kernel
theorem dX3_entryParent_5 : decode cX3_entryParent 5 = .ok (.aload_n 0, 1) := by decide +kernel
theorem dX3_entryParent_6 : decode cX3_entryParent 6 = .ok (.iload_n 1, 1) := by decide +kernel
theorem dX3_entryParent_7 : decode cX3_entryParent 7 = .ok (.iload_n 2, 1) := by decide +kernel
theorem dX3_entryParent_8 : decode cX3_entryParent 8 = .ok (.invokevirtual 112, 3) := by decide +kernel
theorem dX3_entryParent_11 : decode cX3_entryParent 11 = .ok (.aload_n 0, 1) := by decide +kernel
theorem dX3_entryParent_12 : decode cX3_entryParent 12 = .ok (.getfield 19, 3) := by decide +kernel
theorem dX3_entryParent_15 : decode cX3_entryParent 15 = .ok (.aload_n 0, 1) := by decide +kernel
theorem dX3_entryParent_16 : decode cX3_entryParent 16 = .ok (.getfield 19, 3) := by decide +kernel
theorem dX3_entryParent_19 : decode cX3_entryParent 19 = .ok (.iload_n 1, 1) := by decide +kernel
theorem dX3_entryParent_20 : decode cX3_entryParent 20 = .ok (.iload_n 2, 1) := by decide +kernel
theorem dX3_entryParent_21 : decode cX3_entryParent 21 = .ok (.invokevirtual 115, 3) := by decide +kernel
theorem dX3_entryParent_24 : decode cX3_entryParent 24 = .ok (.iload_n 1, 1) := by decide +kernel
theorem dX3_entryParent_25 : decode cX3_entryParent 25 = .ok (.invokevirtual 124, 3) := by decide +kernel
theorem dX3_entryParent_28 : decode cX3_entryParent 28 = .ok (.ireturn, 1) := by decide +kernel
set_option maxRecDepth 20000 in
theorem ggX3_distance_X3_requireLabelsOf : GoodIn wsX3_distance wsX3_requireLabelsOf := goodIn_ca (goodIn_ca (goodIn_r _ [6, 7, 8, 9, 10, 11, 12, 5, 13, 14, 15, 16, 17, 18, 19, 20, 21, 22, 46, 47, 48, 49, 50, 51, 52, 53, 54] (by decide +kernel) (by decide +kernel)) (goodIn_sub (fun _ h => List.mem_cons_of_mem _ (List.mem_append_left _ (List.mem_append_right _ h))) (by decide +kernel))) (goodIn_sub (fun _ h => List.mem_cons_of_mem _ (List.mem_append_right _ h)) (by decide +kernel))
set_option maxRecDepth 20000 in
theorem gX3_distance_X3_requireLabelsOf : GoodIn wsX3_distance (wsV RX3 127 RX3 yX3_requireLabelsOf wsX3_requireLabelsOf) := goodIn_app (goodIn_of _ (by decide +kernel)) ggX3_distance_X3_requireLabelsOf
set_option maxRecDepth 20000 in
theorem ggX3_distance_X1_estimate : GoodIn wsX3_distance wsX1_estimate := goodIn_r _ [27, 28, 29, 30, 26, 31, 32, 33, 34, 35, 36, 37, 5, 38, 39, 40, 41, 42, 43, 44, 45, 55, 56, 57, 58, 59, 60] (by decide +kernel) (by decide +kernel)
set_option maxRecDepth 20000 in
theorem gX3_distance_X1_estimate : GoodIn wsX3_distance (wsV RX3 130 RX1 yX1_estimate wsX1_estimate) := goodIn_app (goodIn_of _ (by decide +kernel)) ggX3_distance_X1_estimate
theorem dX3_distance_0 : decode cX3_distance 0 = .ok (.aload_n 0, 1) := by decide +kernel
theorem dX3_distance_1 : decode cX3_distance 1 = .ok (.iload_n 1, 1) := by decide +kernel
theorem dX3_distance_2 : decode cX3_distance 2 = .ok (.iload_n 2, 1) := by decide +kernel
theorem dX3_distance_3 : decode cX3_distance 3 = .ok (.invokevirtual 127, 3) := by decide +kernel
theorem dX3_distance_6 : decode cX3_distance 6 = .ok (.aload_n 0, 1) := by decide +kernel
theorem dX3_distance_7 : decode cX3_distance 7 = .ok (.getfield 19, 3) := by decide +kernel
theorem dX3_distance_10 : decode cX3_distance 10 = .ok (.iload_n 1, 1) := by decide +kernel
theorem dX3_distance_11 : decode cX3_distance 11 = .ok (.iload_n 2, 1) := by decide +kernel
theorem dX3_distance_12 : decode cX3_distance 12 = .ok (.invokevirtual 130, 3) := by decide +kernel
theorem dX3_distance_15 : decode cX3_distance 15 = .ok (.ireturn, 1) := by decide +kernel
set_option maxRecDepth 20000 in
theorem ggX3_hub_X3_requireLabelsOf : GoodIn wsX3_hub wsX3_requireLabelsOf := goodIn_ca (goodIn_ca (goodIn_r _ [6, 7, 8, 9, 10, 11, 12, 5, 13, 14, 15, 16, 17, 18, 19, 20, 21, 22, 47, 48, 49, 50, 51, 52, 53, 54, 55] (by decide +kernel) (by decide +kernel)) (goodIn_sub (fun _ h => List.mem_cons_of_mem _ (List.mem_append_left _ (List.mem_append_right _ h))) (by decide +kernel))) (goodIn_sub (fun _ h => List.mem_cons_of_mem _ (List.mem_append_right _ h)) (by decide +kernel))
set_option maxRecDepth 20000 in
theorem gX3_hub_X3_requireLabelsOf : GoodIn wsX3_hub (wsV RX3 127 RX3 yX3_requireLabelsOf wsX3_requireLabelsOf) := goodIn_app (goodIn_of _ (by decide +kernel)) ggX3_hub_X3_requireLabelsOf
set_option maxRecDepth 20000 in
theorem ggX3_hub_X1_meetingRank : GoodIn wsX3_hub wsX1_meetingRank := goodIn_r _ [27, 28, 29, 30, 26, 31, 32, 33, 5, 34, 35, 36, 37, 38, 39, 40, 41, 56, 57, 58, 59, 60, 61] (by decide +kernel) (by decide +kernel)
set_option maxRecDepth 20000 in
theorem gX3_hub_X1_meetingRank : GoodIn wsX3_hub (wsV RX3 133 RX1 yX1_meetingRank wsX1_meetingRank) := goodIn_app (goodIn_of _ (by decide +kernel)) ggX3_hub_X1_meetingRank
set_option maxRecDepth 20000 in
theorem ggX3_hub_X1_vertexOf : GoodIn wsX3_hub wsX1_vertexOf := goodIn_r _ [45, 46, 33, 5, 34, 56, 57, 58, 59, 60, 61] (by decide +kernel) (by decide +kernel)
set_option maxRecDepth 20000 in
theorem gX3_hub_X1_vertexOf : GoodIn wsX3_hub (wsV RX3 118 RX1 yX1_vertexOf wsX1_vertexOf) := goodIn_app (goodIn_of _ (by decide +kernel)) ggX3_hub_X1_vertexOf
theorem dX3_hub_0 : decode cX3_hub 0 = .ok (.aload_n 0, 1) := by decide +kernel
theorem dX3_hub_1 : decode cX3_hub 1 = .ok (.iload_n 1, 1) := by decide +kernel
theorem dX3_hub_2 : decode cX3_hub 2 = .ok (.iload_n 2, 1) := by decide +kernel
theorem dX3_hub_3 : decode cX3_hub 3 = .ok (.invokevirtual 127, 3) := by decide +kernel
theorem dX3_hub_6 : decode cX3_hub 6 = .ok (.aload_n 0, 1) := by decide +kernel
theorem dX3_hub_7 : decode cX3_hub 7 = .ok (.getfield 19, 3) := by decide +kernel
theorem dX3_hub_10 : decode cX3_hub 10 = .ok (.aload_n 0, 1) := by decide +kernel
theorem dX3_hub_11 : decode cX3_hub 11 = .ok (.getfield 19, 3) := by decide +kernel
theorem dX3_hub_14 : decode cX3_hub 14 = .ok (.iload_n 1, 1) := by decide +kernel
theorem dX3_hub_15 : decode cX3_hub 15 = .ok (.iload_n 2, 1) := by decide +kernel
theorem dX3_hub_16 : decode cX3_hub 16 = .ok (.invokevirtual 133, 3) := by decide +kernel
theorem dX3_hub_19 : decode cX3_hub 19 = .ok (.invokevirtual 118, 3) := by decide +kernel
theorem dX3_hub_22 : decode cX3_hub 22 = .ok (.ireturn, 1) := by decide +kernel
set_option maxRecDepth 20000 in
theorem ggX3_pathVertex_X3_requireLabelsOf : GoodIn wsX3_pathVertex wsX3_requireLabelsOf := goodIn_ca (goodIn_ca (goodIn_r _ [8, 9, 10, 11, 12, 13, 14, 7, 15, 16, 17, 18, 19, 20, 21, 22, 23, 24, 70, 71, 72, 73, 74, 75, 76, 77, 78] (by decide +kernel) (by decide +kernel)) (goodIn_sub (fun _ h => List.mem_cons_of_mem _ (List.mem_append_left _ (List.mem_append_right _ h))) (by decide +kernel))) (goodIn_sub (fun _ h => List.mem_cons_of_mem _ (List.mem_append_right _ h)) (by decide +kernel))
set_option maxRecDepth 20000 in
theorem gX3_pathVertex_X3_requireLabelsOf : GoodIn wsX3_pathVertex (wsV RX3 127 RX3 yX3_requireLabelsOf wsX3_requireLabelsOf) := goodIn_app (goodIn_of _ (by decide +kernel)) ggX3_pathVertex_X3_requireLabelsOf
set_option maxRecDepth 20000 in
theorem ggX3_pathVertex_X1_vertexOnPath : GoodIn wsX3_pathVertex wsX1_vertexOnPath := goodIn_r _ [29, 30, 31, 32, 28, 33, 34, 35, 36, 37, 38, 39, 7, 40, 41, 42, 43, 44, 45, 46, 47, 48, 49, 50, 51, 52, 53, 54, 55, 56, 57, 58, 59, 60, 61, 62, 63, 64, 65, 66, 67, 68, 69, 79, 80, 81, 82, 83, 84] (by decide +kernel) (by decide +kernel)
set_option maxRecDepth 20000 in
theorem gX3_pathVertex_X1_vertexOnPath : GoodIn wsX3_pathVertex (wsV RX3 138 RX1 yX1_vertexOnPath wsX1_vertexOnPath) := goodIn_app (goodIn_of _ (by decide +kernel)) ggX3_pathVertex_X1_vertexOnPath
theorem dX3_pathVertex_0 : decode cX3_pathVertex 0 = .ok (.aload_n 0, 1) := by decide +kernel
theorem dX3_pathVertex_1 : decode cX3_pathVertex 1 = .ok (.iload_n 1, 1) := by decide +kernel
theorem dX3_pathVertex_2 : decode cX3_pathVertex 2 = .ok (.iload_n 2, 1) := by decide +kernel
theorem dX3_pathVertex_3 : decode cX3_pathVertex 3 = .ok (.invokevirtual 127, 3) := by decide +kernel
theorem dX3_pathVertex_6 : decode cX3_pathVertex 6 = .ok (.iload_n 3, 1) := by decide +kernel
theorem dX3_pathVertex_7 : decode cX3_pathVertex 7 = .ok (.ifCond .ge 13, 3) := by decide +kernel
theorem dX3_pathVertex_10 : decode cX3_pathVertex 10 = .ok (.new 50, 3) := by decide +kernel
theorem dX3_pathVertex_13 : decode cX3_pathVertex 13 = .ok (.dup, 1) := by decide +kernel
theorem dX3_pathVertex_14 : decode cX3_pathVertex 14 = .ok (.ldc 136, 2) := by decide +kernel
theorem dX3_pathVertex_16 : decode cX3_pathVertex 16 = .ok (.invokespecial 54, 3) := by decide +kernel
theorem dX3_pathVertex_19 : decode cX3_pathVertex 19 = .ok (.athrow, 1) := by decide +kernel
theorem dX3_pathVertex_20 : decode cX3_pathVertex 20 = .ok (.aload_n 0, 1) := by decide +kernel
theorem dX3_pathVertex_21 : decode cX3_pathVertex 21 = .ok (.getfield 19, 3) := by decide +kernel
theorem dX3_pathVertex_24 : decode cX3_pathVertex 24 = .ok (.iload_n 1, 1) := by decide +kernel
theorem dX3_pathVertex_25 : decode cX3_pathVertex 25 = .ok (.iload_n 2, 1) := by decide +kernel
theorem dX3_pathVertex_26 : decode cX3_pathVertex 26 = .ok (.iload_n 3, 1) := by decide +kernel
theorem dX3_pathVertex_27 : decode cX3_pathVertex 27 = .ok (.invokevirtual 138, 3) := by decide +kernel
theorem dX3_pathVertex_30 : decode cX3_pathVertex 30 = .ok (.ireturn, 1) := by decide +kernel
set_option maxRecDepth 20000 in
theorem ggX3_within_X3_requireLabelOf : GoodIn wsX3_within wsX3_requireLabelOf := goodIn_ca (goodIn_ca (goodIn_r _ [9, 10, 11, 12, 8, 13, 14, 15, 16, 17, 18, 19, 20, 21, 22, 3, 23, 24, 25, 26, 27, 28, 56, 57, 58, 59, 60, 61, 62, 63, 64] (by decide +kernel) (by decide +kernel)) (goodIn_sub (fun _ h => List.mem_cons_of_mem _ (List.mem_append_left _ (List.mem_append_right _ h))) (by decide +kernel))) (goodIn_sub (fun _ h => List.mem_cons_of_mem _ (List.mem_append_right _ h)) (by decide +kernel))
set_option maxRecDepth 20000 in
theorem gX3_within_X3_requireLabelOf : GoodIn wsX3_within (wsV RX3 99 RX3 yX3_requireLabelOf wsX3_requireLabelOf) := goodIn_app (goodIn_of _ (by decide +kernel)) ggX3_within_X3_requireLabelOf
set_option maxRecDepth 20000 in
theorem ggX3_within_X0_size : GoodIn wsX3_within wsX0_size := goodIn_r _ [32, 28, 62, 63, 64] (by decide +kernel) (by decide +kernel)
set_option maxRecDepth 20000 in
theorem gX3_within_X0_size : GoodIn wsX3_within (wsV RX3 57 RX0 yX0_size wsX0_size) := goodIn_app (goodIn_of _ (by decide +kernel)) ggX3_within_X0_size
set_option maxRecDepth 20000 in
theorem ggX3_within_X1_estimate : GoodIn wsX3_within wsX1_estimate := goodIn_r _ [37, 38, 39, 40, 36, 41, 42, 43, 44, 45, 46, 47, 8, 48, 49, 50, 51, 52, 53, 54, 55, 65, 66, 67, 68, 69, 70] (by decide +kernel) (by decide +kernel)
set_option maxRecDepth 20000 in
theorem gX3_within_X1_estimate : GoodIn wsX3_within (wsV RX3 130 RX1 yX1_estimate wsX1_estimate) := goodIn_app (goodIn_of _ (by decide +kernel)) ggX3_within_X1_estimate
theorem dX3_within_0 : decode cX3_within 0 = .ok (.aload_n 0, 1) := by decide +kernel
theorem dX3_within_1 : decode cX3_within 1 = .ok (.iload_n 1, 1) := by decide +kernel
theorem dX3_within_2 : decode cX3_within 2 = .ok (.invokevirtual 99, 3) := by decide +kernel
theorem dX3_within_5 : decode cX3_within 5 = .ok (.iload_n 2, 1) := by decide +kernel
theorem dX3_within_6 : decode cX3_within 6 = .ok (.ifCond .lt 9, 3) := by decide +kernel
theorem dX3_within_9 : decode cX3_within 9 = .ok (.iload_n 2, 1) := by decide +kernel
theorem dX3_within_10 : decode cX3_within 10 = .ok (.bipush 47, 2) := by decide +kernel
theorem dX3_within_12 : decode cX3_within 12 = .ok (.if_icmp .le 13, 3) := by decide +kernel
theorem dX3_within_15 : decode cX3_within 15 = .ok (.new 50, 3) := by decide +kernel
theorem dX3_within_18 : decode cX3_within 18 = .ok (.dup, 1) := by decide +kernel
theorem dX3_within_19 : decode cX3_within 19 = .ok (.ldc 142, 2) := by decide +kernel
theorem dX3_within_21 : decode cX3_within 21 = .ok (.invokespecial 54, 3) := by decide +kernel
theorem dX3_within_24 : decode cX3_within 24 = .ok (.athrow, 1) := by decide +kernel
theorem dX3_within_25 : decode cX3_within 25 = .ok (.lconst 0, 1) := by decide +kernel
theorem dX3_within_26 : decode cX3_within 26 = .ok (.lstore_n 3, 1) := by decide +kernel
theorem dX3_within_27 : decode cX3_within 27 = .ok (.iconst 0, 1) := by decide +kernel
theorem dX3_within_28 : decode cX3_within 28 = .ok (.istore 5, 2) := by decide +kernel
theorem dX3_within_30 : decode cX3_within 30 = .ok (.iload 5, 2) := by decide +kernel
theorem dX3_within_32 : decode cX3_within 32 = .ok (.aload_n 0, 1) := by decide +kernel
theorem dX3_within_33 : decode cX3_within 33 = .ok (.getfield 10, 3) := by decide +kernel
theorem dX3_within_36 : decode cX3_within 36 = .ok (.invokevirtual 57, 3) := by decide +kernel
theorem dX3_within_39 : decode cX3_within 39 = .ok (.if_icmp .ge 40, 3) := by decide +kernel
theorem dX3_within_42 : decode cX3_within 42 = .ok (.aload_n 0, 1) := by decide +kernel
theorem dX3_within_43 : decode cX3_within 43 = .ok (.getfield 19, 3) := by decide +kernel
theorem dX3_within_46 : decode cX3_within 46 = .ok (.iload_n 1, 1) := by decide +kernel
theorem dX3_within_47 : decode cX3_within 47 = .ok (.iload 5, 2) := by decide +kernel
theorem dX3_within_49 : decode cX3_within 49 = .ok (.invokevirtual 130, 3) := by decide +kernel
theorem dX3_within_52 : decode cX3_within 52 = .ok (.istore 6, 2) := by decide +kernel
theorem dX3_within_54 : decode cX3_within 54 = .ok (.iload 6, 2) := by decide +kernel
theorem dX3_within_56 : decode cX3_within 56 = .ok (.iconst (-1), 1) := by decide +kernel
theorem dX3_within_57 : decode cX3_within 57 = .ok (.if_icmp .eq 16, 3) := by decide +kernel
theorem dX3_within_60 : decode cX3_within 60 = .ok (.iload 6, 2) := by decide +kernel
theorem dX3_within_62 : decode cX3_within 62 = .ok (.iload_n 2, 1) := by decide +kernel
theorem dX3_within_63 : decode cX3_within 63 = .ok (.if_icmp .gt 10, 3) := by decide +kernel
theorem dX3_within_66 : decode cX3_within 66 = .ok (.lload_n 3, 1) := by decide +kernel
theorem dX3_within_67 : decode cX3_within 67 = .ok (.lconst 1, 1) := by decide +kernel
theorem dX3_within_68 : decode cX3_within 68 = .ok (.iload 5, 2) := by decide +kernel
theorem dX3_within_70 : decode cX3_within 70 = .ok (.lshl, 1) := by decide +kernel
theorem dX3_within_71 : decode cX3_within 71 = .ok (.lor, 1) := by decide +kernel
theorem dX3_within_72 : decode cX3_within 72 = .ok (.lstore_n 3, 1) := by decide +kernel
theorem dX3_within_73 : decode cX3_within 73 = .ok (.iinc 5 1, 3) := by decide +kernel
theorem dX3_within_76 : decode cX3_within 76 = .ok (.goto (-46), 3) := by decide +kernel
theorem dX3_within_79 : decode cX3_within 79 = .ok (.lload_n 3, 1) := by decide +kernel
theorem dX3_within_80 : decode cX3_within 80 = .ok (.lreturn, 1) := by decide +kernel
set_option maxRecDepth 20000 in
theorem ggX3_eccentricity_X3_requireLabelOf : GoodIn wsX3_eccentricity wsX3_requireLabelOf := goodIn_ca (goodIn_ca (goodIn_r _ [11, 12, 13, 14, 10, 15, 16, 17, 18, 19, 20, 21, 22, 23, 24, 1, 25, 26, 27, 28, 29, 30, 58, 59, 60, 61, 62, 63, 64, 65, 66] (by decide +kernel) (by decide +kernel)) (goodIn_sub (fun _ h => List.mem_cons_of_mem _ (List.mem_append_left _ (List.mem_append_right _ h))) (by decide +kernel))) (goodIn_sub (fun _ h => List.mem_cons_of_mem _ (List.mem_append_right _ h)) (by decide +kernel))
set_option maxRecDepth 20000 in
theorem gX3_eccentricity_X3_requireLabelOf : GoodIn wsX3_eccentricity (wsV RX3 99 RX3 yX3_requireLabelOf wsX3_requireLabelOf) := goodIn_app (goodIn_of _ (by decide +kernel)) ggX3_eccentricity_X3_requireLabelOf
set_option maxRecDepth 20000 in
theorem ggX3_eccentricity_X0_size : GoodIn wsX3_eccentricity wsX0_size := goodIn_r _ [34, 30, 64, 65, 66] (by decide +kernel) (by decide +kernel)
set_option maxRecDepth 20000 in
theorem gX3_eccentricity_X0_size : GoodIn wsX3_eccentricity (wsV RX3 57 RX0 yX0_size wsX0_size) := goodIn_app (goodIn_of _ (by decide +kernel)) ggX3_eccentricity_X0_size
set_option maxRecDepth 20000 in
theorem ggX3_eccentricity_X1_estimate : GoodIn wsX3_eccentricity wsX1_estimate := goodIn_r _ [39, 40, 41, 42, 38, 43, 44, 45, 46, 47, 48, 49, 10, 50, 51, 52, 53, 54, 55, 56, 57, 67, 68, 69, 70, 71, 72] (by decide +kernel) (by decide +kernel)
set_option maxRecDepth 20000 in
theorem gX3_eccentricity_X1_estimate : GoodIn wsX3_eccentricity (wsV RX3 130 RX1 yX1_estimate wsX1_estimate) := goodIn_app (goodIn_of _ (by decide +kernel)) ggX3_eccentricity_X1_estimate
theorem dX3_eccentricity_0 : decode cX3_eccentricity 0 = .ok (.aload_n 0, 1) := by decide +kernel
theorem dX3_eccentricity_1 : decode cX3_eccentricity 1 = .ok (.iload_n 1, 1) := by decide +kernel
theorem dX3_eccentricity_2 : decode cX3_eccentricity 2 = .ok (.invokevirtual 99, 3) := by decide +kernel
theorem dX3_eccentricity_5 : decode cX3_eccentricity 5 = .ok (.iconst 0, 1) := by decide +kernel
theorem dX3_eccentricity_6 : decode cX3_eccentricity 6 = .ok (.istore_n 2, 1) := by decide +kernel
theorem dX3_eccentricity_7 : decode cX3_eccentricity 7 = .ok (.iconst 0, 1) := by decide +kernel
theorem dX3_eccentricity_8 : decode cX3_eccentricity 8 = .ok (.istore_n 3, 1) := by decide +kernel
theorem dX3_eccentricity_9 : decode cX3_eccentricity 9 = .ok (.iload_n 3, 1) := by decide +kernel
theorem dX3_eccentricity_10 : decode cX3_eccentricity 10 = .ok (.aload_n 0, 1) := by decide +kernel
theorem dX3_eccentricity_11 : decode cX3_eccentricity 11 = .ok (.getfield 10, 3) := by decide +kernel
theorem dX3_eccentricity_14 : decode cX3_eccentricity 14 = .ok (.invokevirtual 57, 3) := by decide +kernel
theorem dX3_eccentricity_17 : decode cX3_eccentricity 17 = .ok (.if_icmp .ge 23, 3) := by decide +kernel
theorem dX3_eccentricity_20 : decode cX3_eccentricity 20 = .ok (.iload_n 2, 1) := by decide +kernel
theorem dX3_eccentricity_21 : decode cX3_eccentricity 21 = .ok (.aload_n 0, 1) := by decide +kernel
theorem dX3_eccentricity_22 : decode cX3_eccentricity 22 = .ok (.getfield 19, 3) := by decide +kernel
theorem dX3_eccentricity_25 : decode cX3_eccentricity 25 = .ok (.iload_n 1, 1) := by decide +kernel
theorem dX3_eccentricity_26 : decode cX3_eccentricity 26 = .ok (.iload_n 3, 1) := by decide +kernel
theorem dX3_eccentricity_27 : decode cX3_eccentricity 27 = .ok (.invokevirtual 130, 3) := by decide +kernel
theorem dX3_eccentricity_30 : decode cX3_eccentricity 30 = .ok (.invokestatic 144, 3) := by decide +kernel
theorem dX3_eccentricity_33 : decode cX3_eccentricity 33 = .ok (.istore_n 2, 1) := by decide +kernel
theorem dX3_eccentricity_34 : decode cX3_eccentricity 34 = .ok (.iinc 3 1, 3) := by decide +kernel
theorem dX3_eccentricity_37 : decode cX3_eccentricity 37 = .ok (.goto (-28), 3) := by decide +kernel
theorem dX3_eccentricity_40 : decode cX3_eccentricity 40 = .ok (.iload_n 2, 1) := by decide +kernel
theorem dX3_eccentricity_41 : decode cX3_eccentricity 41 = .ok (.ireturn, 1) := by decide +kernel
set_option maxRecDepth 20000 in
theorem ggX3_pruned_X2_countOfPruned : GoodIn wsX3_pruned wsX2_countOfPruned := goodIn_r _ [6, 7, 14, 15, 16, 17, 18, 19, 20, 21, 22, 23] (by decide +kernel) (by decide +kernel)
set_option maxRecDepth 20000 in
theorem gX3_pruned_X2_countOfPruned : GoodIn wsX3_pruned (wsV RX3 149 RX2 yX2_countOfPruned wsX2_countOfPruned) := goodIn_app (goodIn_of _ (by decide +kernel)) ggX3_pruned_X2_countOfPruned
theorem dX3_pruned_0 : decode cX3_pruned 0 = .ok (.aload_n 0, 1) := by decide +kernel
theorem dX3_pruned_1 : decode cX3_pruned 1 = .ok (.getfield 28, 3) := by decide +kernel
theorem dX3_pruned_4 : decode cX3_pruned 4 = .ok (.invokevirtual 149, 3) := by decide +kernel
theorem dX3_pruned_7 : decode cX3_pruned 7 = .ok (.ireturn, 1) := by decide +kernel
set_option maxRecDepth 20000 in
theorem ggX3_written_X2_countOfWritten : GoodIn wsX3_written wsX2_countOfWritten := goodIn_r _ [6, 7, 14, 15, 16, 17, 18, 19, 20, 21, 22, 23] (by decide +kernel) (by decide +kernel)
set_option maxRecDepth 20000 in
theorem gX3_written_X2_countOfWritten : GoodIn wsX3_written (wsV RX3 152 RX2 yX2_countOfWritten wsX2_countOfWritten) := goodIn_app (goodIn_of _ (by decide +kernel)) ggX3_written_X2_countOfWritten
theorem dX3_written_0 : decode cX3_written 0 = .ok (.aload_n 0, 1) := by decide +kernel
theorem dX3_written_1 : decode cX3_written 1 = .ok (.getfield 28, 3) := by decide +kernel
theorem dX3_written_4 : decode cX3_written 4 = .ok (.invokevirtual 152, 3) := by decide +kernel
theorem dX3_written_7 : decode cX3_written 7 = .ok (.ireturn, 1) := by decide +kernel
set_option maxRecDepth 20000 in
theorem ggX3_appendVertex_X0_grow : GoodIn wsX3_appendVertex wsX0_grow := goodIn_r _ [8, 9, 38, 39, 40] (by decide +kernel) (by decide +kernel)
set_option maxRecDepth 20000 in
theorem gX3_appendVertex_X0_grow : GoodIn wsX3_appendVertex (wsV RX3 155 RX0 yX0_grow wsX0_grow) := goodIn_app (goodIn_of _ (by decide +kernel)) ggX3_appendVertex_X0_grow
set_option maxRecDepth 20000 in
theorem ggX3_appendVertex_X1_rankNext : GoodIn wsX3_appendVertex wsX1_rankNext := goodIn_r _ [14, 15, 16, 17, 18, 19, 20, 41, 42, 43, 44, 45, 46] (by decide +kernel) (by decide +kernel)
set_option maxRecDepth 20000 in
theorem gX3_appendVertex_X1_rankNext : GoodIn wsX3_appendVertex (wsV RX3 158 RX1 yX1_rankNext wsX1_rankNext) := goodIn_app (goodIn_of _ (by decide +kernel)) ggX3_appendVertex_X1_rankNext
set_option maxRecDepth 20000 in
theorem ggX3_appendVertex_X1_rankOf : GoodIn wsX3_appendVertex wsX1_rankOf := goodIn_r _ [24, 16, 18, 19, 20, 41, 42, 43, 44, 45, 46] (by decide +kernel) (by decide +kernel)
set_option maxRecDepth 20000 in
theorem gX3_appendVertex_X1_rankOf : GoodIn wsX3_appendVertex (wsV RX3 102 RX1 yX1_rankOf wsX1_rankOf) := goodIn_app (goodIn_of _ (by decide +kernel)) ggX3_appendVertex_X1_rankOf
set_option maxRecDepth 20000 in
theorem ggX3_appendVertex_X1_put : GoodIn wsX3_appendVertex wsX1_put := goodIn_r _ [28, 29, 30, 31, 18, 19, 20, 41, 42, 43, 44, 45, 46] (by decide +kernel) (by decide +kernel)
set_option maxRecDepth 20000 in
theorem gX3_appendVertex_X1_put : GoodIn wsX3_appendVertex (wsV RX3 161 RX1 yX1_put wsX1_put) := goodIn_app (goodIn_of _ (by decide +kernel)) ggX3_appendVertex_X1_put
theorem dX3_appendVertex_0 : decode cX3_appendVertex 0 = .ok (.aload_n 0, 1) := by decide +kernel
theorem dX3_appendVertex_1 : decode cX3_appendVertex 1 = .ok (.getfield 10, 3) := by decide +kernel
theorem dX3_appendVertex_4 : decode cX3_appendVertex 4 = .ok (.invokevirtual 155, 3) := by decide +kernel
theorem dX3_appendVertex_7 : decode cX3_appendVertex 7 = .ok (.istore_n 1, 1) := by decide +kernel
theorem dX3_appendVertex_8 : decode cX3_appendVertex 8 = .ok (.aload_n 0, 1) := by decide +kernel
theorem dX3_appendVertex_9 : decode cX3_appendVertex 9 = .ok (.getfield 38, 3) := by decide +kernel
theorem dX3_appendVertex_12 : decode cX3_appendVertex 12 = .ok (.ifCond .eq 29, 3) := by decide +kernel
theorem dX3_appendVertex_15 : decode cX3_appendVertex 15 = .ok (.aload_n 0, 1) := by decide +kernel
theorem dX3_appendVertex_16 : decode cX3_appendVertex 16 = .ok (.getfield 19, 3) := by decide +kernel
theorem dX3_appendVertex_19 : decode cX3_appendVertex 19 = .ok (.iload_n 1, 1) := by decide +kernel
theorem dX3_appendVertex_20 : decode cX3_appendVertex 20 = .ok (.invokevirtual 158, 3) := by decide +kernel
theorem dX3_appendVertex_23 : decode cX3_appendVertex 23 = .ok (.aload_n 0, 1) := by decide +kernel
theorem dX3_appendVertex_24 : decode cX3_appendVertex 24 = .ok (.getfield 19, 3) := by decide +kernel
theorem dX3_appendVertex_27 : decode cX3_appendVertex 27 = .ok (.aload_n 0, 1) := by decide +kernel
theorem dX3_appendVertex_28 : decode cX3_appendVertex 28 = .ok (.getfield 19, 3) := by decide +kernel
theorem dX3_appendVertex_31 : decode cX3_appendVertex 31 = .ok (.iload_n 1, 1) := by decide +kernel
theorem dX3_appendVertex_32 : decode cX3_appendVertex 32 = .ok (.invokevirtual 102, 3) := by decide +kernel
theorem dX3_appendVertex_35 : decode cX3_appendVertex 35 = .ok (.iload_n 1, 1) := by decide +kernel
theorem dX3_appendVertex_36 : decode cX3_appendVertex 36 = .ok (.iconst 0, 1) := by decide +kernel
theorem dX3_appendVertex_37 : decode cX3_appendVertex 37 = .ok (.iconst (-1), 1) := by decide +kernel
theorem dX3_appendVertex_38 : decode cX3_appendVertex 38 = .ok (.invokevirtual 161, 3) := by decide +kernel
theorem dX3_appendVertex_41 : decode cX3_appendVertex 41 = .ok (.iload_n 1, 1) := by decide +kernel
theorem dX3_appendVertex_42 : decode cX3_appendVertex 42 = .ok (.ireturn, 1) := by decide +kernel
set_option maxRecDepth 20000 in
theorem ggX3_requireRoomFor_X0_size : GoodIn wsX3_requireRoomFor wsX0_size := goodIn_r _ [8, 9, 16, 17, 18] (by decide +kernel) (by decide +kernel)
set_option maxRecDepth 20000 in
theorem gX3_requireRoomFor_X0_size : GoodIn wsX3_requireRoomFor (wsV RX3 57 RX0 yX0_size wsX0_size) := goodIn_app (goodIn_of _ (by decide +kernel)) ggX3_requireRoomFor_X0_size
theorem dX3_requireRoomFor_0 : decode cX3_requireRoomFor 0 = .ok (.iload_n 1, 1) := by decide +kernel
theorem dX3_requireRoomFor_1 : decode cX3_requireRoomFor 1 = .ok (.bipush 48, 2) := by decide +kernel
theorem dX3_requireRoomFor_3 : decode cX3_requireRoomFor 3 = .ok (.aload_n 0, 1) := by decide +kernel
theorem dX3_requireRoomFor_4 : decode cX3_requireRoomFor 4 = .ok (.getfield 10, 3) := by decide +kernel
theorem dX3_requireRoomFor_7 : decode cX3_requireRoomFor 7 = .ok (.invokevirtual 57, 3) := by decide +kernel
theorem dX3_requireRoomFor_10 : decode cX3_requireRoomFor 10 = .ok (.isub, 1) := by decide +kernel
theorem dX3_requireRoomFor_11 : decode cX3_requireRoomFor 11 = .ok (.if_icmp .le 13, 3) := by decide +kernel
theorem dX3_requireRoomFor_14 : decode cX3_requireRoomFor 14 = .ok (.new 67, 3) := by decide +kernel
theorem dX3_requireRoomFor_17 : decode cX3_requireRoomFor 17 = .ok (.dup, 1) := by decide +kernel
theorem dX3_requireRoomFor_18 : decode cX3_requireRoomFor 18 = .ok (.ldc 165, 2) := by decide +kernel
theorem dX3_requireRoomFor_20 : decode cX3_requireRoomFor 20 = .ok (.invokespecial 71, 3) := by decide +kernel
theorem dX3_requireRoomFor_23 : decode cX3_requireRoomFor 23 = .ok (.athrow, 1) := by decide +kernel
theorem dX3_requireRoomFor_24 : decode cX3_requireRoomFor 24 = .ok (.return_, 1) := by decide +kernel
set_option maxRecDepth 20000 in
theorem ggX3_requireVertex_X0_has : GoodIn wsX3_requireVertex wsX0_has := goodIn_r _ [8, 9, 16, 17, 18] (by decide +kernel) (by decide +kernel)
set_option maxRecDepth 20000 in
theorem gX3_requireVertex_X0_has : GoodIn wsX3_requireVertex (wsV RX3 167 RX0 yX0_has wsX0_has) := goodIn_app (goodIn_of _ (by decide +kernel)) ggX3_requireVertex_X0_has
theorem dX3_requireVertex_0 : decode cX3_requireVertex 0 = .ok (.aload_n 0, 1) := by decide +kernel
theorem dX3_requireVertex_1 : decode cX3_requireVertex 1 = .ok (.getfield 10, 3) := by decide +kernel
theorem dX3_requireVertex_4 : decode cX3_requireVertex 4 = .ok (.iload_n 1, 1) := by decide +kernel
theorem dX3_requireVertex_5 : decode cX3_requireVertex 5 = .ok (.invokevirtual 167, 3) := by decide +kernel
theorem dX3_requireVertex_8 : decode cX3_requireVertex 8 = .ok (.ifCond .ne 13, 3) := by decide +kernel
theorem dX3_requireVertex_11 : decode cX3_requireVertex 11 = .ok (.new 171, 3) := by decide +kernel
theorem dX3_requireVertex_14 : decode cX3_requireVertex 14 = .ok (.dup, 1) := by decide +kernel
theorem dX3_requireVertex_15 : decode cX3_requireVertex 15 = .ok (.ldc 173, 2) := by decide +kernel
theorem dX3_requireVertex_17 : decode cX3_requireVertex 17 = .ok (.invokespecial 175, 3) := by decide +kernel
theorem dX3_requireVertex_20 : decode cX3_requireVertex 20 = .ok (.athrow, 1) := by decide +kernel
theorem dX3_requireVertex_21 : decode cX3_requireVertex 21 = .ok (.return_, 1) := by decide +kernel
set_option maxRecDepth 20000 in
theorem ggX3_requireLabelOf_X3_requireLabelsOf : GoodIn wsX3_requireLabelOf wsX3_requireLabelsOf := goodIn_ca (goodIn_ca (goodIn_r _ [5, 6, 7, 8, 9, 10, 11, 4, 12, 13, 14, 15, 16, 17, 18, 19, 20, 21, 22, 23, 24, 25, 26, 27, 28, 29, 30] (by decide +kernel) (by decide +kernel)) (goodIn_sub (fun _ h => List.mem_cons_of_mem _ (List.mem_append_left _ (List.mem_append_right _ h))) (by decide +kernel))) (goodIn_sub (fun _ h => List.mem_cons_of_mem _ (List.mem_append_right _ h)) (by decide +kernel))
set_option maxRecDepth 20000 in
theorem gX3_requireLabelOf_X3_requireLabelsOf : GoodIn wsX3_requireLabelOf (wsV RX3 127 RX3 yX3_requireLabelsOf wsX3_requireLabelsOf) := goodIn_app (goodIn_of _ (by decide +kernel)) ggX3_requireLabelOf_X3_requireLabelsOf
theorem dX3_requireLabelOf_0 : decode cX3_requireLabelOf 0 = .ok (.aload_n 0, 1) := by decide +kernel
theorem dX3_requireLabelOf_1 : decode cX3_requireLabelOf 1 = .ok (.iload_n 1, 1) := by decide +kernel
theorem dX3_requireLabelOf_2 : decode cX3_requireLabelOf 2 = .ok (.iload_n 1, 1) := by decide +kernel
theorem dX3_requireLabelOf_3 : decode cX3_requireLabelOf 3 = .ok (.invokevirtual 127, 3) := by decide +kernel
theorem dX3_requireLabelOf_6 : decode cX3_requireLabelOf 6 = .ok (.return_, 1) := by decide +kernel
set_option maxRecDepth 20000 in
theorem ggX3_requireLabelsOf_X3_requireVertex : GoodIn wsX3_requireLabelsOf wsX3_requireVertex := goodIn_ca (goodIn_r _ [8, 9, 10, 11, 12, 13, 14, 15, 16, 17, 18, 19, 20, 21, 22, 23, 24, 25, 26] (by decide +kernel) (by decide +kernel)) (goodIn_sub (fun _ h => List.mem_cons_of_mem _ (List.mem_append_right _ h)) (by decide +kernel))
set_option maxRecDepth 20000 in
theorem gX3_requireLabelsOf_X3_requireVertex : GoodIn wsX3_requireLabelsOf (wsV RX3 60 RX3 yX3_requireVertex wsX3_requireVertex) := goodIn_app (goodIn_of _ (by decide +kernel)) ggX3_requireLabelsOf_X3_requireVertex
theorem dX3_requireLabelsOf_0 : decode cX3_requireLabelsOf 0 = .ok (.aload_n 0, 1) := by decide +kernel
theorem dX3_requireLabelsOf_1 : decode cX3_requireLabelsOf 1 = .ok (.iload_n 1, 1) := by decide +kernel
theorem dX3_requireLabelsOf_2 : decode cX3_requireLabelsOf 2 = .ok (.invokevirtual 60, 3) := by decide +kernel
theorem dX3_requireLabelsOf_5 : decode cX3_requireLabelsOf 5 = .ok (.aload_n 0, 1) := by decide +kernel
theorem dX3_requireLabelsOf_6 : decode cX3_requireLabelsOf 6 = .ok (.iload_n 2, 1) := by decide +kernel
theorem dX3_requireLabelsOf_7 : decode cX3_requireLabelsOf 7 = .ok (.invokevirtual 60, 3) := by decide +kernel
theorem dX3_requireLabelsOf_10 : decode cX3_requireLabelsOf 10 = .ok (.aload_n 0, 1) := by decide +kernel
theorem dX3_requireLabelsOf_11 : decode cX3_requireLabelsOf 11 = .ok (.getfield 38, 3) := by decide +kernel
theorem dX3_requireLabelsOf_14 : decode cX3_requireLabelsOf 14 = .ok (.ifCond .ne 13, 3) := by decide +kernel
theorem dX3_requireLabelsOf_17 : decode cX3_requireLabelsOf 17 = .ok (.new 67, 3) := by decide +kernel
theorem dX3_requireLabelsOf_20 : decode cX3_requireLabelsOf 20 = .ok (.dup, 1) := by decide +kernel
theorem dX3_requireLabelsOf_21 : decode cX3_requireLabelsOf 21 = .ok (.ldc 176, 2) := by decide +kernel
theorem dX3_requireLabelsOf_23 : decode cX3_requireLabelsOf 23 = .ok (.invokespecial 71, 3) := by decide +kernel
theorem dX3_requireLabelsOf_26 : decode cX3_requireLabelsOf 26 = .ok (.athrow, 1) := by decide +kernel
theorem dX3_requireLabelsOf_27 : decode cX3_requireLabelsOf 27 = .ok (.return_, 1) := by decide +kernel
set_option maxRecDepth 20000 in
theorem ggX3_requireEntry_X1_countOf : GoodIn wsX3_requireEntry wsX1_countOf := goodIn_r _ [8, 9, 10, 11, 12, 13, 14, 15, 16, 17, 18, 19, 26, 27, 28, 29, 30, 31] (by decide +kernel) (by decide +kernel)
set_option maxRecDepth 20000 in
theorem gX3_requireEntry_X1_countOf : GoodIn wsX3_requireEntry (wsV RX3 109 RX1 yX1_countOf wsX1_countOf) := goodIn_app (goodIn_of _ (by decide +kernel)) ggX3_requireEntry_X1_countOf
theorem dX3_requireEntry_0 : decode cX3_requireEntry 0 = .ok (.iload_n 2, 1) := by decide +kernel
theorem dX3_requireEntry_1 : decode cX3_requireEntry 1 = .ok (.ifCond .lt 15, 3) := by decide +kernel
theorem dX3_requireEntry_4 : decode cX3_requireEntry 4 = .ok (.iload_n 2, 1) := by decide +kernel
theorem dX3_requireEntry_5 : decode cX3_requireEntry 5 = .ok (.aload_n 0, 1) := by decide +kernel
theorem dX3_requireEntry_6 : decode cX3_requireEntry 6 = .ok (.getfield 19, 3) := by decide +kernel
theorem dX3_requireEntry_9 : decode cX3_requireEntry 9 = .ok (.iload_n 1, 1) := by decide +kernel
theorem dX3_requireEntry_10 : decode cX3_requireEntry 10 = .ok (.invokevirtual 109, 3) := by decide +kernel
theorem dX3_requireEntry_13 : decode cX3_requireEntry 13 = .ok (.if_icmp .lt 13, 3) := by decide +kernel
theorem dX3_requireEntry_16 : decode cX3_requireEntry 16 = .ok (.new 50, 3) := by decide +kernel
theorem dX3_requireEntry_19 : decode cX3_requireEntry 19 = .ok (.dup, 1) := by decide +kernel
theorem dX3_requireEntry_20 : decode cX3_requireEntry 20 = .ok (.ldc 178, 2) := by decide +kernel
theorem dX3_requireEntry_22 : decode cX3_requireEntry 22 = .ok (.invokespecial 54, 3) := by decide +kernel
theorem dX3_requireEntry_25 : decode cX3_requireEntry 25 = .ok (.athrow, 1) := by decide +kernel
theorem dX3_requireEntry_26 : decode cX3_requireEntry 26 = .ok (.return_, 1) := by decide +kernel
theorem dX3_isRow_0 : decode cX3_isRow 0 = .ok (.iload_n 0, 1) := by decide +kernel
theorem dX3_isRow_1 : decode cX3_isRow 1 = .ok (.ifCond .lt 13, 3) := by decide +kernel
theorem dX3_isRow_4 : decode cX3_isRow 4 = .ok (.iload_n 0, 1) := by decide +kernel
theorem dX3_isRow_5 : decode cX3_isRow 5 = .ok (.bipush 48, 2) := by decide +kernel
theorem dX3_isRow_7 : decode cX3_isRow 7 = .ok (.if_icmp .ge 7, 3) := by decide +kernel
theorem dX3_isRow_10 : decode cX3_isRow 10 = .ok (.iconst 1, 1) := by decide +kernel
theorem dX3_isRow_11 : decode cX3_isRow 11 = .ok (.goto 4, 3) := by decide +kernel
theorem dX3_isRow_14 : decode cX3_isRow 14 = .ok (.iconst 0, 1) := by decide +kernel
theorem dX3_isRow_15 : decode cX3_isRow 15 = .ok (.ireturn, 1) := by decide +kernel
theorem dX3_hasBit_0 : decode cX3_hasBit 0 = .ok (.lload_n 0, 1) := by decide +kernel
theorem dX3_hasBit_1 : decode cX3_hasBit 1 = .ok (.iload_n 2, 1) := by decide +kernel
theorem dX3_hasBit_2 : decode cX3_hasBit 2 = .ok (.lushr, 1) := by decide +kernel
theorem dX3_hasBit_3 : decode cX3_hasBit 3 = .ok (.lconst 1, 1) := by decide +kernel
theorem dX3_hasBit_4 : decode cX3_hasBit 4 = .ok (.land, 1) := by decide +kernel
theorem dX3_hasBit_5 : decode cX3_hasBit 5 = .ok (.lconst 0, 1) := by decide +kernel
theorem dX3_hasBit_6 : decode cX3_hasBit 6 = .ok (.lcmp, 1) := by decide +kernel
theorem dX3_hasBit_7 : decode cX3_hasBit 7 = .ok (.ifCond .eq 7, 3) := by decide +kernel
theorem dX3_hasBit_10 : decode cX3_hasBit 10 = .ok (.iconst 1, 1) := by decide +kernel
theorem dX3_hasBit_11 : decode cX3_hasBit 11 = .ok (.goto 4, 3) := by decide +kernel
theorem dX3_hasBit_14 : decode cX3_hasBit 14 = .ok (.iconst 0, 1) := by decide +kernel
theorem dX3_hasBit_15 : decode cX3_hasBit 15 = .ok (.ireturn, 1) := by decide +kernel
end
section
/-! plain facts to paste, each family by itself; over the kit's nI, lN and upd -/
/-! ===== drawers: more things than places ===== -/
theorem fb_holes : ∀ (m n : Nat) (f : Nat → Nat), (∀ i, i < n → f i < m) → (∀ i j, i < j → j < n → f i ≠ f j) → n ≤ m := by
  intro m
  induction m with
  | zero =>
    intro n f h1 _
    rcases Nat.eq_zero_or_pos n with h | h
    · omega
    · exact absurd (h1 0 h) (Nat.not_lt_zero _)
  | succ m ih =>
    intro n f h1 h2
    by_cases hx : ∃ i, i < n ∧ f i = m
    · obtain ⟨a, ha, hfa⟩ := hx
      have hg := ih (n - 1) (fun i => if i < a then f i else f (i + 1)) (by
        intro i hi
        by_cases q : i < a
        · simp only [if_pos q]
          have b1 := h1 i (by omega)
          have b2 := h2 i a q ha
          omega
        · simp only [if_neg q]
          have b1 := h1 (i + 1) (by omega)
          have b2 := h2 a (i + 1) (by omega) (by omega)
          omega) (by
        intro i j hij hj
        by_cases q : i < a
        · by_cases r : j < a
          · simp only [if_pos q, if_pos r]
            exact h2 i j hij (by omega)
          · simp only [if_pos q, if_neg r]
            exact h2 i (j + 1) (by omega) (by omega)
        · have r : ¬ j < a := by omega
          simp only [if_neg q, if_neg r]
          exact h2 (i + 1) (j + 1) (by omega) (by omega))
      omega
    · have hg := ih n f (fun i hi => by
        have b1 := h1 i hi
        have b2 : f i ≠ m := fun e => hx ⟨i, hi, e⟩
        omega) h2
      omega
/-- two of them in one place -/
theorem fb_twice {m n : Nat} {f : Nat → Nat} (h : ∀ i, i < n → f i < m) (hm : m < n) : ∃ i j, i < j ∧ j < n ∧ f i = f j := by
  refine Classical.byContradiction fun hx => ?_
  have := fb_holes m n f h (fun i j hij hj e => hx ⟨i, j, hij, hj, e⟩)
  omega
/-- as many as places, none twice: each place is taken -/
theorem fb_onto {n : Nat} {f : Nat → Nat} (h : ∀ i, i < n → f i < n) (h2 : ∀ i j, i < j → j < n → f i ≠ f j) {y : Nat} (hy : y < n) : ∃ i, i < n ∧ f i = y := by
  refine Classical.byContradiction fun hx => ?_
  have hne : ∀ i, i < n → f i ≠ y := fun i hi e => hx ⟨i, hi, e⟩
  have := fb_holes (n - 1) n (fun i => if f i < y then f i else f i - 1) (by
    intro i hi
    have b1 := h i hi
    have b2 := hne i hi
    by_cases q : f i < y
    · simp only [if_pos q]; omega
    · simp only [if_neg q]; omega) (by
    intro i j hij hj
    have b1 := hne i (by omega)
    have b2 := hne j hj
    have b3 := h2 i j hij hj
    by_cases q : f i < y
    · by_cases r : f j < y
      · simp only [if_pos q, if_pos r]; exact b3
      · simp only [if_pos q, if_neg r]; omega
    · by_cases r : f j < y
      · simp only [if_neg q, if_pos r]; omega
      · simp only [if_neg q, if_neg r]; omega)
  omega
/-! ===== how many places have a property ===== -/
def fb_ct (p : Nat → Bool) : Nat → Nat
  | 0 => 0
  | n + 1 => fb_ct p n + (if p n then 1 else 0)
theorem fb_ct_succ (p : Nat → Bool) (n : Nat) : fb_ct p (n + 1) = fb_ct p n + (if p n then 1 else 0) := rfl
theorem fb_ct_le (p : Nat → Bool) : ∀ n, fb_ct p n ≤ n
  | 0 => Nat.le_refl _
  | n + 1 => by
    have h := fb_ct_le p n
    rw [fb_ct_succ]
    split <;> omega
theorem fb_ct_step (p : Nat → Bool) (m : Nat) : ∀ n, fb_ct p m ≤ fb_ct p (m + n)
  | 0 => Nat.le_refl _
  | n + 1 => by
    have h := fb_ct_step p m n
    show fb_ct p m ≤ fb_ct p (m + n + 1)
    rw [fb_ct_succ]
    omega
theorem fb_ct_mono (p : Nat → Bool) {m n : Nat} (h : m ≤ n) : fb_ct p m ≤ fb_ct p n := by
  have := fb_ct_step p m (n - m)
  rwa [Nat.add_sub_cancel' h] at this
theorem fb_ct_cong {p q : Nat → Bool} : ∀ {n : Nat}, (∀ k, k < n → p k = q k) → fb_ct p n = fb_ct q n
  | 0, _ => rfl
  | n + 1, h => by
    rw [fb_ct_succ, fb_ct_succ, fb_ct_cong (fun k hk => h k (by omega)), h n (by omega)]
/-- one place changed -/
theorem fb_ct_out (p : Nat → Bool) (b : Bool) {i n : Nat} (h : n ≤ i) : fb_ct (fun k => if k = i then b else p k) n = fb_ct p n :=
  fb_ct_cong fun k hk => if_neg (by omega)
theorem fb_ct_upd (p : Nat → Bool) (b : Bool) {i : Nat} : ∀ {n : Nat}, i < n → fb_ct (fun k => if k = i then b else p k) n + (if p i then 1 else 0) = fb_ct p n + (if b then 1 else 0)
  | 0, h => absurd h (Nat.not_lt_zero i)
  | n + 1, h => by
    rw [fb_ct_succ, fb_ct_succ]
    rcases Nat.lt_or_ge i n with q | q
    · have := fb_ct_upd p b q
      have e : (if n = i then b else p n) = p n := if_neg (by omega)
      rw [e]
      omega
    · have e : i = n := by omega
      subst e
      rw [fb_ct_out p b (Nat.le_refl _)]
      simp only [if_true]
      omega
theorem fb_ct_sub {p q : Nat → Bool} : ∀ {n : Nat}, (∀ k, k < n → p k = true → q k = true) → fb_ct p n ≤ fb_ct q n
  | 0, _ => Nat.le_refl _
  | n + 1, h => by
    have h1 := fb_ct_sub (n := n) (p := p) (q := q) (fun k hk => h k (by omega))
    have h2 := h n (by omega)
    rw [fb_ct_succ, fb_ct_succ]
    cases hp : p n <;> cases hq : q n <;> simp_all <;> omega
theorem fb_ct_or {p q : Nat → Bool} : ∀ {n : Nat}, (∀ k, k < n → ¬ (p k = true ∧ q k = true)) → fb_ct (fun k => p k || q k) n = fb_ct p n + fb_ct q n
  | 0, _ => rfl
  | n + 1, h => by
    have h1 := fb_ct_or (n := n) (p := p) (q := q) (fun k hk => h k (by omega))
    have h2 := h n (by omega)
    rw [fb_ct_succ, fb_ct_succ, fb_ct_succ, h1]
    cases hp : p n <;> cases hq : q n <;> simp_all <;> omega
theorem fb_ct_not (p : Nat → Bool) : ∀ n, fb_ct p n + fb_ct (fun k => !p k) n = n
  | 0 => rfl
  | n + 1 => by
    have h := fb_ct_not p n
    rw [fb_ct_succ, fb_ct_succ]
    cases p n <;> simp <;> omega
theorem fb_ct_split (p : Nat → Bool) (m : Nat) : ∀ n, fb_ct p (m + n) = fb_ct p m + fb_ct (fun k => p (m + k)) n
  | 0 => rfl
  | n + 1 => by
    have h := fb_ct_split p m n
    show fb_ct p (m + n + 1) = _
    rw [fb_ct_succ, fb_ct_succ, h, Nat.add_assoc]
theorem fb_ct_zero {p : Nat → Bool} : ∀ {n : Nat}, fb_ct p n = 0 ↔ ∀ k, k < n → p k = false
  | 0 => ⟨fun _ k hk => absurd hk (Nat.not_lt_zero k), fun _ => rfl⟩
  | n + 1 => by
    have h := fb_ct_zero (p := p) (n := n)
    rw [fb_ct_succ]
    constructor
    · intro e k hk
      have e1 : fb_ct p n = 0 := by omega
      rcases Nat.lt_or_ge k n with q | q
      · exact h.mp e1 k q
      · have ek : k = n := by omega
        subst ek
        cases hp : p k
        · rfl
        · simp [hp] at e
    · intro a
      rw [h.mpr (fun k hk => a k (by omega)), a n (by omega)]
      rfl
theorem fb_ct_pos {p : Nat → Bool} {n : Nat} : 0 < fb_ct p n ↔ ∃ k, k < n ∧ p k = true := by
  constructor
  · intro h
    refine Classical.byContradiction fun hx => ?_
    have := fb_ct_zero.mpr (fun k hk => by
      cases hp : p k
      · rfl
      · exact absurd ⟨k, hk, hp⟩ hx : ∀ k, k < n → p k = false)
    omega
  · rintro ⟨k, hk, hp⟩
    rcases Nat.eq_zero_or_pos (fb_ct p n) with e | e
    · have := fb_ct_zero.mp e k hk
      rw [this] at hp
      cases hp
    · exact e
theorem fb_ct_all {p : Nat → Bool} {n : Nat} : fb_ct p n = n ↔ ∀ k, k < n → p k = true := by
  have h := fb_ct_not p n
  constructor
  · intro e k hk
    have z : fb_ct (fun k => !p k) n = 0 := by omega
    have := fb_ct_zero.mp z k hk
    cases hp : p k
    · simp [hp] at this
    · rfl
  · intro a
    have z : fb_ct (fun k => !p k) n = 0 := fb_ct_zero.mpr (fun k hk => by simp [a k hk])
    omega
/-- the k-th place with the property -/
theorem fb_ct_kth {p : Nat → Bool} {k : Nat} : ∀ {n : Nat}, k < fb_ct p n → ∃ i, i < n ∧ p i = true ∧ fb_ct p i = k
  | 0, h => absurd h (Nat.not_lt_zero k)
  | n + 1, h => by
    rcases Nat.lt_or_ge k (fb_ct p n) with q | q
    · obtain ⟨i, h1, h2⟩ := fb_ct_kth q
      exact ⟨i, by omega, h2⟩
    · rw [fb_ct_succ] at h
      cases hp : p n
      · simp [hp] at h; omega
      · simp [hp] at h
        exact ⟨n, by omega, hp, by omega⟩
theorem fb_ct_kth_one {p : Nat → Bool} {i j : Nat} (hi : p i = true) (hj : p j = true) (e : fb_ct p i = fb_ct p j) : i = j := by
  have key : ∀ a b : Nat, a < b → p a = true → fb_ct p a < fb_ct p b := by
    intro a b hab ha
    have h := fb_ct_mono p (show a + 1 ≤ b from hab)
    rw [fb_ct_succ, ha] at h
    simp at h
    omega
  rcases Nat.lt_trichotomy i j with q | q | q
  · have := key i j q hi; omega
  · exact q
  · have := key j i q hj; omega
/-! ===== sums over a range: one place changed, parts, bounds ===== -/
def fb_sm (f : Nat → Nat) : Nat → Nat
  | 0 => 0
  | n + 1 => fb_sm f n + f n
theorem fb_sm_succ (f : Nat → Nat) (n : Nat) : fb_sm f (n + 1) = fb_sm f n + f n := rfl
theorem fb_sm_cong {f g : Nat → Nat} : ∀ {n : Nat}, (∀ k, k < n → f k = g k) → fb_sm f n = fb_sm g n
  | 0, _ => rfl
  | n + 1, h => by rw [fb_sm_succ, fb_sm_succ, fb_sm_cong (fun k hk => h k (by omega)), h n (by omega)]
theorem fb_sm_out (f : Nat → Nat) (v : Nat) {i n : Nat} (h : n ≤ i) : fb_sm (fun k => if k = i then v else f k) n = fb_sm f n :=
  fb_sm_cong fun k hk => if_neg (by omega)
theorem fb_sm_upd (f : Nat → Nat) (v : Nat) {i : Nat} : ∀ {n : Nat}, i < n → fb_sm (fun k => if k = i then v else f k) n + f i = fb_sm f n + v
  | 0, h => absurd h (Nat.not_lt_zero i)
  | n + 1, h => by
    rw [fb_sm_succ, fb_sm_succ]
    rcases Nat.lt_or_ge i n with q | q
    · have := fb_sm_upd f v q
      have e : (if n = i then v else f n) = f n := if_neg (by omega)
      rw [e]
      omega
    · have e : i = n := by omega
      subst e
      rw [fb_sm_out f v (Nat.le_refl _)]
      simp only [if_true]
      omega
theorem fb_sm_add (f g : Nat → Nat) : ∀ n, fb_sm (fun k => f k + g k) n = fb_sm f n + fb_sm g n
  | 0 => rfl
  | n + 1 => by
    have h := fb_sm_add f g n
    rw [fb_sm_succ, fb_sm_succ, fb_sm_succ, h]
    omega
theorem fb_sm_le {f g : Nat → Nat} : ∀ {n : Nat}, (∀ k, k < n → f k ≤ g k) → fb_sm f n ≤ fb_sm g n
  | 0, _ => Nat.le_refl _
  | n + 1, h => by
    have h1 := fb_sm_le (n := n) (f := f) (g := g) (fun k hk => h k (by omega))
    have h2 := h n (by omega)
    rw [fb_sm_succ, fb_sm_succ]
    omega
theorem fb_sm_const (c : Nat) : ∀ n, fb_sm (fun _ => c) n = n * c
  | 0 => by rw [Nat.zero_mul]; rfl
  | n + 1 => by rw [fb_sm_succ, fb_sm_const c n, Nat.succ_mul]
theorem fb_sm_bound {f : Nat → Nat} {c n : Nat} (h : ∀ k, k < n → f k ≤ c) : fb_sm f n ≤ n * c := by
  rw [← fb_sm_const c n]
  exact fb_sm_le h
theorem fb_sm_mono (f : Nat → Nat) (m : Nat) : ∀ n, fb_sm f m ≤ fb_sm f (m + n)
  | 0 => Nat.le_refl _
  | n + 1 => by
    have h := fb_sm_mono f m n
    show fb_sm f m ≤ fb_sm f (m + n + 1)
    rw [fb_sm_succ]
    omega
theorem fb_sm_part (f : Nat → Nat) {i n : Nat} (h : i < n) : fb_sm f i + f i ≤ fb_sm f n := by
  have := fb_sm_mono f (i + 1) (n - (i + 1))
  rw [fb_sm_succ, show i + 1 + (n - (i + 1)) = n by omega] at this
  exact this
theorem fb_sm_split (f : Nat → Nat) (m : Nat) : ∀ n, fb_sm f (m + n) = fb_sm f m + fb_sm (fun k => f (m + k)) n
  | 0 => rfl
  | n + 1 => by
    have h := fb_sm_split f m n
    show fb_sm f (m + n + 1) = _
    rw [fb_sm_succ, fb_sm_succ, h, Nat.add_assoc]
theorem fb_sm_zero {f : Nat → Nat} {n : Nat} (h : fb_sm f n = 0) : ∀ k, k < n → f k = 0 := fun k hk => by
  have := fb_sm_part f hk
  omega
/-- the same over whole numbers -/
def fb_si (f : Nat → Int) : Nat → Int
  | 0 => 0
  | n + 1 => fb_si f n + f n
theorem fb_si_succ (f : Nat → Int) (n : Nat) : fb_si f (n + 1) = fb_si f n + f n := rfl
theorem fb_si_cong {f g : Nat → Int} : ∀ {n : Nat}, (∀ k, k < n → f k = g k) → fb_si f n = fb_si g n
  | 0, _ => rfl
  | n + 1, h => by rw [fb_si_succ, fb_si_succ, fb_si_cong (fun k hk => h k (by omega)), h n (by omega)]
theorem fb_si_out (f : Nat → Int) (v : Int) {i n : Nat} (h : n ≤ i) : fb_si (fun k => if k = i then v else f k) n = fb_si f n :=
  fb_si_cong fun k hk => if_neg (by omega)
theorem fb_si_upd (f : Nat → Int) (v : Int) {i : Nat} : ∀ {n : Nat}, i < n → fb_si (fun k => if k = i then v else f k) n = fb_si f n - f i + v
  | 0, h => absurd h (Nat.not_lt_zero i)
  | n + 1, h => by
    rw [fb_si_succ, fb_si_succ]
    rcases Nat.lt_or_ge i n with q | q
    · have := fb_si_upd f v q
      have e : (if n = i then v else f n) = f n := if_neg (by omega)
      rw [e]
      omega
    · have e : i = n := by omega
      subst e
      rw [fb_si_out f v (Nat.le_refl _)]
      simp only [if_true]
      omega
theorem fb_si_add (f g : Nat → Int) : ∀ n, fb_si (fun k => f k + g k) n = fb_si f n + fb_si g n
  | 0 => rfl
  | n + 1 => by
    have h := fb_si_add f g n
    rw [fb_si_succ, fb_si_succ, fb_si_succ, h]
    omega
theorem fb_si_sub (f g : Nat → Int) : ∀ n, fb_si (fun k => f k - g k) n = fb_si f n - fb_si g n
  | 0 => rfl
  | n + 1 => by
    have h := fb_si_sub f g n
    rw [fb_si_succ, fb_si_succ, fb_si_succ, h]
    omega
theorem fb_si_mul (c : Int) (f : Nat → Int) : ∀ n, fb_si (fun k => c * f k) n = c * fb_si f n
  | 0 => (Int.mul_zero c).symm
  | n + 1 => by
    have h := fb_si_mul c f n
    rw [fb_si_succ, fb_si_succ, h, Int.mul_add]
theorem fb_si_split (f : Nat → Int) (m : Nat) : ∀ n, fb_si f (m + n) = fb_si f m + fb_si (fun k => f (m + k)) n
  | 0 => (Int.add_zero _).symm
  | n + 1 => by
    have h := fb_si_split f m n
    show fb_si f (m + n + 1) = _
    rw [fb_si_succ, fb_si_succ, h, Int.add_assoc]
theorem fb_si_nat (f : Nat → Nat) : ∀ n, fb_si (fun k => (f k : Int)) n = (fb_sm f n : Int)
  | 0 => rfl
  | n + 1 => by
    have h := fb_si_nat f n
    rw [fb_si_succ, fb_sm_succ, h]
    omega
theorem fb_si_bound {f : Nat → Int} {c : Int} (hc : 0 ≤ c) : ∀ {n : Nat}, (∀ k, k < n → -c ≤ f k ∧ f k ≤ c) → -(n * c) ≤ fb_si f n ∧ fb_si f n ≤ n * c
  | 0, _ => by simp [fb_si]
  | n + 1, h => by
    have h1 := fb_si_bound (n := n) (f := f) hc (fun k hk => h k (by omega))
    have h2 := h n (by omega)
    have e : ((n + 1 : Nat) : Int) * c = n * c + c := by rw [Int.natCast_add, Int.add_mul]; simp
    rw [fb_si_succ, e]
    omega
/-! ===== bits of a long that isn't negative ===== -/
theorem fb_andL (a b : Nat) : lN a &&& lN b = lN (a &&& b) := by
  apply Int64.toBitVec_inj.1
  show BitVec.ofNat 64 a &&& BitVec.ofNat 64 b = BitVec.ofNat 64 (a &&& b)
  apply BitVec.eq_of_getLsbD_eq
  intro i hi
  simp [hi]
theorem fb_orL (a b : Nat) : lN a ||| lN b = lN (a ||| b) := by
  apply Int64.toBitVec_inj.1
  show BitVec.ofNat 64 a ||| BitVec.ofNat 64 b = BitVec.ofNat 64 (a ||| b)
  apply BitVec.eq_of_getLsbD_eq
  intro i hi
  simp [hi]
theorem fb_xorL (a b : Nat) : lN a ^^^ lN b = lN (a ^^^ b) := by
  apply Int64.toBitVec_inj.1
  show BitVec.ofNat 64 a ^^^ BitVec.ofNat 64 b = BitVec.ofNat 64 (a ^^^ b)
  apply BitVec.eq_of_getLsbD_eq
  intro i hi
  simp [hi]
theorem fb_xorI (a b : Nat) : nI a ^^^ nI b = nI (a ^^^ b) := by
  apply Int32.toBitVec_inj.1
  show BitVec.ofNat 32 a ^^^ BitVec.ofNat 32 b = BitVec.ofNat 32 (a ^^^ b)
  apply BitVec.eq_of_getLsbD_eq
  intro i hi
  simp [hi]
theorem fb_maskL (n k : Nat) : lN n &&& lN (2 ^ k - 1) = lN (n % 2 ^ k) := by rw [fb_andL, Nat.and_two_pow_sub_one_eq_mod]
theorem fb_or_sumL {a k : Nat} (b : Nat) (h : a < 2 ^ k) : lN (2 ^ k * b) ||| lN a = lN (2 ^ k * b + a) := by rw [fb_orL, Nat.two_pow_add_eq_or_of_lt h]
theorem fb_lN_inj {a b : Nat} (ha : a < 2 ^ 63) (hb : b < 2 ^ 63) : lN a = lN b ↔ a = b := by
  constructor
  · intro h
    have h1 : (BitVec.ofNat 64 a).toNat = (BitVec.ofNat 64 b).toNat := congrArg (fun x : Int64 => x.toBitVec.toNat) h
    rw [BitVec.toNat_ofNat, BitVec.toNat_ofNat, Nat.mod_eq_of_lt (by omega), Nat.mod_eq_of_lt (by omega)] at h1
    exact h1
  · rintro rfl; rfl
theorem fb_bit_nat (n j : Nat) : n &&& 2 ^ j = 0 ↔ n.testBit j = false := by
  constructor
  · intro h
    have h1 : (n &&& 2 ^ j).testBit j = false := by rw [h]; simp
    rw [Nat.testBit_and] at h1
    simpa using h1
  · intro h
    apply Nat.eq_of_testBit_eq
    intro i
    rw [Nat.testBit_and]
    by_cases hi : j = i
    · subst hi; simp [h]
    · first | (simp [Nat.testBit_two_pow, hi]; done) | (simp [Nat.testBit_two_pow_of_ne hi]; done)
/-- one bit of a long -/
theorem fb_bitL {n j : Nat} (hj : j < 63) : lN n &&& lN (2 ^ j) = 0 ↔ n.testBit j = false := by
  have h2 : (2 : Nat) ^ j < 2 ^ 63 := Nat.pow_lt_pow_right (by decide) hj
  have hle : n &&& 2 ^ j ≤ 2 ^ j := Nat.and_le_right
  rw [fb_andL, ← fb_bit_nat, show (0 : Int64) = lN 0 from rfl]
  exact fb_lN_inj (by omega) (by decide)
/-- a bit set, a bit taken off -/
theorem fb_bit_set (n j i : Nat) : (n ||| 2 ^ j).testBit i = (n.testBit i || decide (i = j)) := by
  rw [Nat.testBit_or]
  by_cases h : j = i
  · subst h; simp
  · have h2 : ¬ i = j := fun e => h e.symm
    first | (simp [Nat.testBit_two_pow, h, h2]; done) | (simp [Nat.testBit_two_pow_of_ne h, h2]; done)
theorem fb_bit_flip (n j i : Nat) : (n ^^^ 2 ^ j).testBit i = (n.testBit i ^^ decide (i = j)) := by
  rw [Nat.testBit_xor]
  by_cases h : j = i
  · subst h; simp
  · have h2 : ¬ i = j := fun e => h e.symm
    first | (simp [Nat.testBit_two_pow, h, h2]; done) | (simp [Nat.testBit_two_pow_of_ne h, h2]; done)
/-! ===== a stretch of an array written over by a function ===== -/
def fb_put {α : Type} (f g : Nat → α) (a n : Nat) : Nat → α := fun k => if a ≤ k ∧ k < a + n then g (k - a) else f k
theorem fb_put_0 {α : Type} (f g : Nat → α) (a : Nat) : fb_put f g a 0 = f := funext fun k => if_neg (by omega)
theorem fb_put_in {α : Type} {f g : Nat → α} {a n k : Nat} (h1 : a ≤ k) (h2 : k < a + n) : fb_put f g a n k = g (k - a) := if_pos ⟨h1, h2⟩
theorem fb_put_out {α : Type} {f g : Nat → α} {a n k : Nat} (h : k < a ∨ a + n ≤ k) : fb_put f g a n k = f k := if_neg (by omega)
theorem fb_put_succ (f g : Nat → Int32) (a n : Nat) : upd (fb_put f g a n) (a + n) (g n) = fb_put f g a (n + 1) := by
  funext k
  by_cases h : k = a + n
  · subst h
    simp [upd, fb_put]
  · by_cases h1 : a ≤ k ∧ k < a + n
    · have h2 : a ≤ k ∧ k < a + (n + 1) := by omega
      simp only [upd, fb_put, if_neg h, if_pos h1, if_pos h2]
    · have h2 : ¬ (a ≤ k ∧ k < a + (n + 1)) := by omega
      simp only [upd, fb_put, if_neg h, if_neg h1, if_neg h2]
/-- .. from the far end down -/
theorem fb_put_down (f g : Nat → Int32) {a n m : Nat} (h : m < n) : upd (fb_put f (fun k => g (k + (m + 1))) (a + (m + 1)) (n - (m + 1))) (a + m) (g m) = fb_put f (fun k => g (k + m)) (a + m) (n - m) := by
  funext k
  by_cases h0 : k = a + m
  · subst h0
    simp only [upd, if_true]
    rw [fb_put_in (by omega) (by omega)]
    exact congrArg g (by omega)
  · simp only [upd, if_neg h0]
    by_cases h1 : a + (m + 1) ≤ k ∧ k < a + (m + 1) + (n - (m + 1))
    · rw [fb_put_in h1.1 h1.2, fb_put_in (by omega) (by omega)]
      exact congrArg g (by omega)
    · rw [fb_put_out (by omega), fb_put_out (by omega)]
theorem fb_put_cong {α : Type} {f f2 g g2 : Nat → α} {a n : Nat} (hf : ∀ k, (k < a ∨ a + n ≤ k) → f k = f2 k) (hg : ∀ k, k < n → g k = g2 k) : fb_put f g a n = fb_put f2 g2 a n := by
  funext k
  by_cases h : a ≤ k ∧ k < a + n
  · rw [fb_put_in h.1 h.2, fb_put_in h.1 h.2, hg _ (by omega)]
  · rw [fb_put_out (by omega), fb_put_out (by omega), hf _ (by omega)]
/-! ===== the least, the first, the best so far; that there is one alone ===== -/
theorem fb_first {p : Nat → Prop} [DecidablePred p] : ∀ {n : Nat}, (∃ i, i < n ∧ p i) → ∃ i, i < n ∧ p i ∧ ∀ j, j < i → ¬ p j
  | 0, h => by obtain ⟨i, hi, -⟩ := h; exact absurd hi (Nat.not_lt_zero i)
  | n + 1, h => by
    by_cases q : ∃ i, i < n ∧ p i
    · obtain ⟨i, h1, h2⟩ := fb_first q
      exact ⟨i, by omega, h2⟩
    · obtain ⟨i, h1, h2⟩ := h
      have e : i = n := by
        rcases Nat.lt_or_ge i n with r | r
        · exact absurd ⟨i, r, h2⟩ q
        · omega
      subst e
      exact ⟨i, by omega, h2, fun j hj hp => q ⟨j, hj, hp⟩⟩
theorem fb_first_one {p : Nat → Prop} {i j : Nat} (hi : p i) (hi2 : ∀ k, k < i → ¬ p k) (hj : p j) (hj2 : ∀ k, k < j → ¬ p k) : i = j := by
  rcases Nat.lt_trichotomy i j with q | q | q
  · exact absurd hi (hj2 i q)
  · exact q
  · exact absurd hj (hi2 j q)
theorem fb_last {p : Nat → Prop} [DecidablePred p] : ∀ {n : Nat}, (∃ i, i < n ∧ p i) → ∃ i, i < n ∧ p i ∧ ∀ j, i < j → j < n → ¬ p j
  | 0, h => by obtain ⟨i, hi, -⟩ := h; exact absurd hi (Nat.not_lt_zero i)
  | n + 1, h => by
    by_cases q : p n
    · exact ⟨n, by omega, q, fun j h1 h2 => by omega⟩
    · obtain ⟨i, h1, h2⟩ := h
      have hi : i < n := by
        rcases Nat.lt_or_ge i n with r | r
        · exact r
        · have e : i = n := by omega
          subst e
          exact absurd h2 q
      obtain ⟨i2, a1, a2, a3⟩ := fb_last (n := n) ⟨i, hi, h2⟩
      refine ⟨i2, by omega, a2, fun j b1 b2 => ?_⟩
      rcases Nat.lt_or_ge j n with r | r
      · exact a3 j b1 r
      · have e : j = n := by omega
        subst e
        exact q
/-- the first greatest -/
theorem fb_best (f : Nat → Int) : ∀ {n : Nat}, 0 < n → ∃ i, i < n ∧ (∀ j, j < n → f j ≤ f i) ∧ ∀ j, j < i → f j < f i
  | 0, h => absurd h (Nat.lt_irrefl 0)
  | 1, _ => ⟨0, by omega, fun j hj => by have e : j = 0 := by omega
                                         subst e; exact Int.le_refl _, fun j hj => absurd hj (Nat.not_lt_zero j)⟩
  | n + 2, _ => by
    obtain ⟨i, h1, h2, h3⟩ := fb_best f (n := n + 1) (by omega)
    by_cases q : f i < f (n + 1)
    · refine ⟨n + 1, by omega, fun j hj => ?_, fun j hj => ?_⟩
      · rcases Nat.lt_or_ge j (n + 1) with r | r
        · have := h2 j r; omega
        · have e : j = n + 1 := by omega
          subst e; exact Int.le_refl _
      · have := h2 j hj; omega
    · refine ⟨i, by omega, fun j hj => ?_, h3⟩
      rcases Nat.lt_or_ge j (n + 1) with r | r
      · exact h2 j r
      · have e : j = n + 1 := by omega
        subst e; omega
theorem fb_best_one {f : Nat → Int} {n i j : Nat} (hi : i < n) (hi2 : ∀ k, k < n → f k ≤ f i) (hi3 : ∀ k, k < i → f k < f i) (hj : j < n) (hj2 : ∀ k, k < n → f k ≤ f j) (hj3 : ∀ k, k < j → f k < f j) : i = j := by
  rcases Nat.lt_trichotomy i j with q | q | q
  · have a := hj3 i q
    have b := hi2 j hj
    omega
  · exact q
  · have a := hi3 j q
    have b := hj2 i hi
    omega
/-- the first least -/
theorem fb_low (f : Nat → Int) {n : Nat} (h : 0 < n) : ∃ i, i < n ∧ (∀ j, j < n → f i ≤ f j) ∧ ∀ j, j < i → f i < f j := by
  obtain ⟨i, h1, h2, h3⟩ := fb_best (fun k => -f k) h
  exact ⟨i, h1, fun j hj => by have := h2 j hj; omega, fun j hj => by have := h3 j hj; omega⟩
/-! ===== signed ints as whole numbers, within bounds ===== -/
theorem fb_rng (x : Int32) : -2147483648 ≤ x.toInt ∧ x.toInt < 2147483648 := by
  have h1 := Int32.le_toInt x
  have h2 := Int32.toInt_lt x
  omega
theorem fb_bmod {z : Int} (h1 : -2147483648 ≤ z) (h2 : z < 2147483648) : z.bmod (2 ^ 32) = z := by
  rw [Int.bmod_eq_of_le (by omega) (by omega)]
theorem fb_addI {x y : Int32} (h1 : -2147483648 ≤ x.toInt + y.toInt) (h2 : x.toInt + y.toInt < 2147483648) : (x + y).toInt = x.toInt + y.toInt := by
  rw [Int32.toInt_add, fb_bmod h1 h2]
theorem fb_subI {x y : Int32} (h1 : -2147483648 ≤ x.toInt - y.toInt) (h2 : x.toInt - y.toInt < 2147483648) : (x - y).toInt = x.toInt - y.toInt := by
  rw [Int32.toInt_sub, fb_bmod h1 h2]
theorem fb_mulI {x y : Int32} (h1 : -2147483648 ≤ x.toInt * y.toInt) (h2 : x.toInt * y.toInt < 2147483648) : (x * y).toInt = x.toInt * y.toInt := by
  rw [Int32.toInt_mul, fb_bmod h1 h2]
theorem fb_negI {x : Int32} (h : x.toInt ≠ -2147483648) : (-x).toInt = -x.toInt := by
  have := fb_rng x
  rw [Int32.toInt_neg, fb_bmod (by omega) (by omega)]
theorem fb_ofI {z : Int} (h1 : -2147483648 ≤ z) (h2 : z < 2147483648) : (Int32.ofInt z).toInt = z := by
  rw [Int32.toInt_ofInt, fb_bmod h1 h2]
theorem fb_asI (x : Int32) : Int32.ofInt x.toInt = x := Int32.ofInt_toInt x
theorem fb_rngL (x : Int64) : -9223372036854775808 ≤ x.toInt ∧ x.toInt < 9223372036854775808 := by
  have h1 := Int64.le_toInt x
  have h2 := Int64.toInt_lt x
  omega
theorem fb_bmodL {z : Int} (h1 : -9223372036854775808 ≤ z) (h2 : z < 9223372036854775808) : z.bmod (2 ^ 64) = z := by
  rw [Int.bmod_eq_of_le (by omega) (by omega)]
theorem fb_addL {x y : Int64} (h1 : -9223372036854775808 ≤ x.toInt + y.toInt) (h2 : x.toInt + y.toInt < 9223372036854775808) : (x + y).toInt = x.toInt + y.toInt := by
  rw [Int64.toInt_add, fb_bmodL h1 h2]
theorem fb_subL {x y : Int64} (h1 : -9223372036854775808 ≤ x.toInt - y.toInt) (h2 : x.toInt - y.toInt < 9223372036854775808) : (x - y).toInt = x.toInt - y.toInt := by
  rw [Int64.toInt_sub, fb_bmodL h1 h2]
theorem fb_mulL {x y : Int64} (h1 : -9223372036854775808 ≤ x.toInt * y.toInt) (h2 : x.toInt * y.toInt < 9223372036854775808) : (x * y).toInt = x.toInt * y.toInt := by
  rw [Int64.toInt_mul, fb_bmodL h1 h2]
/-! ===== cuts of what is narrow already ===== -/
theorem fb_byte {x : Int32} (h1 : -128 ≤ x.toInt) (h2 : x.toInt < 128) : x.toInt8.toInt32 = x := by
  apply Int32.toInt_inj.1
  rw [Int8.toInt_toInt32, Int32.toInt_toInt8, Int.bmod_eq_of_le (by omega) (by omega)]
theorem fb_short {x : Int32} (h1 : -32768 ≤ x.toInt) (h2 : x.toInt < 32768) : x.toInt16.toInt32 = x := by
  apply Int32.toInt_inj.1
  rw [Int16.toInt_toInt32, Int32.toInt_toInt16, Int.bmod_eq_of_le (by omega) (by omega)]
theorem fb_byte_rng (x : Int32) : -128 ≤ x.toInt8.toInt32.toInt ∧ x.toInt8.toInt32.toInt < 128 := by
  rw [Int8.toInt_toInt32]
  have h1 := Int8.le_toInt x.toInt8
  have h2 := Int8.toInt_lt x.toInt8
  omega
theorem fb_short_rng (x : Int32) : -32768 ≤ x.toInt16.toInt32.toInt ∧ x.toInt16.toInt32.toInt < 32768 := by
  rw [Int16.toInt_toInt32]
  have h1 := Int16.le_toInt x.toInt16
  have h2 := Int16.toInt_lt x.toInt16
  omega
theorem fb_byte_twice (x : Int32) : x.toInt8.toInt32.toInt8.toInt32 = x.toInt8.toInt32 := fb_byte (fb_byte_rng x).1 (fb_byte_rng x).2
theorem fb_short_twice (x : Int32) : x.toInt16.toInt32.toInt16.toInt32 = x.toInt16.toInt32 := fb_short (fb_short_rng x).1 (fb_short_rng x).2
theorem fb_char {n : Nat} (h : n < 65536) : (nI n).toUInt32.toUInt16.toUInt32.toInt32 = nI n := by
  apply Int32.toBitVec_inj.1
  apply BitVec.eq_of_toNat_eq
  have e1 : (nI n).toBitVec.toNat = n := by
    show (BitVec.ofNat 32 n).toNat = n
    rw [BitVec.toNat_ofNat, Nat.mod_eq_of_lt (by omega)]
  have e2 : ((nI n).toUInt32.toUInt16.toUInt32).toNat = n := by
    rw [UInt16.toNat_toUInt32, UInt32.toNat_toUInt16]
    show (nI n).toBitVec.toNat % 2 ^ 16 = n
    rw [e1, Nat.mod_eq_of_lt (by omega)]
  rw [e1]
  exact e2
end
section
/-! BITS: an Int64 as a set of numbers below 64: gb x k -/
theorem wb_c : ∀ k, k < 64 → ((nI k).toInt64 &&& 63) = lN k := by decide +kernel
theorem wb_cu : ∀ k, k < 64 → ((nI k).toInt64.toUInt64 &&& Int64.toUInt64 63) = UInt64.ofNat k := by decide +kernel
theorem wb_sm : ∀ k, k < 64 → (BitVec.ofNat 64 k).smod 64 = BitVec.ofNat 64 k := by decide +kernel
def gb (x : Int64) (k : Nat) : Bool := x.toBitVec.getLsbD k
theorem gb_ext {x y : Int64} (h : ∀ k, k < 64 → gb x k = gb y k) : x = y :=
  Int64.toBitVec_inj.mp (BitVec.eq_of_getLsbD_eq fun i hi => h i hi)
theorem gb_big {x : Int64} {k : Nat} (h : 64 ≤ k) : gb x k = false := BitVec.getLsbD_of_ge _ _ h
theorem gb_and (x y : Int64) (k : Nat) : gb (x &&& y) k = (gb x k && gb y k) := by
  unfold gb; rw [Int64.toBitVec_and, BitVec.getLsbD_and]
theorem gb_or (x y : Int64) (k : Nat) : gb (x ||| y) k = (gb x k || gb y k) := by
  unfold gb; rw [Int64.toBitVec_or, BitVec.getLsbD_or]
theorem gb_not (x : Int64) {k : Nat} (hk : k < 64) : gb (x ^^^ (-1)) k = !gb x k := by
  have ha : (-1 : Int64).toBitVec = BitVec.allOnes 64 := by decide
  unfold gb
  rw [Int64.toBitVec_xor, BitVec.getLsbD_xor, ha, BitVec.getLsbD_allOnes]
  simp [hk]
theorem gb_0 (k : Nat) : gb 0 k = false := by
  show (0#64).getLsbD k = false
  simp
theorem gb_one (k : Nat) {j : Nat} (hk : k < 64) (hj : j < 64) : gb ((1 : Int64) <<< ((nI k).toInt64 &&& 63)) j = decide (j = k) := by
  unfold gb
  rw [wb_c k hk, Int64.toBitVec_shiftLeft]
  show (1#64 <<< (BitVec.ofNat 64 k).smod 64).getLsbD j = _
  rw [wb_sm k hk, BitVec.shiftLeft_eq', BitVec.getLsbD_shiftLeft, BitVec.toNat_ofNat, Nat.mod_eq_of_lt (show k < 2 ^ 64 by omega)]
  by_cases h : j = k
  · subst h; simp [hj]
  · by_cases h2 : j < k
    · simp [h, h2]
    · simp [h, h2, hj, show ¬ j - k = 0 by omega]
theorem gb_and1 (y : Int64) : (y &&& 1) = if gb y 0 then 1 else 0 := by
  rw [← Int64.toBitVec_inj, Int64.toBitVec_and]
  have e : (if gb y 0 then (1 : Int64) else 0).toBitVec = if gb y 0 then 1#64 else 0#64 := by split <;> rfl
  rw [e]
  apply BitVec.eq_of_getLsbD_eq
  intro i hi
  show (y.toBitVec &&& 1#64).getLsbD i = _
  rw [BitVec.getLsbD_and]
  cases i with
  | zero => cases h : gb y 0 <;> simp [gb] at h ⊢ <;> simp [h]
  | succ i => split <;> simp
theorem gb_ushr {w : Int64} {k : Nat} (hk : k < 64) : gb ((w.toUInt64 >>> ((nI k).toInt64.toUInt64 &&& Int64.toUInt64 63)).toInt64) 0 = gb w k := by
  rw [wb_cu k hk]
  have e : ((w.toUInt64 >>> UInt64.ofNat k).toInt64).toBitVec = w.toBitVec >>> k := by
    apply BitVec.eq_of_toNat_eq
    show (w.toUInt64 >>> UInt64.ofNat k).toNat = _
    have h1 : (UInt64.ofNat k).toNat = k := by
      show (BitVec.ofNat 64 k).toNat = k
      rw [BitVec.toNat_ofNat, Nat.mod_eq_of_lt (by omega)]
    rw [UInt64.toNat_shiftRight, h1, Nat.mod_eq_of_lt hk, BitVec.toNat_ushiftRight]
    rfl
  unfold gb
  rw [e, BitVec.getLsbD_ushiftRight]
  simp
theorem gb_sshr {w : Int64} {k : Nat} (hk : k < 64) : gb (w >>> ((nI k).toInt64 &&& 63)) 0 = gb w k := by
  rw [wb_c k hk]
  unfold gb
  rw [Int64.toBitVec_shiftRight]
  show (w.toBitVec.sshiftRight' ((BitVec.ofNat 64 k).smod 64)).getLsbD 0 = _
  rw [wb_sm k hk, BitVec.sshiftRight_eq', BitVec.getLsbD_sshiftRight, BitVec.toNat_ofNat, Nat.mod_eq_of_lt (show k < 2 ^ 64 by omega)]
  simp [hk]
/-- the class's test of one bit, and the reference's -/
theorem gb_cmp0 {w : Int64} {k : Nat} (hk : k < 64) : lg_cmp ((w.toUInt64 >>> ((nI k).toInt64.toUInt64 &&& Int64.toUInt64 63)).toInt64 &&& 1) 0 = if gb w k then 1 else 0 := by
  rw [gb_and1, gb_ushr hk]
  cases gb w k <;> decide
theorem gb_cmp1 {w : Int64} {k : Nat} (hk : k < 64) : lg_cmp ((w >>> ((nI k).toInt64 &&& 63)) &&& 1) 1 = if gb w k then 0 else -1 := by
  rw [gb_and1, gb_sshr hk]
  cases gb w k <;> decide
theorem gb_cmp2 {w : Int64} {k : Nat} (hk : k < 64) : lg_cmp ((w >>> ((nI k).toInt64 &&& 63)) &&& 1) 0 = if gb w k then 1 else 0 := by
  rw [gb_and1, gb_sshr hk]
  cases gb w k <;> decide
theorem gb_set (x : Int64) {k j : Nat} (hk : k < 64) (hj : j < 64) : gb (x ||| ((1 : Int64) <<< ((nI k).toInt64 &&& 63))) j = (gb x j || decide (j = k)) := by
  rw [gb_or, gb_one k hk hj]
end
section
/-! BASE: what every state of the machine keeps, the modules' cells, and the kit's rows for numbers that are written as nI of a Nat -/
/-- the tables' words of the classes, the two kinds of arrays, and the nest mates' links -/
def KK (dG : va_G) (cI cJ : ClassId) (U : State) : Prop :=
  va_K dG vwCl [(cI, .int), (cJ, .long)] U ∧ va_Nw (.methodLinkNest RX0 22 yX3_isRow RX3) U ∧ va_Nw (.methodLinkNest RX0 30 yX3_hasBit RX3) U ∧ va_Nw (.methodLinkNest RX1 46 yX3_isRow RX3) U ∧ va_Nw (.methodLinkNest RX1 50 yX3_hasBit RX3) U ∧ va_Nw (.methodLinkNest RX2 83 yX3_isRow RX3) U ∧ va_Nw (.methodLinkNest RX2 100 yX3_hasBit RX3) U
theorem KK.warm {dG : va_G} {cI cJ : ClassId} {s U : State} (hW : s.WarmedH U.vm) (h : KK dG cI cJ s) : KK dG cI cJ U := by
  obtain ⟨h0, h1, h2, h3, h4, h5, h6⟩ := h
  exact ⟨va_K.moved hW.alike h0, va_Nw.warmM hW h1, va_Nw.warmM hW h2, va_Nw.warmM hW h3, va_Nw.warmM hW h4, va_Nw.warmM hW h5, va_Nw.warmM hW h6⟩
theorem KK.call {dG : va_G} {cI cJ : ClassId} {U : State} {g : JFrame} {mk : MethodId} {a : Array Value} (h : KK dG cI cJ U) : KK dG cI cJ (U.calling g mk a) := by
  obtain ⟨h0, h1, h2, h3, h4, h5, h6⟩ := h
  exact ⟨va_K.moved (u := U) (U := U.calling g mk a) (Vm.Alike.refl U.vm) h0, va_Nw.same rfl rfl h1, va_Nw.same rfl rfl h2, va_Nw.same rfl rfl h3, va_Nw.same rfl rfl h4, va_Nw.same rfl rfl h5, va_Nw.same rfl rfl h6⟩
/-- a method's start: its arguments, its world, the tables -/
abbrev RPc (dG : va_G) (cI cJ : ClassId) (av : List Value) (Wd : va_W) : Array Value → State → Prop := va_Pc av (fun U => va_P dG vwCl Wd U.heap ∧ KK dG cI cJ U)
/-- .. of one that writes -/
abbrev WPc (dG : va_G) (cI cJ : ClassId) (av : List Value) (Wd : va_W) (A : Nat → Prop) : Array Value → State → Prop := va_Pc av (fun U => va_P dG vwCl Wd U.heap ∧ KK dG cI cJ U ∧ va_D A Wd)
/-- its end: a world that it says -/
abbrev WB (dG : va_G) (A : Nat → Prop) (Wd : va_W) (t : State) : Prop := va_P dG vwCl Wd t.heap ∧ va_D A Wd
theorem RPc.blind {dG : va_G} {cI cJ : ClassId} {av : List Value} {Wd : va_W} : FrameBlind (RPc dG cI cJ av Wd) := fun _ _ _ _ q => ⟨q.1, q.2.1, q.2.2.call⟩
theorem WPc.blind {dG : va_G} {cI cJ : ClassId} {av : List Value} {Wd : va_W} {A : Nat → Prop} : FrameBlind (WPc dG cI cJ av Wd A) := fun _ _ _ _ q => ⟨q.1, q.2.1, q.2.2.1.call, q.2.2.2⟩
theorem RPc.pre {dG : va_G} {cI cJ : ClassId} {As : List Value} {Wd : va_W} {s : State} {H : Heap} {C : String} {b : Addr} (hP : va_P dG vwCl Wd H) (hK : KK dG cI cJ s) (hr : ∃ cellB : Cell, H[b]? = some cellB ∧ cellB.vm.isStatics = false ∧ s.vm.findClass C = some cellB.cls) : PreV s H C b (RPc dG cI cJ (.ref b :: As) Wd) As :=
  ⟨RPc.blind, hr, fun U hU hW => ⟨rfl, by rw [hU]; exact hP, hK.warm hW⟩⟩
theorem RPc.preS {dG : va_G} {cI cJ : ClassId} {As : List Value} {Wd : va_W} {s : State} {H : Heap} (hP : va_P dG vwCl Wd H) (hK : KK dG cI cJ s) : PreS s H (RPc dG cI cJ As Wd) As :=
  ⟨RPc.blind, fun U hU hW => ⟨rfl, by rw [hU]; exact hP, hK.warm hW⟩⟩
theorem WPc.pre {dG : va_G} {cI cJ : ClassId} {As : List Value} {Wd : va_W} {s : State} {H : Heap} {C : String} {b : Addr} {A : Nat → Prop} (hP : va_P dG vwCl Wd H) (hD : va_D A Wd) (hK : KK dG cI cJ s) (hr : ∃ cellB : Cell, H[b]? = some cellB ∧ cellB.vm.isStatics = false ∧ s.vm.findClass C = some cellB.cls) : PreV s H C b (WPc dG cI cJ (.ref b :: As) Wd A) As :=
  ⟨WPc.blind, hr, fun U hU hW => ⟨rfl, by rw [hU]; exact hP, hK.warm hW, hD⟩⟩
theorem WPc.preS {dG : va_G} {cI cJ : ClassId} {As : List Value} {Wd : va_W} {s : State} {H : Heap} {A : Nat → Prop} (hP : va_P dG vwCl Wd H) (hD : va_D A Wd) (hK : KK dG cI cJ s) : PreS s H (WPc dG cI cJ As Wd A) As :=
  ⟨WPc.blind, fun U hU hW => ⟨rfl, by rw [hU]; exact hP, hK.warm hW, hD⟩⟩
theorem va_P.perm {D : va_G} {cl : List vw_C} {w1 w2 : va_W} {H : Heap} (h : va_P D cl w1 H) (hp : w1.Perm w2) : va_P D cl w2 H := by
  intro k q hk
  obtain ⟨i, hi⟩ := List.getElem?_of_mem (hp.mem_iff.mpr (List.mem_of_getElem? hk))
  exact h i q hi
theorem va_D.nodup {A : Nat → Prop} {ws : va_W} (h : va_D A ws) : (ws.map (·.1)).Nodup := by
  refine List.pairwise_iff_getElem.mpr (fun i j hi hj hij e => ?_)
  rw [List.length_map] at hi hj
  rw [List.getElem_map, List.getElem_map] at e
  have := h.1 i j _ _ (List.getElem?_eq_getElem hi) (List.getElem?_eq_getElem hj) e
  omega
theorem va_D.of_nodup {A : Nat → Prop} {ws : va_W} (h : (ws.map (·.1)).Nodup) (hA : ∀ q ∈ ws, A q.1) : va_D A ws := by
  refine ⟨fun i j p q hi hj e => ?_, fun k q hk => hA q (List.mem_of_getElem? hk)⟩
  obtain ⟨li, ei⟩ := List.getElem?_eq_some_iff.mp hi
  obtain ⟨lj, ej⟩ := List.getElem?_eq_some_iff.mp hj
  have h2 := List.pairwise_iff_getElem.mp h
  rcases Nat.lt_trichotomy i j with g | g | g
  · exact absurd (by rw [List.getElem_map, List.getElem_map, ei, ej]; exact e) (h2 i j (by rw [List.length_map]; exact li) (by rw [List.length_map]; exact lj) g)
  · exact g
  · exact absurd (by rw [List.getElem_map, List.getElem_map, ei, ej]; exact e.symm) (h2 j i (by rw [List.length_map]; exact lj) (by rw [List.length_map]; exact li) g)
theorem va_D.perm {A : Nat → Prop} {w1 w2 : va_W} (h : va_D A w1) (hp : w1.Perm w2) : va_D A w2 :=
  va_D.of_nodup ((hp.map _).nodup_iff.mp h.nodup) (fun q hq => by
    obtain ⟨i, hi⟩ := List.getElem?_of_mem (hp.mem_iff.mpr hq)
    exact h.2 i q hi)
/-- a truth as the machine has it; a number that may be wanting -/
def bI (b : Bool) : Int32 := if b then 1 else 0
def eN (o : Option Nat) : Int32 := match o with
  | none => -1
  | some n => nI n
def bC (b : Bool) : Int32 := if b then 0 else -1
theorem bI_t : bI true = 1 := rfl
theorem bI_f : bI false = 0 := rfl
theorem eN_n : eN none = -1 := rfl
theorem eN_s (n : Nat) : eN (some n) = nI n := rfl
theorem bI_narrow (b : Bool) : narrow .boolean (.int (bI b)) = .int (bI b) := by cases b <;> rfl
theorem nI_ne_m1 {n : Nat} (h : n < 2 ^ 31) : ¬ nI n = -1 := by
  intro e
  have h1 := nI_toInt h
  rw [e] at h1
  have : ((-1 : Int32)).toInt = -1 := by decide
  omega
/-- the cells of a Graph, a Labels, a Searches -/
abbrev GW (cJ : ClassId) (g gA : Nat) (vc ec : Int32) (ns : Nat → Int64) : va_W := [(g, .inr (0, [.ref gA, .int vc, .int ec])), (gA, .inl (cJ, 48, .inr (.inl ns)))]
abbrev LW (cI cJ : ClassId) (lb aR aV aH aD aP : Nat) (rk vb : Nat → Int32) (rc : Int32) (hs : Nat → Int64) (D Pp : Nat → Int32) : va_W :=
  [(lb, .inr (1, [.ref aR, .ref aV, .int rc, .ref aH, .ref aD, .ref aP])), (aR, .inl (cI, 48, .inl rk)), (aV, .inl (cI, 48, .inl vb)), (aH, .inl (cJ, 48, .inr (.inl hs))), (aD, .inl (cI, 2304, .inl D)), (aP, .inl (cI, 2304, .inl Pp))]
abbrev SW (cI : ClassId) (g lb se qa qb qc : Nat) (qv qd qp : Nat → Int32) (ql : Int32) (qs : Int64) (vi pr wr : Int32) : va_W :=
  [(se, .inr (2, [.ref g, .ref lb, .ref qa, .ref qb, .ref qc, .int ql, .long qs, .int vi, .int pr, .int wr])), (qa, .inl (cI, 48, .inl qv)), (qb, .inl (cI, 48, .inl qd)), (qc, .inl (cI, 48, .inl qp))]
section XR
variable {p : Program} {l : Launch} {e : Env} {R : Room} {s : State} {m : MethodId} {args : Array Value} {below : List Frame} {meth : Method} {c : Code} {H : Heap} {locs : List Loc} {cells slots : Nat} {Q : State → Prop} {cc : ByteArray} {pc : Nat} {ls : Array Slot} {rest : List Value} {dG : va_G} {cI cJ : ClassId} {A : Nat → Prop} {a : Nat} {ws : va_W} {H0 : Heap}
theorem x_addN (hx : p.tables.exec = Jvm.exec) (hb : c.code = cc) {i j : Nat} (hdg : decode cc pc = .ok (.iadd, 1)) (k : W p l e R s m args below meth c H locs cells slots Q (F0 m (pc + 1) ls (.int (nI (i + j)) :: rest))) : W p l e R s m args below meth c H locs cells slots Q (F0 m pc ls (.int (nI j) :: .int (nI i) :: rest)) :=
  lv_iadd hx hb hdg (by rw [nI_add]; exact k)
theorem x_mulN (hx : p.tables.exec = Jvm.exec) (hb : c.code = cc) {i j : Nat} (hdg : decode cc pc = .ok (.imul, 1)) (k : W p l e R s m args below meth c H locs cells slots Q (F0 m (pc + 1) ls (.int (nI (i * j)) :: rest))) : W p l e R s m args below meth c H locs cells slots Q (F0 m pc ls (.int (nI j) :: .int (nI i) :: rest)) :=
  lv_imul hx hb hdg (by rw [pk_mul]; exact k)
theorem x_subN (hx : p.tables.exec = Jvm.exec) (hb : c.code = cc) {i j : Nat} (hij : j ≤ i) (hdg : decode cc pc = .ok (.isub, 1)) (k : W p l e R s m args below meth c H locs cells slots Q (F0 m (pc + 1) ls (.int (nI (i - j)) :: rest))) : W p l e R s m args below meth c H locs cells slots Q (F0 m pc ls (.int (nI j) :: .int (nI i) :: rest)) :=
  lv_isub hx hb hdg (by rw [pk_sub hij]; exact k)
theorem x_iincN (hx : p.tables.exec = Jvm.exec) (hb : c.code = cc) {i nL k j : Nat} {lv lv' : List (Nat × Value)} (hdg : decode cc pc = .ok (.iinc i 1, 3)) (h : lv_has ls nL lv) (hk : lv[k]? = some (i, .int (nI j))) (hn : i < nL) (hl : (i, Value.int (nI (j + 1))) :: lv.filter (fun q => !(q.1 == i) && !(q.1 + 1 == i && q.2.category == 2)) = lv')
    (kk : ∀ ls : Array Slot, lv_has ls nL lv' → W p l e R s m args below meth c H locs cells slots Q (F0 m (pc + 3) ls rest)) : W p l e R s m args below meth c H locs cells slots Q (F0 m pc ls rest) :=
  lv_iinc (v := nI (j + 1)) hx hb hdg h hk (nI_1 j) hn hl (fun ls hl => kk ls hl)
theorem x_icmp_eqN (hx : p.tables.exec = Jvm.exec) (hb : c.code = cc) {i j : Nat} (hi : i < 2 ^ 31) (hj : j < 2 ^ 31) {off : Int} {tgt : Nat} (hdg : decode cc pc = .ok (.if_icmp .eq off, 3)) (ht : (pc : Int) + off = (tgt : Int))
    (kt : i = j → W p l e R s m args below meth c H locs cells slots Q (F0 m tgt ls rest)) (kf : i ≠ j → W p l e R s m args below meth c H locs cells slots Q (F0 m (pc + 3) ls rest)) : W p l e R s m args below meth c H locs cells slots Q (F0 m pc ls (.int (nI j) :: .int (nI i) :: rest)) :=
  lv_icmp_eq hx hb hdg ht (fun q => kt ((nI_eq hi hj).mp q)) (fun q => kf (fun z => q ((nI_eq hi hj).mpr z)))
theorem x_icmp_neN (hx : p.tables.exec = Jvm.exec) (hb : c.code = cc) {i j : Nat} (hi : i < 2 ^ 31) (hj : j < 2 ^ 31) {off : Int} {tgt : Nat} (hdg : decode cc pc = .ok (.if_icmp .ne off, 3)) (ht : (pc : Int) + off = (tgt : Int))
    (kt : i ≠ j → W p l e R s m args below meth c H locs cells slots Q (F0 m tgt ls rest)) (kf : i = j → W p l e R s m args below meth c H locs cells slots Q (F0 m (pc + 3) ls rest)) : W p l e R s m args below meth c H locs cells slots Q (F0 m pc ls (.int (nI j) :: .int (nI i) :: rest)) :=
  lv_icmp_ne hx hb hdg ht (fun q => kt (fun z => q ((nI_eq hi hj).mpr z))) (fun q => kf ((nI_eq hi hj).mp q))
theorem x_icmp_ltN (hx : p.tables.exec = Jvm.exec) (hb : c.code = cc) {i j : Nat} (hi : i < 2 ^ 31) (hj : j < 2 ^ 31) {off : Int} {tgt : Nat} (hdg : decode cc pc = .ok (.if_icmp .lt off, 3)) (ht : (pc : Int) + off = (tgt : Int))
    (kt : i < j → W p l e R s m args below meth c H locs cells slots Q (F0 m tgt ls rest)) (kf : j ≤ i → W p l e R s m args below meth c H locs cells slots Q (F0 m (pc + 3) ls rest)) : W p l e R s m args below meth c H locs cells slots Q (F0 m pc ls (.int (nI j) :: .int (nI i) :: rest)) :=
  lv_icmp_lt hx hb hdg ht (fun q => kt ((nI_ltI hi hj).mp q)) (fun q => kf (Nat.not_lt.mp (fun z => q ((nI_ltI hi hj).mpr z))))
theorem x_icmp_geN (hx : p.tables.exec = Jvm.exec) (hb : c.code = cc) {i j : Nat} (hi : i < 2 ^ 31) (hj : j < 2 ^ 31) {off : Int} {tgt : Nat} (hdg : decode cc pc = .ok (.if_icmp .ge off, 3)) (ht : (pc : Int) + off = (tgt : Int))
    (kt : j ≤ i → W p l e R s m args below meth c H locs cells slots Q (F0 m tgt ls rest)) (kf : i < j → W p l e R s m args below meth c H locs cells slots Q (F0 m (pc + 3) ls rest)) : W p l e R s m args below meth c H locs cells slots Q (F0 m pc ls (.int (nI j) :: .int (nI i) :: rest)) :=
  lv_icmp_ge hx hb hdg ht (fun q => kt ((nI_leI hj hi).mp q)) (fun q => kf (Nat.not_le.mp (fun z => q ((nI_leI hj hi).mpr z))))
theorem x_icmp_gtN (hx : p.tables.exec = Jvm.exec) (hb : c.code = cc) {i j : Nat} (hi : i < 2 ^ 31) (hj : j < 2 ^ 31) {off : Int} {tgt : Nat} (hdg : decode cc pc = .ok (.if_icmp .gt off, 3)) (ht : (pc : Int) + off = (tgt : Int))
    (kt : j < i → W p l e R s m args below meth c H locs cells slots Q (F0 m tgt ls rest)) (kf : i ≤ j → W p l e R s m args below meth c H locs cells slots Q (F0 m (pc + 3) ls rest)) : W p l e R s m args below meth c H locs cells slots Q (F0 m pc ls (.int (nI j) :: .int (nI i) :: rest)) :=
  lv_icmp_gt hx hb hdg ht (fun q => kt ((nI_ltI hj hi).mp q)) (fun q => kf (Nat.not_lt.mp (fun z => q ((nI_ltI hj hi).mpr z))))
theorem x_icmp_leN (hx : p.tables.exec = Jvm.exec) (hb : c.code = cc) {i j : Nat} (hi : i < 2 ^ 31) (hj : j < 2 ^ 31) {off : Int} {tgt : Nat} (hdg : decode cc pc = .ok (.if_icmp .le off, 3)) (ht : (pc : Int) + off = (tgt : Int))
    (kt : i ≤ j → W p l e R s m args below meth c H locs cells slots Q (F0 m tgt ls rest)) (kf : j < i → W p l e R s m args below meth c H locs cells slots Q (F0 m (pc + 3) ls rest)) : W p l e R s m args below meth c H locs cells slots Q (F0 m pc ls (.int (nI j) :: .int (nI i) :: rest)) :=
  lv_icmp_le hx hb hdg ht (fun q => kt ((nI_leI hi hj).mp q)) (fun q => kf (Nat.not_le.mp (fun z => q ((nI_leI hi hj).mpr z))))
theorem x_ifltN (hx : p.tables.exec = Jvm.exec) (hb : c.code = cc) {i : Nat} (hi : i < 2 ^ 31) {off : Int} {tgt : Nat} (hdg : decode cc pc = .ok (.ifCond .lt off, 3)) (ht : (pc : Int) + off = (tgt : Int))
    (kf : W p l e R s m args below meth c H locs cells slots Q (F0 m (pc + 3) ls rest)) : W p l e R s m args below meth c H locs cells slots Q (F0 m pc ls (.int (nI i) :: rest)) :=
  lv_if_lt hx hb hdg ht (fun q => absurd q (nI_pos hi)) (fun _ => kf)
theorem x_ifgeN (hx : p.tables.exec = Jvm.exec) (hb : c.code = cc) {i : Nat} (hi : i < 2 ^ 31) {off : Int} {tgt : Nat} (hdg : decode cc pc = .ok (.ifCond .ge off, 3)) (ht : (pc : Int) + off = (tgt : Int))
    (kt : W p l e R s m args below meth c H locs cells slots Q (F0 m tgt ls rest)) : W p l e R s m args below meth c H locs cells slots Q (F0 m pc ls (.int (nI i) :: rest)) :=
  lv_if_ge hx hb hdg ht (fun _ => kt) (fun q => absurd (nI_pos' hi) q)
theorem x_ifeqB (hx : p.tables.exec = Jvm.exec) (hb : c.code = cc) {b : Bool} {off : Int} {tgt : Nat} (hdg : decode cc pc = .ok (.ifCond .eq off, 3)) (ht : (pc : Int) + off = (tgt : Int))
    (kt : b = false → W p l e R s m args below meth c H locs cells slots Q (F0 m tgt ls rest)) (kf : b = true → W p l e R s m args below meth c H locs cells slots Q (F0 m (pc + 3) ls rest)) : W p l e R s m args below meth c H locs cells slots Q (F0 m pc ls (.int (bI b) :: rest)) := by
  cases b
  · exact lv_if_eq hx hb hdg ht (fun _ => kt rfl) (fun q => absurd rfl q)
  · exact lv_if_eq hx hb hdg ht (fun q => absurd q (by decide)) (fun _ => kf rfl)
theorem x_ifneB (hx : p.tables.exec = Jvm.exec) (hb : c.code = cc) {b : Bool} {off : Int} {tgt : Nat} (hdg : decode cc pc = .ok (.ifCond .ne off, 3)) (ht : (pc : Int) + off = (tgt : Int))
    (kt : b = true → W p l e R s m args below meth c H locs cells slots Q (F0 m tgt ls rest)) (kf : b = false → W p l e R s m args below meth c H locs cells slots Q (F0 m (pc + 3) ls rest)) : W p l e R s m args below meth c H locs cells slots Q (F0 m pc ls (.int (bI b) :: rest)) := by
  cases b
  · exact lv_if_ne hx hb hdg ht (fun q => absurd rfl q) (fun _ => kf rfl)
  · exact lv_if_ne hx hb hdg ht (fun _ => kt rfl) (fun q => absurd q (by decide))
theorem x_ifneC (hx : p.tables.exec = Jvm.exec) (hb : c.code = cc) {b : Bool} {off : Int} {tgt : Nat} (hdg : decode cc pc = .ok (.ifCond .ne off, 3)) (ht : (pc : Int) + off = (tgt : Int))
    (kt : b = false → W p l e R s m args below meth c H locs cells slots Q (F0 m tgt ls rest)) (kf : b = true → W p l e R s m args below meth c H locs cells slots Q (F0 m (pc + 3) ls rest)) : W p l e R s m args below meth c H locs cells slots Q (F0 m pc ls (.int (bC b) :: rest)) := by
  cases b
  · exact lv_if_ne hx hb hdg ht (fun _ => kt rfl) (fun q => absurd q (by decide))
  · exact lv_if_ne hx hb hdg ht (fun q => absurd rfl q) (fun _ => kf rfl)
/-- a number against NONE -/
theorem x_eqM_N (hx : p.tables.exec = Jvm.exec) (hb : c.code = cc) {i : Nat} (hi : i < 2 ^ 31) {off : Int} {tgt : Nat} (hdg : decode cc pc = .ok (.if_icmp .eq off, 3)) (ht : (pc : Int) + off = (tgt : Int))
    (kf : W p l e R s m args below meth c H locs cells slots Q (F0 m (pc + 3) ls rest)) : W p l e R s m args below meth c H locs cells slots Q (F0 m pc ls (.int (-1) :: .int (nI i) :: rest)) :=
  lv_icmp_eq hx hb hdg ht (fun q => absurd q (nI_ne_m1 hi)) (fun _ => kf)
theorem x_neM_N (hx : p.tables.exec = Jvm.exec) (hb : c.code = cc) {i : Nat} (hi : i < 2 ^ 31) {off : Int} {tgt : Nat} (hdg : decode cc pc = .ok (.if_icmp .ne off, 3)) (ht : (pc : Int) + off = (tgt : Int))
    (kt : W p l e R s m args below meth c H locs cells slots Q (F0 m tgt ls rest)) : W p l e R s m args below meth c H locs cells slots Q (F0 m pc ls (.int (-1) :: .int (nI i) :: rest)) :=
  lv_icmp_ne hx hb hdg ht (fun _ => kt) (fun q => absurd q (nI_ne_m1 hi))
theorem x_eqM_M (hx : p.tables.exec = Jvm.exec) (hb : c.code = cc) {off : Int} {tgt : Nat} (hdg : decode cc pc = .ok (.if_icmp .eq off, 3)) (ht : (pc : Int) + off = (tgt : Int))
    (kt : W p l e R s m args below meth c H locs cells slots Q (F0 m tgt ls rest)) : W p l e R s m args below meth c H locs cells slots Q (F0 m pc ls (.int (-1) :: .int (-1) :: rest)) :=
  lv_icmp_eq hx hb hdg ht (fun _ => kt) (fun q => absurd rfl q)
theorem x_neM_M (hx : p.tables.exec = Jvm.exec) (hb : c.code = cc) {off : Int} {tgt : Nat} (hdg : decode cc pc = .ok (.if_icmp .ne off, 3)) (ht : (pc : Int) + off = (tgt : Int))
    (kf : W p l e R s m args below meth c H locs cells slots Q (F0 m (pc + 3) ls rest)) : W p l e R s m args below meth c H locs cells slots Q (F0 m pc ls (.int (-1) :: .int (-1) :: rest)) :=
  lv_icmp_ne hx hb hdg ht (fun q => absurd rfl q) (fun _ => kf)
/-- arrays at a place that is a Nat -/
theorem x_iald (hx : p.tables.exec = Jvm.exec) (hb : c.code = cc) (hK : KK dG cI cJ s) (hP : va_P dG vwCl ws H) (q0 : Nat) {n : Nat} {f : Nat → Int32} (ha : ws[q0]? = some (a, .inl (cI, n, .inl f))) {i : Nat} (hi : i < n) (hn : n < 2 ^ 31) (hdg : decode cc pc = .ok (.iaload, 1))
    (k : W p l e R s m args below meth c H locs cells slots Q (F0 m (pc + 1) ls (.int (f i) :: rest))) : W p l e R s m args below meth c H locs cells slots Q (F0 m pc ls (.int (nI i) :: .ref a :: rest)) :=
  va_iald hx hb hK.1 hP q0 0 ha rfl (vp_in_nI hi hn) hdg (by rw [nI_clamp (Nat.lt_trans hi hn)]; exact k)
theorem x_lald (hx : p.tables.exec = Jvm.exec) (hb : c.code = cc) (hK : KK dG cI cJ s) (hP : va_P dG vwCl ws H) (q0 : Nat) {n : Nat} {f : Nat → Int64} (ha : ws[q0]? = some (a, .inl (cJ, n, .inr (.inl f)))) {i : Nat} (hi : i < n) (hn : n < 2 ^ 31) (hdg : decode cc pc = .ok (.laload, 1))
    (k : W p l e R s m args below meth c H locs cells slots Q (F0 m (pc + 1) ls (.long (f i) :: rest))) : W p l e R s m args below meth c H locs cells slots Q (F0 m pc ls (.int (nI i) :: .ref a :: rest)) :=
  va_lald hx hb hK.1 hP q0 1 ha rfl (vp_in_nI hi hn) hdg (by rw [nI_clamp (Nat.lt_trans hi hn)]; exact k)
theorem x_iast (hx : p.tables.exec = Jvm.exec) (hb : c.code = cc) (hK : KK dG cI cJ s) (hP : va_P dG vwCl ws H) (hD : va_D A ws) (hS : va_S A H0 H locs) (q0 : Nat) {n : Nat} {f : Nat → Int32} (ha : ws[q0]? = some (a, .inl (cI, n, .inl f))) {i : Nat} {x : Int32} (hi : i < n) (hn : n < 2 ^ 31) (hdg : decode cc pc = .ok (.iastore, 1))
    (kk : ∀ (H1 : Heap) (locs1 : List Loc), va_P dG vwCl (ws.set q0 (a, .inl (cI, n, .inl (upd f i x)))) H1 → va_D A (ws.set q0 (a, .inl (cI, n, .inl (upd f i x)))) → va_S A H0 H1 locs1 → W p l e R s m args below meth c H1 locs1 cells slots Q (F0 m (pc + 1) ls rest)) : W p l e R s m args below meth c H locs cells slots Q (F0 m pc ls (.int x :: .int (nI i) :: .ref a :: rest)) :=
  va_iast hx hb hK.1 hP hD hS q0 0 ha rfl (vp_in_nI hi hn) hdg (fun H1 locs1 h1 h2 h3 => by rw [nI_clamp (Nat.lt_trans hi hn)] at h1 h2; exact kk H1 locs1 h1 h2 h3)
theorem x_last (hx : p.tables.exec = Jvm.exec) (hb : c.code = cc) (hK : KK dG cI cJ s) (hP : va_P dG vwCl ws H) (hD : va_D A ws) (hS : va_S A H0 H locs) (q0 : Nat) {n : Nat} {f : Nat → Int64} (ha : ws[q0]? = some (a, .inl (cJ, n, .inr (.inl f)))) {i : Nat} {x : Int64} (hi : i < n) (hn : n < 2 ^ 31) (hdg : decode cc pc = .ok (.lastore, 1))
    (kk : ∀ (H1 : Heap) (locs1 : List Loc), va_P dG vwCl (ws.set q0 (a, .inl (cJ, n, .inr (.inl (vp_updL f i x))))) H1 → va_D A (ws.set q0 (a, .inl (cJ, n, .inr (.inl (vp_updL f i x))))) → va_S A H0 H1 locs1 → W p l e R s m args below meth c H1 locs1 cells slots Q (F0 m (pc + 1) ls rest)) : W p l e R s m args below meth c H locs cells slots Q (F0 m pc ls (.long x :: .int (nI i) :: .ref a :: rest)) :=
  va_last hx hb hK.1 hP hD hS q0 1 ha rfl (vp_in_nI hi hn) hdg (fun H1 locs1 h1 h2 h3 => by rw [nI_clamp (Nat.lt_trans hi hn)] at h1 h2; exact kk H1 locs1 h1 h2 h3)
/-- behind a call that writes nothing -/
theorem x_ri {E : Int32} {av : Array Value} {st0 : List Value} (hr : CallRun p l e R s m args below meth c H locs cells slots 0 0 (F0 m pc ls st0) rest (vp_Si (fun r => r = E) av) (fun _ => False)) (k : W p l e R s m args below meth c H locs cells slots Q (F0 m (pc + 3) ls (.int E :: rest))) : W p l e R s m args below meth c H locs cells slots Q (F0 m pc ls st0) :=
  vp_callSi hr (fun r h => by subst h; exact k)
theorem x_rl {E : Int64} {av : Array Value} {st0 : List Value} (hr : CallRun p l e R s m args below meth c H locs cells slots 0 0 (F0 m pc ls st0) rest (vp_Sl (fun r => r = E) av) (fun _ => False)) (k : W p l e R s m args below meth c H locs cells slots Q (F0 m (pc + 3) ls (.long E :: rest))) : W p l e R s m args below meth c H locs cells slots Q (F0 m pc ls st0) :=
  vp_callSl hr (fun r h => by subst h; exact k)
theorem x_rv {av : Array Value} {st0 : List Value} (hr : CallRun p l e R s m args below meth c H locs cells slots 0 0 (F0 m pc ls st0) rest (va_Sv (fun _ => True) av) (fun _ => False)) (k : W p l e R s m args below meth c H locs cells slots Q (F0 m (pc + 3) ls rest)) : W p l e R s m args below meth c H locs cells slots Q (F0 m pc ls st0) :=
  va_csv hr (fun _ => k)
end XR
end
section
/-! the Graph, and the two static tests -/
def inV (x : Int32) (n : Nat) : Bool := decide (0 ≤ x.toInt ∧ x.toInt < (n : Int))
theorem inV_neg {x : Int32} {n : Nat} (h : x < 0) : inV x n = false := by
  have h0 : x.toInt < 0 := by simpa using Int32.lt_iff_toInt_lt.mp h
  exact decide_eq_false (by omega)
theorem inV_ge {x : Int32} {n : Nat} (hn : n < 2 ^ 31) (h : nI n ≤ x) : inV x n = false := by
  have h0 := Int32.le_iff_toInt_le.mp h
  rw [nI_toInt hn] at h0
  exact decide_eq_false (by omega)
theorem inV_in {x : Int32} {n : Nat} (hn : n < 2 ^ 31) (h1 : ¬ x < 0) (h2 : ¬ nI n ≤ x) : inV x n = true := by
  have h0 : ¬ x.toInt < 0 := fun q => h1 (Int32.lt_iff_toInt_lt.mpr (by simpa using q))
  have h3 : ¬ (n : Int) ≤ x.toInt := fun q => h2 (Int32.le_iff_toInt_le.mpr (by rw [nI_toInt hn]; exact q))
  exact decide_eq_true (by omega)
theorem inV_of {x : Int32} {n : Nat} (hn : n < 2 ^ 31) (h : inV x n = true) : ∃ j : Nat, j < n ∧ x = nI j := by
  have h0 := of_decide_eq_true h
  refine ⟨x.toInt.toNat, by omega, Int32.toInt_inj.mp ?_⟩
  rw [nI_toInt (by omega)]
  omega
theorem inV_nI {j n : Nat} (hj : j < 2 ^ 31) : inV (nI j) n = decide (j < n) := by
  unfold inV
  rw [nI_toInt hj]
  by_cases h : j < n
  · rw [decide_eq_true h]; exact decide_eq_true (by omega)
  · rw [decide_eq_false h]; exact decide_eq_false (by omega)
/-- the sets with an edge more; the first k of them emptied -/
def jn (ns : Nat → Int64) (a b : Nat) : Nat → Int64 := vp_updL (vp_updL ns a (ns a ||| ((1 : Int64) <<< ((nI b).toInt64 &&& 63)))) b ((vp_updL ns a (ns a ||| ((1 : Int64) <<< ((nI b).toInt64 &&& 63)))) b ||| ((1 : Int64) <<< ((nI a).toInt64 &&& 63)))
def cut0 (ns : Nat → Int64) (k : Nat) : Nat → Int64 := fun j => if j < k then 0 else ns j
theorem cut0_0 (ns : Nat → Int64) : cut0 ns 0 = ns := by funext j; simp [cut0]
theorem cut0_s (ns : Nat → Int64) (k : Nat) : vp_updL (cut0 ns k) k 0 = cut0 ns (k + 1) := by
  funext j
  unfold vp_updL cut0
  by_cases h : j = k
  · subst h; simp
  · by_cases h2 : j < k
    · simp [h, h2, show j < k + 1 by omega]
    · simp [h, h2, show ¬ j < k + 1 by omega]
set_option maxHeartbeats 4000000 in
set_option maxRecDepth 100000 in
/-- isRow(k) -/
theorem c_isRow (l : Launch) (dG : va_G) (cI cJ : ClassId) (k : Nat) (hk : k < 2 ^ 31) : Met l yX3_isRow wsX3_isRow ({ frames := 0, cells := 0, slots := 0, locals := 0 } : Room) (RPc dG cI cJ [.int (nI k)] []) (vp_Si (fun r9 => r9 = (bI (decide (k < 48))))) 0 0 (fun _ => False) := by
  refine Met.ofW (cc := cX3_isRow) (maxL := 1) (ret := (some .boolean)) (by decide) rfl ?_
  intro p e s m args below meth c s₁ B9 hml hv
  obtain ⟨rfl, hP, hK⟩ := hv
  have hx := B9.exec
  have hb := B9.bytes
  have hr := B9.returns
  have hts := atoms_spec (ws := wsX3_isRow) B9.pre
  have hown : s.vm.findClass RX3 = some m.cls := findClass_of_methodNamed B9.named
  have hlocks := B9.notSynchronized
  have hl := lv_entry ([.int (nI k)]) (n := 1) (Nat.le_of_ble_eq_true rfl)
  rw [lg_entry_eq]
  generalize (lg_sl ([.int (nI k)]) ++ List.replicate (1 - (lg_sl ([.int (nI k)])).length) Slot.unset).toArray = ls at hl ⊢
  have hl : lv_has ls 1 [(0, .int (nI k))] := hl
  refine lv_iload_n hx hb dX3_isRow_0 rfl (lv_at hl 0 rfl) ?_
  refine x_ifltN (tgt := 14) hx hb (by omega) dX3_isRow_1 (by decide) ?_
  refine lv_iload_n hx hb dX3_isRow_4 rfl (lv_at hl 0 rfl) ?_
  refine lv_bipush (v := (nI 48)) hx hb dX3_isRow_5 (by decide) ?_
  refine x_icmp_geN (i := k) (j := 48) (tgt := 14) hx hb (by omega) (by omega) dX3_isRow_7 (by decide) (fun c7 => ?_) (fun c7 => ?_)
  · skip
    refine lv_iconst (v := (nI 0)) hx hb dX3_isRow_14 (by decide) ?_
    exact W.zret (v := (nI 0)) (ty := .boolean) hx hb hr (by decide) (fun t ht hW => ⟨_, rfl, (show (nI 0) = (bI (decide (k < 48))) from by rw [decide_eq_false (show ¬ k < 48 by omega)]; rfl), ht⟩) (fun _ h => nomatch h) dX3_isRow_15
  · skip
    refine lv_iconst (v := (nI 1)) hx hb dX3_isRow_10 (by decide) ?_
    refine lv_goto (tgt := 15) hx hb dX3_isRow_11 (by decide) ?_
    exact W.zret (v := (nI 1)) (ty := .boolean) hx hb hr (by decide) (fun t ht hW => ⟨_, rfl, (show (nI 1) = (bI (decide (k < 48))) from by rw [decide_eq_true (show k < 48 by omega)]; rfl), ht⟩) (fun _ h => nomatch h) dX3_isRow_15

set_option maxHeartbeats 4000000 in
set_option maxRecDepth 100000 in
/-- isRow(-1) -/
theorem c_isRowM (l : Launch) (dG : va_G) (cI cJ : ClassId)  : Met l yX3_isRow wsX3_isRow ({ frames := 0, cells := 0, slots := 0, locals := 0 } : Room) (RPc dG cI cJ [.int (-1)] []) (vp_Si (fun r9 => r9 = (bI false))) 0 0 (fun _ => False) := by
  refine Met.ofW (cc := cX3_isRow) (maxL := 1) (ret := (some .boolean)) (by decide) rfl ?_
  intro p e s m args below meth c s₁ B9 hml hv
  obtain ⟨rfl, hP, hK⟩ := hv
  have hx := B9.exec
  have hb := B9.bytes
  have hr := B9.returns
  have hts := atoms_spec (ws := wsX3_isRow) B9.pre
  have hown : s.vm.findClass RX3 = some m.cls := findClass_of_methodNamed B9.named
  have hlocks := B9.notSynchronized
  have hl := lv_entry ([.int (-1)]) (n := 1) (Nat.le_of_ble_eq_true rfl)
  rw [lg_entry_eq]
  generalize (lg_sl ([.int (-1)]) ++ List.replicate (1 - (lg_sl ([.int (-1)])).length) Slot.unset).toArray = ls at hl ⊢
  have hl : lv_has ls 1 [(0, .int (-1))] := hl
  refine lv_iload_n hx hb dX3_isRow_0 rfl (lv_at hl 0 rfl) ?_
  refine lv_if_lt (tgt := 14) hx hb dX3_isRow_1 (by decide) (fun c1 => ?_) (fun c1 => ?_)
  · skip
    refine lv_iconst (v := (nI 0)) hx hb dX3_isRow_14 (by decide) ?_
    exact W.zret (v := (nI 0)) (ty := .boolean) hx hb hr (by decide) (fun t ht hW => ⟨_, rfl, rfl, ht⟩) (fun _ h => nomatch h) dX3_isRow_15
  · skip
    exact absurd (by decide) c1

set_option maxHeartbeats 4000000 in
set_option maxRecDepth 100000 in
/-- hasBit(w, k) -/
theorem c_hasBit (l : Launch) (dG : va_G) (cI cJ : ClassId) (w : Int64) (k : Nat) (hk : k < 64) : Met l yX3_hasBit wsX3_hasBit ({ frames := 0, cells := 0, slots := 0, locals := 0 } : Room) (RPc dG cI cJ [.long w, .int (nI k)] []) (vp_Si (fun r9 => r9 = (bI (gb w k)))) 0 0 (fun _ => False) := by
  refine Met.ofW (cc := cX3_hasBit) (maxL := 3) (ret := (some .boolean)) (by decide) rfl ?_
  intro p e s m args below meth c s₁ B9 hml hv
  obtain ⟨rfl, hP, hK⟩ := hv
  have hx := B9.exec
  have hb := B9.bytes
  have hr := B9.returns
  have hts := atoms_spec (ws := wsX3_hasBit) B9.pre
  have hown : s.vm.findClass RX3 = some m.cls := findClass_of_methodNamed B9.named
  have hlocks := B9.notSynchronized
  have hl := lv_entry ([.long w, .int (nI k)]) (n := 3) (Nat.le_of_ble_eq_true rfl)
  rw [lg_entry_eq]
  generalize (lg_sl ([.long w, .int (nI k)]) ++ List.replicate (3 - (lg_sl ([.long w, .int (nI k)])).length) Slot.unset).toArray = ls at hl ⊢
  have hl : lv_has ls 3 [(0, .long w), (2, .int (nI k))] := hl
  refine lv_lload_n hx hb dX3_hasBit_0 rfl (lv_at hl 0 rfl) ?_
  refine lv_iload_n hx hb dX3_hasBit_1 rfl (lv_at hl 1 rfl) ?_
  refine lv_lushr (v := ((w.toUInt64 >>> ((nI k).toInt64.toUInt64 &&& Int64.toUInt64 63)).toInt64)) hx hb dX3_hasBit_2 rfl ?_
  refine lv_lconst (v := 1) hx hb dX3_hasBit_3 rfl ?_
  refine lv_land hx hb dX3_hasBit_4 ?_
  refine lv_lconst (v := 0) hx hb dX3_hasBit_5 rfl ?_
  refine W.lcmp hx hb dX3_hasBit_6 ?_
  rw [show (lg_cmp (((w.toUInt64 >>> ((nI k).toInt64.toUInt64 &&& Int64.toUInt64 63)).toInt64) &&& 1) 0) = (bI (gb w k)) from gb_cmp0 hk]
  refine x_ifeqB (tgt := 14) hx hb dX3_hasBit_7 (by decide) (fun c7 => ?_) (fun c7 => ?_)
  · skip
    refine lv_iconst (v := (nI 0)) hx hb dX3_hasBit_14 (by decide) ?_
    exact W.zret (v := (nI 0)) (ty := .boolean) hx hb hr (by decide) (fun t ht hW => ⟨_, rfl, (show (nI 0) = (bI (gb w k)) from by rw [c7]; rfl), ht⟩) (fun _ h => nomatch h) dX3_hasBit_15
  · skip
    refine lv_iconst (v := (nI 1)) hx hb dX3_hasBit_10 (by decide) ?_
    refine lv_goto (tgt := 15) hx hb dX3_hasBit_11 (by decide) ?_
    exact W.zret (v := (nI 1)) (ty := .boolean) hx hb hr (by decide) (fun t ht hW => ⟨_, rfl, (show (nI 1) = (bI (gb w k)) from by rw [c7]; rfl), ht⟩) (fun _ h => nomatch h) dX3_hasBit_15

set_option maxHeartbeats 4000000 in
set_option maxRecDepth 100000 in
/-- Graph.size -/
theorem c_size (l : Launch) (dG : va_G) (cI cJ : ClassId) (g gA n ec : Nat) (ns : Nat → Int64) : Met l yX0_size wsX0_size ({ frames := 0, cells := 0, slots := 0, locals := 0 } : Room) (RPc dG cI cJ [.ref g] (GW cJ g gA (nI n) (nI ec) ns)) (vp_Si (fun r9 => r9 = (nI n))) 0 0 (fun _ => False) := by
  refine Met.ofW (cc := cX0_size) (maxL := 1) (ret := (some .int)) (by decide) rfl ?_
  intro p e s m args below meth c s₁ B9 hml hv
  obtain ⟨rfl, hP, hK⟩ := hv
  have hx := B9.exec
  have hb := B9.bytes
  have hr := B9.returns
  have hts := atoms_spec (ws := wsX0_size) B9.pre
  have hown : s.vm.findClass RX0 = some m.cls := findClass_of_methodNamed B9.named
  have hlocks := B9.notSynchronized
  have hl := lv_entry ([.ref g]) (n := 1) (Nat.le_of_ble_eq_true rfl)
  rw [lg_entry_eq]
  generalize (lg_sl ([.ref g]) ++ List.replicate (1 - (lg_sl ([.ref g])).length) Slot.unset).toArray = ls at hl ⊢
  have hl : lv_has ls 1 [(0, .ref g)] := hl
  have hiX0 : ∀ w ∈ wsX00, w ∈ wsX0_size := by decide +kernel
  have hf15 := hts (.fieldLink RX0 15 "LandmarkLea$Graph" "vertexCount" "I") (by decide +kernel)
  refine lv_aload_n hx hb dX0_size_0 rfl (lv_at hl 0 rfl) ?_
  refine va_get (D := dG) (ci := 0) (v := .int (nI n)) (C := RX0) (T := TX0) (N := 3) hx hb hts hiX0 hown hK.1 hP 0 rfl rfl 1 (by decide) hf15 (fun _ h9 => h9) rfl dX0_size_1 ?_
  exact W.iret (v := (nI n)) hx hb hr (fun t ht hW => ⟨_, rfl, rfl, ht⟩) (fun _ h => nomatch h) dX0_size_4

set_option maxHeartbeats 4000000 in
set_option maxRecDepth 100000 in
/-- Graph.countOfEdges -/
theorem c_countOfEdges (l : Launch) (dG : va_G) (cI cJ : ClassId) (g gA n ec : Nat) (ns : Nat → Int64) : Met l yX0_countOfEdges wsX0_countOfEdges ({ frames := 0, cells := 0, slots := 0, locals := 0 } : Room) (RPc dG cI cJ [.ref g] (GW cJ g gA (nI n) (nI ec) ns)) (vp_Si (fun r9 => r9 = (nI ec))) 0 0 (fun _ => False) := by
  refine Met.ofW (cc := cX0_countOfEdges) (maxL := 1) (ret := (some .int)) (by decide) rfl ?_
  intro p e s m args below meth c s₁ B9 hml hv
  obtain ⟨rfl, hP, hK⟩ := hv
  have hx := B9.exec
  have hb := B9.bytes
  have hr := B9.returns
  have hts := atoms_spec (ws := wsX0_countOfEdges) B9.pre
  have hown : s.vm.findClass RX0 = some m.cls := findClass_of_methodNamed B9.named
  have hlocks := B9.notSynchronized
  have hl := lv_entry ([.ref g]) (n := 1) (Nat.le_of_ble_eq_true rfl)
  rw [lg_entry_eq]
  generalize (lg_sl ([.ref g]) ++ List.replicate (1 - (lg_sl ([.ref g])).length) Slot.unset).toArray = ls at hl ⊢
  have hl : lv_has ls 1 [(0, .ref g)] := hl
  have hiX0 : ∀ w ∈ wsX00, w ∈ wsX0_countOfEdges := by decide +kernel
  have hf19 := hts (.fieldLink RX0 19 "LandmarkLea$Graph" "edgeCount" "I") (by decide +kernel)
  refine lv_aload_n hx hb dX0_countOfEdges_0 rfl (lv_at hl 0 rfl) ?_
  refine va_get (D := dG) (ci := 0) (v := .int (nI ec)) (C := RX0) (T := TX0) (N := 3) hx hb hts hiX0 hown hK.1 hP 0 rfl rfl 2 (by decide) hf19 (fun _ h9 => h9) rfl dX0_countOfEdges_1 ?_
  exact W.iret (v := (nI ec)) hx hb hr (fun t ht hW => ⟨_, rfl, rfl, ht⟩) (fun _ h => nomatch h) dX0_countOfEdges_4

set_option maxHeartbeats 4000000 in
set_option maxRecDepth 100000 in
/-- Graph.has -/
theorem c_has (l : Launch) (dG : va_G) (cI cJ : ClassId) (g gA n ec : Nat) (ns : Nat → Int64) (hn : n < 2 ^ 31) (x : Int32) : Met l yX0_has wsX0_has ({ frames := 0, cells := 0, slots := 0, locals := 0 } : Room) (RPc dG cI cJ [.ref g, .int x] (GW cJ g gA (nI n) (nI ec) ns)) (vp_Si (fun r9 => r9 = (bI (inV x n)))) 0 0 (fun _ => False) := by
  refine Met.ofW (cc := cX0_has) (maxL := 2) (ret := (some .boolean)) (by decide) rfl ?_
  intro p e s m args below meth c s₁ B9 hml hv
  obtain ⟨rfl, hP, hK⟩ := hv
  have hx := B9.exec
  have hb := B9.bytes
  have hr := B9.returns
  have hts := atoms_spec (ws := wsX0_has) B9.pre
  have hown : s.vm.findClass RX0 = some m.cls := findClass_of_methodNamed B9.named
  have hlocks := B9.notSynchronized
  have hl := lv_entry ([.ref g, .int x]) (n := 2) (Nat.le_of_ble_eq_true rfl)
  rw [lg_entry_eq]
  generalize (lg_sl ([.ref g, .int x]) ++ List.replicate (2 - (lg_sl ([.ref g, .int x])).length) Slot.unset).toArray = ls at hl ⊢
  have hl : lv_has ls 2 [(0, .ref g), (1, .int x)] := hl
  have hiX0 : ∀ w ∈ wsX00, w ∈ wsX0_has := by decide +kernel
  have hf15 := hts (.fieldLink RX0 15 "LandmarkLea$Graph" "vertexCount" "I") (by decide +kernel)
  refine lv_iload_n hx hb dX0_has_0 rfl (lv_at hl 1 rfl) ?_
  refine lv_if_lt (tgt := 16) hx hb dX0_has_1 (by decide) (fun c1 => ?_) (fun c1 => ?_)
  · skip
    refine lv_iconst (v := (nI 0)) hx hb dX0_has_16 (by decide) ?_
    exact W.zret (v := (nI 0)) (ty := .boolean) hx hb hr (by decide) (fun t ht hW => ⟨_, rfl, (show (nI 0) = (bI (inV x n)) from by rw [inV_neg c1]; rfl), ht⟩) (fun _ h => nomatch h) dX0_has_17
  · skip
    refine lv_iload_n hx hb dX0_has_4 rfl (lv_at hl 1 rfl) ?_
    refine lv_aload_n hx hb dX0_has_5 rfl (lv_at hl 0 rfl) ?_
    refine va_get (D := dG) (ci := 0) (v := .int (nI n)) (C := RX0) (T := TX0) (N := 3) hx hb hts hiX0 hown hK.1 hP 0 rfl rfl 1 (by decide) hf15 (fun _ h9 => h9) rfl dX0_has_6 ?_
    refine lv_icmp_ge (tgt := 16) hx hb dX0_has_9 (by decide) (fun c9 => ?_) (fun c9 => ?_)
    · skip
      refine lv_iconst (v := (nI 0)) hx hb dX0_has_16 (by decide) ?_
      exact W.zret (v := (nI 0)) (ty := .boolean) hx hb hr (by decide) (fun t ht hW => ⟨_, rfl, (show (nI 0) = (bI (inV x n)) from by rw [inV_ge hn c9]; rfl), ht⟩) (fun _ h => nomatch h) dX0_has_17
    · skip
      refine lv_iconst (v := (nI 1)) hx hb dX0_has_12 (by decide) ?_
      refine lv_goto (tgt := 17) hx hb dX0_has_13 (by decide) ?_
      exact W.zret (v := (nI 1)) (ty := .boolean) hx hb hr (by decide) (fun t ht hW => ⟨_, rfl, (show (nI 1) = (bI (inV x n)) from by rw [inV_in hn c1 c9]; rfl), ht⟩) (fun _ h => nomatch h) dX0_has_17

set_option maxHeartbeats 4000000 in
set_option maxRecDepth 100000 in
/-- Graph.adjacent -/
theorem c_adjacent (l : Launch) (dG : va_G) (cI cJ : ClassId) (g gA n ec : Nat) (ns : Nat → Int64) (v : Nat) (hv : v < 48) : Met l yX0_adjacent wsX0_adjacent ({ frames := 1, cells := 0, slots := 0, locals := 20 } : Room) (RPc dG cI cJ [.ref g, .int (nI v)] (GW cJ g gA (nI n) (nI ec) ns)) (vp_Sl (fun r9 => r9 = (ns v))) 0 0 (fun _ => False) := by
  refine Met.ofW (cc := cX0_adjacent) (maxL := 2) (ret := (some .long)) (by decide) rfl ?_
  intro p e s m args below meth c s₁ B9 hml hv
  obtain ⟨rfl, hP, hK⟩ := hv
  have hx := B9.exec
  have hb := B9.bytes
  have hr := B9.returns
  have hts := atoms_spec (ws := wsX0_adjacent) B9.pre
  have hown : s.vm.findClass RX0 = some m.cls := findClass_of_methodNamed B9.named
  have hlocks := B9.notSynchronized
  have hl := lv_entry ([.ref g, .int (nI v)]) (n := 2) (Nat.le_of_ble_eq_true rfl)
  rw [lg_entry_eq]
  generalize (lg_sl ([.ref g, .int (nI v)]) ++ List.replicate (2 - (lg_sl ([.ref g, .int (nI v)])).length) Slot.unset).toArray = ls at hl ⊢
  have hl : lv_has ls 2 [(0, .ref g), (1, .int (nI v))] := hl
  have hiX0 : ∀ w ∈ wsX00, w ∈ wsX0_adjacent := by decide +kernel
  have hf9 := hts (.fieldLink RX0 9 "LandmarkLea$Graph" "neighbourSets" "[J") (by decide +kernel)
  refine lv_iload_n hx hb dX0_adjacent_0 rfl (lv_at hl 1 rfl) ?_
  have hPc : va_P dG vwCl [] s.heap := fun k q h => by simp at h
  refine x_ri (va_runSN (As := [.int (nI v)]) (rest := []) ⟨hx, hb, hml, hown, hts⟩ (c_isRow l dG cI cJ v (by omega)) ⟨va_cnB 1 hts gX0_adjacent_X3_isRow_n22 rfl rfl rfl hK.2.1 (hts (.initialized RX3) (by decide +kernel)) (by decide +kernel) ⟨Nat.le_of_ble_eq_true rfl, Nat.le_of_ble_eq_true rfl⟩, hts (.static yX3_isRow) (by decide +kernel), trivial⟩ (RPc.preS hPc hK) rfl rfl hl.1 rfl (lv_room (Nat.le_of_ble_eq_true rfl)) dX0_adjacent_1 ⟨Nat.zero_le _, Nat.zero_le _⟩).run ?_
  refine x_ifeqB (tgt := 16) hx hb dX0_adjacent_4 (by decide) (fun c4 => ?_) (fun c4 => ?_)
  · skip
    exact absurd hv (of_decide_eq_false c4)
  · skip
    refine lv_aload_n hx hb dX0_adjacent_7 rfl (lv_at hl 0 rfl) ?_
    refine va_get (D := dG) (ci := 0) (v := .ref gA) (C := RX0) (T := TX0) (N := 3) hx hb hts hiX0 hown hK.1 hP 0 rfl rfl 0 (by decide) hf9 (fun _ h9 => h9) rfl dX0_adjacent_8 ?_
    refine lv_iload_n hx hb dX0_adjacent_11 rfl (lv_at hl 1 rfl) ?_
    refine x_lald (f := ns) hx hb hK hP 1 rfl (by omega) (by decide) dX0_adjacent_12 ?_
    refine lv_goto (tgt := 17) hx hb dX0_adjacent_13 (by decide) ?_
    exact W.lret (v := (ns v)) hx hb hr (fun t ht hW => ⟨_, rfl, rfl, ht⟩) (fun _ h => nomatch h) dX0_adjacent_17

set_option maxHeartbeats 4000000 in
set_option maxRecDepth 100000 in
/-- Graph.joins -/
theorem c_joins (l : Launch) (dG : va_G) (cI cJ : ClassId) (g gA n ec : Nat) (ns : Nat → Int64) (a b : Nat) (ha : a < 48) (hb2 : b < 48) : Met l yX0_joins wsX0_joins ({ frames := 2, cells := 0, slots := 0, locals := 41 } : Room) (RPc dG cI cJ [.ref g, .int (nI a), .int (nI b)] (GW cJ g gA (nI n) (nI ec) ns)) (vp_Si (fun r9 => r9 = (bI (gb (ns a) b)))) 0 0 (fun _ => False) := by
  refine Met.ofW (cc := cX0_joins) (maxL := 3) (ret := (some .boolean)) (by decide) rfl ?_
  intro p e s m args below meth c s₁ B9 hml hv
  obtain ⟨rfl, hP, hK⟩ := hv
  have hx := B9.exec
  have hb := B9.bytes
  have hr := B9.returns
  have hts := atoms_spec (ws := wsX0_joins) B9.pre
  have hown : s.vm.findClass RX0 = some m.cls := findClass_of_methodNamed B9.named
  have hlocks := B9.notSynchronized
  have hl := lv_entry ([.ref g, .int (nI a), .int (nI b)]) (n := 3) (Nat.le_of_ble_eq_true rfl)
  rw [lg_entry_eq]
  generalize (lg_sl ([.ref g, .int (nI a), .int (nI b)]) ++ List.replicate (3 - (lg_sl ([.ref g, .int (nI a), .int (nI b)])).length) Slot.unset).toArray = ls at hl ⊢
  have hl : lv_has ls 3 [(0, .ref g), (1, .int (nI a)), (2, .int (nI b))] := hl
  refine lv_iload_n hx hb dX0_joins_0 rfl (lv_at hl 2 rfl) ?_
  have hPc : va_P dG vwCl [] s.heap := fun k q h => by simp at h
  refine x_ri (va_runSN (As := [.int (nI b)]) (rest := []) ⟨hx, hb, hml, hown, hts⟩ (c_isRow l dG cI cJ b (by omega)) ⟨va_cnB 1 hts gX0_joins_X3_isRow_n22 rfl rfl rfl hK.2.1 (hts (.initialized RX3) (by decide +kernel)) (by decide +kernel) ⟨Nat.le_of_ble_eq_true rfl, Nat.le_of_ble_eq_true rfl⟩, hts (.static yX3_isRow) (by decide +kernel), trivial⟩ (RPc.preS hPc hK) rfl rfl hl.1 rfl (lv_room (Nat.le_of_ble_eq_true rfl)) dX0_joins_1 ⟨Nat.zero_le _, Nat.zero_le _⟩).run ?_
  refine x_ifeqB (tgt := 23) hx hb dX0_joins_4 (by decide) (fun c4 => ?_) (fun c4 => ?_)
  · skip
    exact absurd hb2 (of_decide_eq_false c4)
  · skip
    refine lv_aload_n hx hb dX0_joins_7 rfl (lv_at hl 0 rfl) ?_
    refine lv_iload_n hx hb dX0_joins_8 rfl (lv_at hl 1 rfl) ?_
    have hPc := hP.sub (ws' := (GW cJ g gA (nI n) (nI ec) ns)) [0, 1] rfl
    refine x_rl (W.runV (As := [.int (nI a)]) (rest := []) ⟨hx, hb, hml, hown, hts⟩ (c_adjacent l dG cI cJ g gA n ec ns a ha) (cwV 1 hts gX0_joins_X0_adjacent rfl rfl rfl (by decide +kernel) ⟨Nat.le_of_ble_eq_true rfl, Nat.le_of_ble_eq_true rfl⟩) (RPc.pre hPc hK (va_recv hK.1 hPc (ci := 0) (q0 := 0) rfl rfl)) rfl rfl hl.1 rfl (lv_room (Nat.le_of_ble_eq_true rfl)) dX0_joins_9 ⟨Nat.zero_le _, Nat.zero_le _⟩) ?_
    refine lv_iload_n hx hb dX0_joins_12 rfl (lv_at hl 2 rfl) ?_
    have hPc : va_P dG vwCl [] s.heap := fun k q h => by simp at h
    refine x_ri (va_runSN (As := [.long (ns a), .int (nI b)]) (rest := []) ⟨hx, hb, hml, hown, hts⟩ (c_hasBit l dG cI cJ (ns a) b (by omega)) ⟨va_cnB 2 hts gX0_joins_X3_hasBit_n30 rfl rfl rfl hK.2.2.1 (hts (.initialized RX3) (by decide +kernel)) (by decide +kernel) ⟨Nat.le_of_ble_eq_true rfl, Nat.le_of_ble_eq_true rfl⟩, hts (.static yX3_hasBit) (by decide +kernel), trivial⟩ (RPc.preS hPc hK) rfl rfl hl.1 rfl (lv_room (Nat.le_of_ble_eq_true rfl)) dX0_joins_13 ⟨Nat.zero_le _, Nat.zero_le _⟩).run ?_
    refine x_ifeqB (tgt := 23) hx hb dX0_joins_16 (by decide) (fun c16 => ?_) (fun c16 => ?_)
    · skip
      refine lv_iconst (v := (nI 0)) hx hb dX0_joins_23 (by decide) ?_
      exact W.zret (v := (nI 0)) (ty := .boolean) hx hb hr (by decide) (fun t ht hW => ⟨_, rfl, (show (nI 0) = (bI (gb (ns a) b)) from by rw [c16]; rfl), ht⟩) (fun _ h => nomatch h) dX0_joins_24
    · skip
      refine lv_iconst (v := (nI 1)) hx hb dX0_joins_19 (by decide) ?_
      refine lv_goto (tgt := 24) hx hb dX0_joins_20 (by decide) ?_
      exact W.zret (v := (nI 1)) (ty := .boolean) hx hb hr (by decide) (fun t ht hW => ⟨_, rfl, (show (nI 1) = (bI (gb (ns a) b)) from by rw [c16]; rfl), ht⟩) (fun _ h => nomatch h) dX0_joins_24

set_option maxHeartbeats 4000000 in
set_option maxRecDepth 100000 in
/-- Graph.grow -/
theorem c_grow (l : Launch) (dG : va_G) (cI cJ : ClassId) (A : Nat → Prop) (g gA n ec : Nat) (ns : Nat → Int64) (hn : n < 48) (X : va_W) : Met l yX0_grow wsX0_grow ({ frames := 0, cells := 0, slots := 0, locals := 0 } : Room) (WPc dG cI cJ [.ref g] (GW cJ g gA (nI n) (nI ec) ns ++ X) A) (va_Qi (S := Unit) (fun r _ => r = nI n) (fun _ => WB dG A (GW cJ g gA (nI (n + 1)) (nI ec) ns ++ X)) A) 0 0 A := by
  refine Met.ofW (cc := cX0_grow) (maxL := 2) (ret := (some .int)) (by decide) rfl ?_
  intro p e s m args below meth c s₁ B9 hml hv
  obtain ⟨rfl, hP, hK, hD⟩ := hv
  have hx := B9.exec
  have hb := B9.bytes
  have hr := B9.returns
  have hts := atoms_spec (ws := wsX0_grow) B9.pre
  have hown : s.vm.findClass RX0 = some m.cls := findClass_of_methodNamed B9.named
  have hlocks := B9.notSynchronized
  have hS : va_S A s.heap s.heap [] := va_S.rf
  have hl := lv_entry ([.ref g]) (n := 2) (Nat.le_of_ble_eq_true rfl)
  rw [lg_entry_eq]
  generalize (lg_sl ([.ref g]) ++ List.replicate (2 - (lg_sl ([.ref g])).length) Slot.unset).toArray = ls at hl ⊢
  have hl : lv_has ls 2 [(0, .ref g)] := hl
  have hiX0 : ∀ w ∈ wsX00, w ∈ wsX0_grow := by decide +kernel
  have hf15 := hts (.fieldLink RX0 15 "LandmarkLea$Graph" "vertexCount" "I") (by decide +kernel)
  refine lv_aload_n hx hb dX0_grow_0 rfl (lv_at hl 0 rfl) ?_
  refine va_get (D := dG) (ci := 0) (v := .int (nI n)) (C := RX0) (T := TX0) (N := 3) hx hb hts hiX0 hown hK.1 hP 0 rfl rfl 1 (by decide) hf15 (fun _ h9 => h9) rfl dX0_grow_1 ?_
  refine lv_bipush (v := (nI 48)) hx hb dX0_grow_4 (by decide) ?_
  refine x_icmp_ltN (i := n) (j := 48) (tgt := 11) hx hb (by omega) (by omega) dX0_grow_6 (by decide) (fun c6 => ?_) (fun c6 => ?_)
  · skip
    refine lv_aload_n hx hb dX0_grow_11 rfl (lv_at hl 0 rfl) ?_
    refine va_get (D := dG) (ci := 0) (v := .int (nI n)) (C := RX0) (T := TX0) (N := 3) hx hb hts hiX0 hown hK.1 hP 0 rfl rfl 1 (by decide) hf15 (fun _ h9 => h9) rfl dX0_grow_12 ?_
    refine lv_istore_n (lv' := [(1, .int (nI n)), (0, .ref g)]) hx hb dX0_grow_15 rfl hl (by decide) rfl (fun ls hl => ?_)
    refine lv_aload_n hx hb dX0_grow_16 rfl (lv_at hl 1 rfl) ?_
    refine lv_dup hx hb dX0_grow_17 rfl ?_
    refine va_get (D := dG) (ci := 0) (v := .int (nI n)) (C := RX0) (T := TX0) (N := 3) hx hb hts hiX0 hown hK.1 hP 0 rfl rfl 1 (by decide) hf15 (fun _ h9 => h9) rfl dX0_grow_18 ?_
    refine lv_iconst (v := (nI 1)) hx hb dX0_grow_21 (by decide) ?_
    refine x_addN (i := n) (j := 1) hx hb dX0_grow_22 ?_
    refine va_put (D := dG) (ci := 0) (v := .int (nI (n + 1))) (ty := .int) (C := RX0) (T := TX0) (N := 3) hx hb hts hiX0 tyX0 tyX0_ok nmX0 hown hK.1 hP hD hS 0 rfl rfl 1 (by decide) hf15 (fun _ h9 => h9) rfl (by decide +kernel) rfl rfl (Nat.le_of_ble_eq_true rfl) dX0_grow_23 (fun H locs hP hD hS => ?_)
    have hP : va_P dG vwCl (GW cJ g gA (nI (n + 1)) (nI ec) ns ++ X) H := hP
    have hD : va_D A (GW cJ g gA (nI (n + 1)) (nI ec) ns ++ X) := hD
    refine lv_iload_n hx hb dX0_grow_26 rfl (lv_at hl 0 rfl) ?_
    exact W.iret (v := (nI n)) hx hb hr (fun t ht hW => ⟨⟨_, (), rfl, rfl, by rw [ht]; exact hP, hD⟩, hS.F ht⟩) hS.2.2 dX0_grow_27
  · skip
    exact absurd c6 (by omega)

set_option maxHeartbeats 4000000 in
set_option maxRecDepth 100000 in
/-- Graph.join -/
theorem c_join (l : Launch) (dG : va_G) (cI cJ : ClassId) (A : Nat → Prop) (g gA n ec : Nat) (ns : Nat → Int64) (a b : Nat) (ha : a < 48) (hb2 : b < 48) (X : va_W) : Met l yX0_join wsX0_join ({ frames := 1, cells := 0, slots := 0, locals := 20 } : Room) (WPc dG cI cJ [.ref g, .int (nI a), .int (nI b)] (GW cJ g gA (nI n) (nI ec) ns ++ X) A) (va_Qv (S := Unit) (fun _ => True) (fun _ => WB dG A (GW cJ g gA (nI n) (nI (ec + 1)) (jn ns a b) ++ X)) A) 0 0 A := by
  refine Met.ofW (cc := cX0_join) (maxL := 3) (ret := none) (by decide) rfl ?_
  intro p e s m args below meth c s₁ B9 hml hv
  obtain ⟨rfl, hP, hK, hD⟩ := hv
  have hx := B9.exec
  have hb := B9.bytes
  have hr := B9.returns
  have hts := atoms_spec (ws := wsX0_join) B9.pre
  have hown : s.vm.findClass RX0 = some m.cls := findClass_of_methodNamed B9.named
  have hlocks := B9.notSynchronized
  have hS : va_S A s.heap s.heap [] := va_S.rf
  have hl := lv_entry ([.ref g, .int (nI a), .int (nI b)]) (n := 3) (Nat.le_of_ble_eq_true rfl)
  rw [lg_entry_eq]
  generalize (lg_sl ([.ref g, .int (nI a), .int (nI b)]) ++ List.replicate (3 - (lg_sl ([.ref g, .int (nI a), .int (nI b)])).length) Slot.unset).toArray = ls at hl ⊢
  have hl : lv_has ls 3 [(0, .ref g), (1, .int (nI a)), (2, .int (nI b))] := hl
  have hiX0 : ∀ w ∈ wsX00, w ∈ wsX0_join := by decide +kernel
  have hf9 := hts (.fieldLink RX0 9 "LandmarkLea$Graph" "neighbourSets" "[J") (by decide +kernel)
  have hf19 := hts (.fieldLink RX0 19 "LandmarkLea$Graph" "edgeCount" "I") (by decide +kernel)
  refine lv_iload_n hx hb dX0_join_0 rfl (lv_at hl 1 rfl) ?_
  have hPc : va_P dG vwCl [] s.heap := fun k q h => by simp at h
  refine x_ri (va_runSN (As := [.int (nI a)]) (rest := []) ⟨hx, hb, hml, hown, hts⟩ (c_isRow l dG cI cJ a (by omega)) ⟨va_cnB 1 hts gX0_join_X3_isRow_n22 rfl rfl rfl hK.2.1 (hts (.initialized RX3) (by decide +kernel)) (by decide +kernel) ⟨Nat.le_of_ble_eq_true rfl, Nat.le_of_ble_eq_true rfl⟩, hts (.static yX3_isRow) (by decide +kernel), trivial⟩ (RPc.preS hPc hK) rfl rfl hl.1 rfl (lv_room (Nat.le_of_ble_eq_true rfl)) dX0_join_1 ⟨Nat.zero_le _, Nat.zero_le _⟩).run ?_
  refine x_ifeqB (tgt := 48) hx hb dX0_join_4 (by decide) (fun c4 => ?_) (fun c4 => ?_)
  · skip
    exact absurd ha (of_decide_eq_false c4)
  · skip
    refine lv_iload_n hx hb dX0_join_7 rfl (lv_at hl 2 rfl) ?_
    have hPc : va_P dG vwCl [] s.heap := fun k q h => by simp at h
    refine x_ri (va_runSN (As := [.int (nI b)]) (rest := []) ⟨hx, hb, hml, hown, hts⟩ (c_isRow l dG cI cJ b (by omega)) ⟨va_cnB 1 hts gX0_join_X3_isRow_n22 rfl rfl rfl hK.2.1 (hts (.initialized RX3) (by decide +kernel)) (by decide +kernel) ⟨Nat.le_of_ble_eq_true rfl, Nat.le_of_ble_eq_true rfl⟩, hts (.static yX3_isRow) (by decide +kernel), trivial⟩ (RPc.preS hPc hK) rfl rfl hl.1 rfl (lv_room (Nat.le_of_ble_eq_true rfl)) dX0_join_8 ⟨Nat.zero_le _, Nat.zero_le _⟩).run ?_
    refine x_ifeqB (tgt := 48) hx hb dX0_join_11 (by decide) (fun c11 => ?_) (fun c11 => ?_)
    · skip
      exact absurd hb2 (of_decide_eq_false c11)
    · skip
      refine lv_aload_n hx hb dX0_join_14 rfl (lv_at hl 0 rfl) ?_
      refine va_get (D := dG) (ci := 0) (v := .ref gA) (C := RX0) (T := TX0) (N := 3) hx hb hts hiX0 hown hK.1 hP 0 rfl rfl 0 (by decide) hf9 (fun _ h9 => h9) rfl dX0_join_15 ?_
      refine lv_iload_n hx hb dX0_join_18 rfl (lv_at hl 1 rfl) ?_
      refine lv_dup2_11 hx hb dX0_join_19 rfl rfl ?_
      refine x_lald (f := ns) hx hb hK hP 1 rfl (by omega) (by decide) dX0_join_20 ?_
      refine lv_lconst (v := 1) hx hb dX0_join_21 rfl ?_
      refine lv_iload_n hx hb dX0_join_22 rfl (lv_at hl 2 rfl) ?_
      refine lv_lshl (v := (1 <<< ((nI b).toInt64 &&& 63))) hx hb dX0_join_23 rfl ?_
      refine lv_lor hx hb dX0_join_24 ?_
      refine x_last (f := ns) hx hb hK hP hD hS 1 rfl (by omega) (by decide) dX0_join_25 (fun H locs hP hD hS => ?_)
      have hP : va_P dG vwCl (GW cJ g gA (nI n) (nI ec) (vp_updL ns a ((ns a) ||| (1 <<< ((nI b).toInt64 &&& 63)))) ++ X) H := hP
      have hD : va_D A (GW cJ g gA (nI n) (nI ec) (vp_updL ns a ((ns a) ||| (1 <<< ((nI b).toInt64 &&& 63)))) ++ X) := hD
      refine lv_aload_n hx hb dX0_join_26 rfl (lv_at hl 0 rfl) ?_
      refine va_get (D := dG) (ci := 0) (v := .ref gA) (C := RX0) (T := TX0) (N := 3) hx hb hts hiX0 hown hK.1 hP 0 rfl rfl 0 (by decide) hf9 (fun _ h9 => h9) rfl dX0_join_27 ?_
      refine lv_iload_n hx hb dX0_join_30 rfl (lv_at hl 2 rfl) ?_
      refine lv_dup2_11 hx hb dX0_join_31 rfl rfl ?_
      refine x_lald (f := (vp_updL ns a ((ns a) ||| (1 <<< ((nI b).toInt64 &&& 63))))) hx hb hK hP 1 rfl (by omega) (by decide) dX0_join_32 ?_
      refine lv_lconst (v := 1) hx hb dX0_join_33 rfl ?_
      refine lv_iload_n hx hb dX0_join_34 rfl (lv_at hl 1 rfl) ?_
      refine lv_lshl (v := (1 <<< ((nI a).toInt64 &&& 63))) hx hb dX0_join_35 rfl ?_
      refine lv_lor hx hb dX0_join_36 ?_
      refine x_last (f := (vp_updL ns a ((ns a) ||| (1 <<< ((nI b).toInt64 &&& 63))))) hx hb hK hP hD hS 1 rfl (by omega) (by decide) dX0_join_37 (fun H locs hP hD hS => ?_)
      have hP : va_P dG vwCl (GW cJ g gA (nI n) (nI ec) (vp_updL (vp_updL ns a ((ns a) ||| (1 <<< ((nI b).toInt64 &&& 63)))) b (((vp_updL ns a ((ns a) ||| (1 <<< ((nI b).toInt64 &&& 63)))) b) ||| (1 <<< ((nI a).toInt64 &&& 63)))) ++ X) H := hP
      have hD : va_D A (GW cJ g gA (nI n) (nI ec) (vp_updL (vp_updL ns a ((ns a) ||| (1 <<< ((nI b).toInt64 &&& 63)))) b (((vp_updL ns a ((ns a) ||| (1 <<< ((nI b).toInt64 &&& 63)))) b) ||| (1 <<< ((nI a).toInt64 &&& 63)))) ++ X) := hD
      refine lv_aload_n hx hb dX0_join_38 rfl (lv_at hl 0 rfl) ?_
      refine lv_dup hx hb dX0_join_39 rfl ?_
      refine va_get (D := dG) (ci := 0) (v := .int (nI ec)) (C := RX0) (T := TX0) (N := 3) hx hb hts hiX0 hown hK.1 hP 0 rfl rfl 2 (by decide) hf19 (fun _ h9 => h9) rfl dX0_join_40 ?_
      refine lv_iconst (v := (nI 1)) hx hb dX0_join_43 (by decide) ?_
      refine x_addN (i := ec) (j := 1) hx hb dX0_join_44 ?_
      refine va_put (D := dG) (ci := 0) (v := .int (nI (ec + 1))) (ty := .int) (C := RX0) (T := TX0) (N := 3) hx hb hts hiX0 tyX0 tyX0_ok nmX0 hown hK.1 hP hD hS 0 rfl rfl 2 (by decide) hf19 (fun _ h9 => h9) rfl (by decide +kernel) rfl rfl (Nat.le_of_ble_eq_true rfl) dX0_join_45 (fun H locs hP hD hS => ?_)
      have hP : va_P dG vwCl (GW cJ g gA (nI n) (nI (ec + 1)) (vp_updL (vp_updL ns a ((ns a) ||| (1 <<< ((nI b).toInt64 &&& 63)))) b (((vp_updL ns a ((ns a) ||| (1 <<< ((nI b).toInt64 &&& 63)))) b) ||| (1 <<< ((nI a).toInt64 &&& 63)))) ++ X) H := hP
      have hD : va_D A (GW cJ g gA (nI n) (nI (ec + 1)) (vp_updL (vp_updL ns a ((ns a) ||| (1 <<< ((nI b).toInt64 &&& 63)))) b (((vp_updL ns a ((ns a) ||| (1 <<< ((nI b).toInt64 &&& 63)))) b) ||| (1 <<< ((nI a).toInt64 &&& 63)))) ++ X) := hD
      exact W.vret hx hb hr (fun t ht hW => ⟨⟨(), rfl, trivial, by rw [ht]; exact hP, hD⟩, hS.F ht⟩) hS.2.2 dX0_join_48

set_option maxHeartbeats 4000000 in
set_option maxRecDepth 100000 in
/-- Graph.cutAll -/
theorem c_cutAll (l : Launch) (dG : va_G) (cI cJ : ClassId) (A : Nat → Prop) (g gA n ec : Nat) (ns : Nat → Int64) (X : va_W) : Met l yX0_cutAll wsX0_cutAll ({ frames := 0, cells := 0, slots := 0, locals := 0 } : Room) (WPc dG cI cJ [.ref g] (GW cJ g gA (nI n) (nI ec) ns ++ X) A) (va_Qv (S := Unit) (fun _ => True) (fun _ => WB dG A (GW cJ g gA (nI n) (nI 0) (cut0 ns 48) ++ X)) A) 0 0 A := by
  refine Met.ofW (cc := cX0_cutAll) (maxL := 2) (ret := none) (by decide) rfl ?_
  intro p e s m args below meth c s₁ B9 hml hv
  obtain ⟨rfl, hP, hK, hD⟩ := hv
  have hx := B9.exec
  have hb := B9.bytes
  have hr := B9.returns
  have hts := atoms_spec (ws := wsX0_cutAll) B9.pre
  have hown : s.vm.findClass RX0 = some m.cls := findClass_of_methodNamed B9.named
  have hlocks := B9.notSynchronized
  have hS : va_S A s.heap s.heap [] := va_S.rf
  have hl := lv_entry ([.ref g]) (n := 2) (Nat.le_of_ble_eq_true rfl)
  rw [lg_entry_eq]
  generalize (lg_sl ([.ref g]) ++ List.replicate (2 - (lg_sl ([.ref g])).length) Slot.unset).toArray = ls at hl ⊢
  have hl : lv_has ls 2 [(0, .ref g)] := hl
  have hiX0 : ∀ w ∈ wsX00, w ∈ wsX0_cutAll := by decide +kernel
  have hf9 := hts (.fieldLink RX0 9 "LandmarkLea$Graph" "neighbourSets" "[J") (by decide +kernel)
  have hf19 := hts (.fieldLink RX0 19 "LandmarkLea$Graph" "edgeCount" "I") (by decide +kernel)
  refine lv_iconst (v := (nI 0)) hx hb dX0_cutAll_0 (by decide) ?_
  refine lv_istore_n (lv' := [(1, .int (nI 0)), (0, .ref g)]) hx hb dX0_cutAll_1 rfl hl (by decide) rfl (fun ls hl => ?_)
  rw [← cut0_0 ns] at hP hD
  have loop : ∀ (QQ : State → Prop) (n1 : Nat) (k : Nat), 48 < k + n1 → k ≤ 48 → (∀ (H : Heap) (locs : List Loc), va_P dG vwCl (GW cJ g gA (nI n) (nI ec) (cut0 ns 48) ++ X) H → va_D A (GW cJ g gA (nI n) (nI ec) (cut0 ns 48) ++ X) → va_S A s.heap H locs → ∀ ls : Array Slot, lv_has ls 2 [(0, .ref g), (1, .int (nI 48))] → W p l e ({ frames := 0, cells := 0, slots := 0, locals := 0 } : Room) s m ([.ref g] : List Value).toArray below meth c H locs 0 0 QQ (F0 m 24 ls [])) → ∀ (H : Heap) (locs : List Loc), va_P dG vwCl (GW cJ g gA (nI n) (nI ec) (cut0 ns k) ++ X) H → va_D A (GW cJ g gA (nI n) (nI ec) (cut0 ns k) ++ X) → va_S A s.heap H locs → ∀ ls : Array Slot, lv_has ls 2 [(0, .ref g), (1, .int (nI k))] → W p l e ({ frames := 0, cells := 0, slots := 0, locals := 0 } : Room) s m ([.ref g] : List Value).toArray below meth c H locs 0 0 QQ (F0 m 2 ls []) := by
    intro QQ n1
    induction n1 with
    | zero => intro k h1 h2; exact absurd h1 (by omega)
    | succ n1 ih =>
      intro k h1 h2 kx H locs hP hD hS ls hl
      refine lv_iload_n hx hb dX0_cutAll_2 rfl (lv_at hl 1 rfl) ?_
      refine lv_aload_n hx hb dX0_cutAll_3 rfl (lv_at hl 0 rfl) ?_
      refine va_get (D := dG) (ci := 0) (v := .ref gA) (C := RX0) (T := TX0) (N := 3) hx hb hts hiX0 hown hK.1 hP 0 rfl rfl 0 (by decide) hf9 (fun _ h9 => h9) rfl dX0_cutAll_4 ?_
      refine va_alen hx hb hK.1 hP 1 1 rfl rfl (v := nI 48) rfl dX0_cutAll_7 ?_
      refine x_icmp_geN (i := k) (j := 48) (tgt := 24) hx hb (by omega) (by omega) dX0_cutAll_8 (by decide) (fun c8 => ?_) (fun c8 => ?_)
      · skip
        have ek : k = 48 := by omega
        subst ek
        exact kx  H locs hP hD hS ls (lv_sub hl [0, 1] rfl)
      · skip
        refine lv_aload_n hx hb dX0_cutAll_11 rfl (lv_at hl 0 rfl) ?_
        refine va_get (D := dG) (ci := 0) (v := .ref gA) (C := RX0) (T := TX0) (N := 3) hx hb hts hiX0 hown hK.1 hP 0 rfl rfl 0 (by decide) hf9 (fun _ h9 => h9) rfl dX0_cutAll_12 ?_
        refine lv_iload_n hx hb dX0_cutAll_15 rfl (lv_at hl 1 rfl) ?_
        refine lv_lconst (v := 0) hx hb dX0_cutAll_16 rfl ?_
        refine x_last (f := (cut0 ns k)) hx hb hK hP hD hS 1 rfl (by omega) (by decide) dX0_cutAll_17 (fun H locs hP hD hS => ?_)
        have hP : va_P dG vwCl (GW cJ g gA (nI n) (nI ec) (vp_updL (cut0 ns k) k 0) ++ X) H := hP
        have hD : va_D A (GW cJ g gA (nI n) (nI ec) (vp_updL (cut0 ns k) k 0) ++ X) := hD
        refine x_iincN (lv' := [(1, .int (nI (k + 1))), (0, .ref g)]) hx hb dX0_cutAll_18 hl (k := 1) rfl (by decide) rfl (fun ls hl => ?_)
        refine lv_goto (tgt := 2) hx hb dX0_cutAll_21 (by decide) ?_
        rw [cut0_s] at hP hD
        exact ih (k + 1) (by omega) (by omega) kx H locs hP hD hS ls (lv_sub hl [1, 0] rfl)
  refine loop _ 49 0 (by omega) (by omega) (fun  H locs hP hD hS ls hl => ?_) s.heap [] hP hD hS ls (lv_sub hl [1, 0] rfl)
  refine lv_aload_n hx hb dX0_cutAll_24 rfl (lv_at hl 0 rfl) ?_
  refine lv_iconst (v := (nI 0)) hx hb dX0_cutAll_25 (by decide) ?_
  refine va_put (D := dG) (ci := 0) (v := .int (nI 0)) (ty := .int) (C := RX0) (T := TX0) (N := 3) hx hb hts hiX0 tyX0 tyX0_ok nmX0 hown hK.1 hP hD hS 0 rfl rfl 2 (by decide) hf19 (fun _ h9 => h9) rfl (by decide +kernel) rfl rfl (Nat.le_of_ble_eq_true rfl) dX0_cutAll_26 (fun H locs hP hD hS => ?_)
  have hP : va_P dG vwCl (GW cJ g gA (nI n) (nI 0) (cut0 ns 48) ++ X) H := hP
  have hD : va_D A (GW cJ g gA (nI n) (nI 0) (cut0 ns 48) ++ X) := hD
  exact W.vret hx hb hr (fun t ht hW => ⟨⟨(), rfl, trivial, by rw [ht]; exact hP, hD⟩, hS.F ht⟩) hS.2.2 dX0_cutAll_29
end
section
/-! LABELS, as numbers: L v r is the distance of v's entry for the hub of rank r, P v r its parent -/
def up2 {α : Type} (L : Nat → Nat → α) (v r : Nat) (x : α) : Nat → Nat → α := fun v' r' => if v' = v ∧ r' = r then x else L v' r'
def LBd (L : Nat → Nat → Option Nat) (B : Nat) : Prop := ∀ v r d, L v r = some d → d < B
/-- the arrays hold the labels -/
def RepL (L : Nat → Nat → Option Nat) (P : Nat → Nat → Option Nat) (hs : Nat → Int64) (D Pp : Nat → Int32) : Prop :=
  (∀ v r, v < 48 → r < 48 → gb (hs v) r = (L v r).isSome) ∧ (∀ v r d, v < 48 → r < 48 → L v r = some d → D (v * 48 + r) = nI d ∧ Pp (v * 48 + r) = eN (P v r)) ∧ ∀ v k, v < 48 → 48 ≤ k → gb (hs v) k = false
theorem eN_no {o : Option Nat} (h : o.isSome = false) : eN o = -1 := by
  cases o with
  | none => rfl
  | some n => cases h
theorem RepL.d {L P : Nat → Nat → Option Nat} {hs : Nat → Int64} {D Pp : Nat → Int32} (h : RepL L P hs D Pp) {v r : Nat} (hv : v < 48) (hr : r < 48) (q : (L v r).isSome = true) : D (v * 48 + r) = eN (L v r) := by
  obtain ⟨d, e⟩ := Option.isSome_iff_exists.mp q
  rw [(h.2.1 v r d hv hr e).1, e]; rfl
theorem RepL.p {L P : Nat → Nat → Option Nat} {hs : Nat → Int64} {D Pp : Nat → Int32} (h : RepL L P hs D Pp) {v r : Nat} (hv : v < 48) (hr : r < 48) (q : (L v r).isSome = true) : Pp (v * 48 + r) = eN (P v r) := by
  obtain ⟨d, e⟩ := Option.isSome_iff_exists.mp q
  exact (h.2.1 v r d hv hr e).2
theorem RepL.com {L P : Nat → Nat → Option Nat} {hs : Nat → Int64} {D Pp : Nat → Int32} (h : RepL L P hs D Pp) {u v k : Nat} (hu : u < 48) (hv : v < 48) (hk : k < 48) : gb (hs u &&& hs v) k = ((L u k).isSome && (L v k).isSome) := by
  rw [gb_and, h.1 u k hu hk, h.1 v k hv hk]
def lsm (L : Nat → Nat → Option Nat) (u v r : Nat) : Nat := (L u r).getD 0 + (L v r).getD 0
theorem LBd.get {L : Nat → Nat → Option Nat} {B : Nat} (hB : LBd L B) (h0 : 0 < B) (v r : Nat) : (L v r).getD 0 < B := by
  cases e : L v r with
  | none => exact h0
  | some d => exact hB v r d e
theorem lsm_lt {L : Nat → Nat → Option Nat} (hB : LBd L (2 ^ 30)) (u v r : Nat) : lsm L u v r < 2 ^ 31 := by
  have h1 := hB.get (by decide) u r
  have h2 := hB.get (by decide) v r
  unfold lsm
  omega
theorem RepL.sum {L P : Nat → Nat → Option Nat} {hs : Nat → Int64} {D Pp : Nat → Int32} (h : RepL L P hs D Pp) {v r : Nat} (hv : v < 48) (hr : r < 48) (q : (L v r).isSome = true) : D (v * 48 + r) = nI ((L v r).getD 0) := by
  obtain ⟨d, e⟩ := Option.isSome_iff_exists.mp q
  rw [(h.2.1 v r d hv hr e).1, e]; rfl
/-- the least rank, of those below k, whose sum is least -/
def mr (L : Nat → Nat → Option Nat) (u v : Nat) : Nat → Option Nat
  | 0 => none
  | k + 1 => if ((L u k).isSome && (L v k).isSome) = true then (match mr L u v k with
    | none => some k
    | some r => if lsm L u v k < lsm L u v r then some k else some r) else mr L u v k
theorem mr_no {L : Nat → Nat → Option Nat} {u v k : Nat} (h : ((L u k).isSome && (L v k).isSome) = false) : mr L u v (k + 1) = mr L u v k := by
  show (if ((L u k).isSome && (L v k).isSome) = true then _ else _) = _
  rw [h]; rfl
theorem mr_first {L : Nat → Nat → Option Nat} {u v k : Nat} (h : ((L u k).isSome && (L v k).isSome) = true) (hm : mr L u v k = none) : mr L u v (k + 1) = some k := by
  show (if ((L u k).isSome && (L v k).isSome) = true then _ else _) = _
  rw [if_pos h, hm]
theorem mr_less {L : Nat → Nat → Option Nat} {u v k r : Nat} (h : ((L u k).isSome && (L v k).isSome) = true) (hm : mr L u v k = some r) (hl : lsm L u v k < lsm L u v r) : mr L u v (k + 1) = some k := by
  show (if ((L u k).isSome && (L v k).isSome) = true then _ else _) = _
  rw [if_pos h, hm]
  exact if_pos hl
theorem mr_keep {L : Nat → Nat → Option Nat} {u v k r : Nat} (h : ((L u k).isSome && (L v k).isSome) = true) (hm : mr L u v k = some r) (hl : lsm L u v r ≤ lsm L u v k) : mr L u v (k + 1) = some r := by
  show (if ((L u k).isSome && (L v k).isSome) = true then _ else _) = _
  rw [if_pos h, hm]
  exact if_neg (Nat.not_lt.mpr hl)
theorem mr_ok {L : Nat → Nat → Option Nat} {u v : Nat} : ∀ {k r : Nat}, mr L u v k = some r → r < k ∧ (L u r).isSome = true ∧ (L v r).isSome = true := by
  intro k
  induction k with
  | zero => intro r h; cases h
  | succ k ih =>
    intro r h
    cases hc : ((L u k).isSome && (L v k).isSome) with
    | false =>
      rw [mr_no hc] at h
      have := ih h
      exact ⟨by omega, this.2⟩
    | true =>
      have hc2 := Bool.and_eq_true_iff.mp hc
      cases hm : mr L u v k with
      | none =>
        rw [mr_first hc hm] at h
        cases h
        exact ⟨by omega, hc2⟩
      | some q =>
        have hq := ih hm
        rcases Nat.lt_or_ge (lsm L u v k) (lsm L u v q) with g | g
        · rw [mr_less hc hm g] at h
          cases h
          exact ⟨by omega, hc2⟩
        · rw [mr_keep hc hm g] at h
          cases h
          exact ⟨by omega, hq.2⟩
/-- the estimate, of ranks below k -/
def es (L : Nat → Nat → Option Nat) (u v k : Nat) : Option Nat := (mr L u v k).map (lsm L u v)
/-- some rank below k whose sum is at most d -/
def rch (L : Nat → Nat → Option Nat) (h v d : Nat) : Nat → Bool
  | 0 => false
  | k + 1 => rch L h v d k || (((L h k).isSome && (L v k).isSome) && decide (lsm L h v k ≤ d))
theorem rch_no {L : Nat → Nat → Option Nat} {h v d k : Nat} (h0 : rch L h v d k = false) (h1 : ((L h k).isSome && (L v k).isSome) = false) : rch L h v d (k + 1) = false := by
  show (rch L h v d k || _) = false
  rw [h0, h1]; rfl
theorem rch_gt {L : Nat → Nat → Option Nat} {h v d k : Nat} (h0 : rch L h v d k = false) (h1 : d < lsm L h v k) : rch L h v d (k + 1) = false := by
  show (rch L h v d k || _) = false
  rw [h0, decide_eq_false (Nat.not_le.mpr h1)]; simp
theorem rch_yes {L : Nat → Nat → Option Nat} {h v d k : Nat} (h1 : ((L h k).isSome && (L v k).isSome) = true) (h2 : lsm L h v k ≤ d) : rch L h v d (k + 1) = true := by
  show (rch L h v d k || _) = true
  rw [h1, decide_eq_true h2]; simp
theorem rch_mono {L : Nat → Nat → Option Nat} {h v d k : Nat} (h0 : rch L h v d k = true) : ∀ {j : Nat}, k ≤ j → rch L h v d j = true := by
  intro j
  induction j with
  | zero => intro hk; rw [Nat.le_zero.mp hk] at h0; exact h0
  | succ j ih =>
    intro hk
    rcases Nat.lt_or_ge k (j + 1) with g | g
    · show (rch L h v d j || _) = true
      rw [ih (by omega)]; rfl
    · rw [show j + 1 = k by omega]; exact h0
/-- how many entries a label has, and all -/
def lct (L : Nat → Nat → Option Nat) (v : Nat) : Nat := fb_ct (fun k => (L v k).isSome) 48
/-- the way by parents -/
def cl (P : Nat → Nat → Option Nat) (r v : Nat) : Nat → Nat
  | 0 => v
  | i + 1 => (P (cl P r v i) r).getD 0
def Chain (L P : Nat → Nat → Option Nat) (r h v t : Nat) : Prop := cl P r v t = h ∧ ∀ i, i < t → cl P r v i ≠ h ∧ cl P r v i < 48 ∧ (L (cl P r v i) r).isSome = true ∧ ∃ q, P (cl P r v i) r = some q ∧ q < 48
end
section
/-! Labels: what only reads -/
set_option maxHeartbeats 4000000 in
set_option maxRecDepth 100000 in
/-- Labels.rankOf -/
theorem c_rankOf (l : Launch) (dG : va_G) (cI cJ : ClassId) (lb aR aV aH aD aP : Nat) (rk vb : Nat → Int32) (rc : Int32) (hs : Nat → Int64) (D Pp : Nat → Int32) (v : Nat) (hv : v < 48) : Met l yX1_rankOf wsX1_rankOf ({ frames := 1, cells := 0, slots := 0, locals := 20 } : Room) (RPc dG cI cJ [.ref lb, .int (nI v)] (LW cI cJ lb aR aV aH aD aP rk vb rc hs D Pp)) (vp_Si (fun r9 => r9 = (rk v))) 0 0 (fun _ => False) := by
  refine Met.ofW (cc := cX1_rankOf) (maxL := 2) (ret := (some .int)) (by decide) rfl ?_
  intro p e s m args below meth c s₁ B9 hml hv
  obtain ⟨rfl, hP, hK⟩ := hv
  have hx := B9.exec
  have hb := B9.bytes
  have hr := B9.returns
  have hts := atoms_spec (ws := wsX1_rankOf) B9.pre
  have hown : s.vm.findClass RX1 = some m.cls := findClass_of_methodNamed B9.named
  have hlocks := B9.notSynchronized
  have hl := lv_entry ([.ref lb, .int (nI v)]) (n := 2) (Nat.le_of_ble_eq_true rfl)
  rw [lg_entry_eq]
  generalize (lg_sl ([.ref lb, .int (nI v)]) ++ List.replicate (2 - (lg_sl ([.ref lb, .int (nI v)])).length) Slot.unset).toArray = ls at hl ⊢
  have hl : lv_has ls 2 [(0, .ref lb), (1, .int (nI v))] := hl
  have hiX1 : ∀ w ∈ wsX10, w ∈ wsX1_rankOf := by decide +kernel
  have hf9 := hts (.fieldLink RX1 9 "LandmarkLea$Labels" "ranks" "[I") (by decide +kernel)
  refine lv_iload_n hx hb dX1_rankOf_0 rfl (lv_at hl 1 rfl) ?_
  have hPc : va_P dG vwCl [] s.heap := fun k q h => by simp at h
  refine x_ri (va_runSN (As := [.int (nI v)]) (rest := []) ⟨hx, hb, hml, hown, hts⟩ (c_isRow l dG cI cJ v (by omega)) ⟨va_cnB 1 hts gX1_rankOf_X3_isRow_n46 rfl rfl rfl hK.2.2.2.1 (hts (.initialized RX3) (by decide +kernel)) (by decide +kernel) ⟨Nat.le_of_ble_eq_true rfl, Nat.le_of_ble_eq_true rfl⟩, hts (.static yX3_isRow) (by decide +kernel), trivial⟩ (RPc.preS hPc hK) rfl rfl hl.1 rfl (lv_room (Nat.le_of_ble_eq_true rfl)) dX1_rankOf_1 ⟨Nat.zero_le _, Nat.zero_le _⟩).run ?_
  refine x_ifeqB (tgt := 16) hx hb dX1_rankOf_4 (by decide) (fun c4 => ?_) (fun c4 => ?_)
  · skip
    exact absurd hv (of_decide_eq_false c4)
  · skip
    refine lv_aload_n hx hb dX1_rankOf_7 rfl (lv_at hl 0 rfl) ?_
    refine va_get (D := dG) (ci := 1) (v := .ref aR) (C := RX1) (T := TX1) (N := 6) hx hb hts hiX1 hown hK.1 hP 0 rfl rfl 0 (by decide) hf9 (fun _ h9 => h9) rfl dX1_rankOf_8 ?_
    refine lv_iload_n hx hb dX1_rankOf_11 rfl (lv_at hl 1 rfl) ?_
    refine x_iald (f := rk) hx hb hK hP 1 rfl (by omega) (by decide) dX1_rankOf_12 ?_
    refine lv_goto (tgt := 17) hx hb dX1_rankOf_13 (by decide) ?_
    exact W.iret (v := (rk v)) hx hb hr (fun t ht hW => ⟨_, rfl, rfl, ht⟩) (fun _ h => nomatch h) dX1_rankOf_17

set_option maxHeartbeats 4000000 in
set_option maxRecDepth 100000 in
/-- Labels.vertexOf -/
theorem c_vertexOf (l : Launch) (dG : va_G) (cI cJ : ClassId) (lb aR aV aH aD aP : Nat) (rk vb : Nat → Int32) (rc : Int32) (hs : Nat → Int64) (D Pp : Nat → Int32) (v : Nat) (hv : v < 48) : Met l yX1_vertexOf wsX1_vertexOf ({ frames := 1, cells := 0, slots := 0, locals := 20 } : Room) (RPc dG cI cJ [.ref lb, .int (nI v)] (LW cI cJ lb aR aV aH aD aP rk vb rc hs D Pp)) (vp_Si (fun r9 => r9 = (vb v))) 0 0 (fun _ => False) := by
  refine Met.ofW (cc := cX1_vertexOf) (maxL := 2) (ret := (some .int)) (by decide) rfl ?_
  intro p e s m args below meth c s₁ B9 hml hv
  obtain ⟨rfl, hP, hK⟩ := hv
  have hx := B9.exec
  have hb := B9.bytes
  have hr := B9.returns
  have hts := atoms_spec (ws := wsX1_vertexOf) B9.pre
  have hown : s.vm.findClass RX1 = some m.cls := findClass_of_methodNamed B9.named
  have hlocks := B9.notSynchronized
  have hl := lv_entry ([.ref lb, .int (nI v)]) (n := 2) (Nat.le_of_ble_eq_true rfl)
  rw [lg_entry_eq]
  generalize (lg_sl ([.ref lb, .int (nI v)]) ++ List.replicate (2 - (lg_sl ([.ref lb, .int (nI v)])).length) Slot.unset).toArray = ls at hl ⊢
  have hl : lv_has ls 2 [(0, .ref lb), (1, .int (nI v))] := hl
  have hiX1 : ∀ w ∈ wsX10, w ∈ wsX1_vertexOf := by decide +kernel
  have hf15 := hts (.fieldLink RX1 15 "LandmarkLea$Labels" "verticesByRank" "[I") (by decide +kernel)
  refine lv_iload_n hx hb dX1_vertexOf_0 rfl (lv_at hl 1 rfl) ?_
  have hPc : va_P dG vwCl [] s.heap := fun k q h => by simp at h
  refine x_ri (va_runSN (As := [.int (nI v)]) (rest := []) ⟨hx, hb, hml, hown, hts⟩ (c_isRow l dG cI cJ v (by omega)) ⟨va_cnB 1 hts gX1_vertexOf_X3_isRow_n46 rfl rfl rfl hK.2.2.2.1 (hts (.initialized RX3) (by decide +kernel)) (by decide +kernel) ⟨Nat.le_of_ble_eq_true rfl, Nat.le_of_ble_eq_true rfl⟩, hts (.static yX3_isRow) (by decide +kernel), trivial⟩ (RPc.preS hPc hK) rfl rfl hl.1 rfl (lv_room (Nat.le_of_ble_eq_true rfl)) dX1_vertexOf_1 ⟨Nat.zero_le _, Nat.zero_le _⟩).run ?_
  refine x_ifeqB (tgt := 16) hx hb dX1_vertexOf_4 (by decide) (fun c4 => ?_) (fun c4 => ?_)
  · skip
    exact absurd hv (of_decide_eq_false c4)
  · skip
    refine lv_aload_n hx hb dX1_vertexOf_7 rfl (lv_at hl 0 rfl) ?_
    refine va_get (D := dG) (ci := 1) (v := .ref aV) (C := RX1) (T := TX1) (N := 6) hx hb hts hiX1 hown hK.1 hP 0 rfl rfl 1 (by decide) hf15 (fun _ h9 => h9) rfl dX1_vertexOf_8 ?_
    refine lv_iload_n hx hb dX1_vertexOf_11 rfl (lv_at hl 1 rfl) ?_
    refine x_iald (f := vb) hx hb hK hP 2 rfl (by omega) (by decide) dX1_vertexOf_12 ?_
    refine lv_goto (tgt := 17) hx hb dX1_vertexOf_13 (by decide) ?_
    exact W.iret (v := (vb v)) hx hb hr (fun t ht hW => ⟨_, rfl, rfl, ht⟩) (fun _ h => nomatch h) dX1_vertexOf_17

set_option maxHeartbeats 4000000 in
set_option maxRecDepth 100000 in
/-- Labels.vertexOf(NONE) -/
theorem c_vertexOfM (l : Launch) (dG : va_G) (cI cJ : ClassId) (lb aR aV aH aD aP : Nat) (rk vb : Nat → Int32) (rc : Int32) (hs : Nat → Int64) (D Pp : Nat → Int32) : Met l yX1_vertexOf wsX1_vertexOf ({ frames := 1, cells := 0, slots := 0, locals := 20 } : Room) (RPc dG cI cJ [.ref lb, .int (-1)] (LW cI cJ lb aR aV aH aD aP rk vb rc hs D Pp)) (vp_Si (fun r9 => r9 = (-1))) 0 0 (fun _ => False) := by
  refine Met.ofW (cc := cX1_vertexOf) (maxL := 2) (ret := (some .int)) (by decide) rfl ?_
  intro p e s m args below meth c s₁ B9 hml hv
  obtain ⟨rfl, hP, hK⟩ := hv
  have hx := B9.exec
  have hb := B9.bytes
  have hr := B9.returns
  have hts := atoms_spec (ws := wsX1_vertexOf) B9.pre
  have hown : s.vm.findClass RX1 = some m.cls := findClass_of_methodNamed B9.named
  have hlocks := B9.notSynchronized
  have hl := lv_entry ([.ref lb, .int (-1)]) (n := 2) (Nat.le_of_ble_eq_true rfl)
  rw [lg_entry_eq]
  generalize (lg_sl ([.ref lb, .int (-1)]) ++ List.replicate (2 - (lg_sl ([.ref lb, .int (-1)])).length) Slot.unset).toArray = ls at hl ⊢
  have hl : lv_has ls 2 [(0, .ref lb), (1, .int (-1))] := hl
  have hiX1 : ∀ w ∈ wsX10, w ∈ wsX1_vertexOf := by decide +kernel
  have hf15 := hts (.fieldLink RX1 15 "LandmarkLea$Labels" "verticesByRank" "[I") (by decide +kernel)
  refine lv_iload_n hx hb dX1_vertexOf_0 rfl (lv_at hl 1 rfl) ?_
  have hPc : va_P dG vwCl [] s.heap := fun k q h => by simp at h
  refine x_ri (va_runSN (As := [.int (-1)]) (rest := []) ⟨hx, hb, hml, hown, hts⟩ (c_isRowM l dG cI cJ) ⟨va_cnB 1 hts gX1_vertexOf_X3_isRow_n46 rfl rfl rfl hK.2.2.2.1 (hts (.initialized RX3) (by decide +kernel)) (by decide +kernel) ⟨Nat.le_of_ble_eq_true rfl, Nat.le_of_ble_eq_true rfl⟩, hts (.static yX3_isRow) (by decide +kernel), trivial⟩ (RPc.preS hPc hK) rfl rfl hl.1 rfl (lv_room (Nat.le_of_ble_eq_true rfl)) dX1_vertexOf_1 ⟨Nat.zero_le _, Nat.zero_le _⟩).run ?_
  refine x_ifeqB (tgt := 16) hx hb dX1_vertexOf_4 (by decide) (fun h9 => ?_) (fun h9 => absurd h9 (by decide))
  refine lv_iconst (v := (-1)) hx hb dX1_vertexOf_16 (by decide) ?_
  exact W.iret (v := (-1)) hx hb hr (fun t ht hW => ⟨_, rfl, rfl, ht⟩) (fun _ h => nomatch h) dX1_vertexOf_17

set_option maxHeartbeats 4000000 in
set_option maxRecDepth 100000 in
/-- Labels.hasEntry -/
theorem c_hasEntry (l : Launch) (dG : va_G) (cI cJ : ClassId) (lb aR aV aH aD aP : Nat) (rk vb : Nat → Int32) (rc : Int32) (hs : Nat → Int64) (D Pp : Nat → Int32) (L P : Nat → Nat → Option Nat) (hR : RepL L P hs D Pp) (r v : Nat) (hr0 : r < 48) (hv : v < 48) : Met l yX1_hasEntry wsX1_hasEntry ({ frames := 1, cells := 0, slots := 0, locals := 22 } : Room) (RPc dG cI cJ [.ref lb, .int (nI r), .int (nI v)] (LW cI cJ lb aR aV aH aD aP rk vb rc hs D Pp)) (vp_Si (fun r9 => r9 = (bI (L v r).isSome))) 0 0 (fun _ => False) := by
  refine Met.ofW (cc := cX1_hasEntry) (maxL := 3) (ret := (some .boolean)) (by decide) rfl ?_
  intro p e s m args below meth c s₁ B9 hml hv
  obtain ⟨rfl, hP, hK⟩ := hv
  have hx := B9.exec
  have hb := B9.bytes
  have hr := B9.returns
  have hts := atoms_spec (ws := wsX1_hasEntry) B9.pre
  have hown : s.vm.findClass RX1 = some m.cls := findClass_of_methodNamed B9.named
  have hlocks := B9.notSynchronized
  have hl := lv_entry ([.ref lb, .int (nI r), .int (nI v)]) (n := 3) (Nat.le_of_ble_eq_true rfl)
  rw [lg_entry_eq]
  generalize (lg_sl ([.ref lb, .int (nI r), .int (nI v)]) ++ List.replicate (3 - (lg_sl ([.ref lb, .int (nI r), .int (nI v)])).length) Slot.unset).toArray = ls at hl ⊢
  have hl : lv_has ls 3 [(0, .ref lb), (1, .int (nI r)), (2, .int (nI v))] := hl
  have hiX1 : ∀ w ∈ wsX10, w ∈ wsX1_hasEntry := by decide +kernel
  have hf22 := hts (.fieldLink RX1 22 "LandmarkLea$Labels" "hubSets" "[J") (by decide +kernel)
  refine lv_iload_n hx hb dX1_hasEntry_0 rfl (lv_at hl 2 rfl) ?_
  have hPc : va_P dG vwCl [] s.heap := fun k q h => by simp at h
  refine x_ri (va_runSN (As := [.int (nI v)]) (rest := []) ⟨hx, hb, hml, hown, hts⟩ (c_isRow l dG cI cJ v (by omega)) ⟨va_cnB 1 hts gX1_hasEntry_X3_isRow_n46 rfl rfl rfl hK.2.2.2.1 (hts (.initialized RX3) (by decide +kernel)) (by decide +kernel) ⟨Nat.le_of_ble_eq_true rfl, Nat.le_of_ble_eq_true rfl⟩, hts (.static yX3_isRow) (by decide +kernel), trivial⟩ (RPc.preS hPc hK) rfl rfl hl.1 rfl (lv_room (Nat.le_of_ble_eq_true rfl)) dX1_hasEntry_1 ⟨Nat.zero_le _, Nat.zero_le _⟩).run ?_
  refine x_ifeqB (tgt := 31) hx hb dX1_hasEntry_4 (by decide) (fun c4 => ?_) (fun c4 => ?_)
  · skip
    exact absurd hv (of_decide_eq_false c4)
  · skip
    refine lv_iload_n hx hb dX1_hasEntry_7 rfl (lv_at hl 1 rfl) ?_
    have hPc : va_P dG vwCl [] s.heap := fun k q h => by simp at h
    refine x_ri (va_runSN (As := [.int (nI r)]) (rest := []) ⟨hx, hb, hml, hown, hts⟩ (c_isRow l dG cI cJ r (by omega)) ⟨va_cnB 1 hts gX1_hasEntry_X3_isRow_n46 rfl rfl rfl hK.2.2.2.1 (hts (.initialized RX3) (by decide +kernel)) (by decide +kernel) ⟨Nat.le_of_ble_eq_true rfl, Nat.le_of_ble_eq_true rfl⟩, hts (.static yX3_isRow) (by decide +kernel), trivial⟩ (RPc.preS hPc hK) rfl rfl hl.1 rfl (lv_room (Nat.le_of_ble_eq_true rfl)) dX1_hasEntry_8 ⟨Nat.zero_le _, Nat.zero_le _⟩).run ?_
    refine x_ifeqB (tgt := 31) hx hb dX1_hasEntry_11 (by decide) (fun c11 => ?_) (fun c11 => ?_)
    · skip
      exact absurd hr0 (of_decide_eq_false c11)
    · skip
      refine lv_aload_n hx hb dX1_hasEntry_14 rfl (lv_at hl 0 rfl) ?_
      refine va_get (D := dG) (ci := 1) (v := .ref aH) (C := RX1) (T := TX1) (N := 6) hx hb hts hiX1 hown hK.1 hP 0 rfl rfl 3 (by decide) hf22 (fun _ h9 => h9) rfl dX1_hasEntry_15 ?_
      refine lv_iload_n hx hb dX1_hasEntry_18 rfl (lv_at hl 2 rfl) ?_
      refine x_lald (f := hs) hx hb hK hP 3 rfl (by omega) (by decide) dX1_hasEntry_19 ?_
      refine lv_iload_n hx hb dX1_hasEntry_20 rfl (lv_at hl 1 rfl) ?_
      have hPc : va_P dG vwCl [] s.heap := fun k q h => by simp at h
      refine x_ri (va_runSN (As := [.long (hs v), .int (nI r)]) (rest := []) ⟨hx, hb, hml, hown, hts⟩ (c_hasBit l dG cI cJ (hs v) r (by omega)) ⟨va_cnB 2 hts gX1_hasEntry_X3_hasBit_n50 rfl rfl rfl hK.2.2.2.2.1 (hts (.initialized RX3) (by decide +kernel)) (by decide +kernel) ⟨Nat.le_of_ble_eq_true rfl, Nat.le_of_ble_eq_true rfl⟩, hts (.static yX3_hasBit) (by decide +kernel), trivial⟩ (RPc.preS hPc hK) rfl rfl hl.1 rfl (lv_room (Nat.le_of_ble_eq_true rfl)) dX1_hasEntry_21 ⟨Nat.zero_le _, Nat.zero_le _⟩).run ?_
      rw [hR.1 v r hv hr0]
      refine x_ifeqB (tgt := 31) hx hb dX1_hasEntry_24 (by decide) (fun c24 => ?_) (fun c24 => ?_)
      · skip
        refine lv_iconst (v := (nI 0)) hx hb dX1_hasEntry_31 (by decide) ?_
        exact W.zret (v := (nI 0)) (ty := .boolean) hx hb hr (by decide) (fun t ht hW => ⟨_, rfl, (show (nI 0) = (bI (L v r).isSome) from by rw [c24]; rfl), ht⟩) (fun _ h => nomatch h) dX1_hasEntry_32
      · skip
        refine lv_iconst (v := (nI 1)) hx hb dX1_hasEntry_27 (by decide) ?_
        refine lv_goto (tgt := 32) hx hb dX1_hasEntry_28 (by decide) ?_
        exact W.zret (v := (nI 1)) (ty := .boolean) hx hb hr (by decide) (fun t ht hW => ⟨_, rfl, (show (nI 1) = (bI (L v r).isSome) from by rw [c24]; rfl), ht⟩) (fun _ h => nomatch h) dX1_hasEntry_32

set_option maxHeartbeats 4000000 in
set_option maxRecDepth 100000 in
/-- Labels.distanceTo -/
theorem c_distanceTo (l : Launch) (dG : va_G) (cI cJ : ClassId) (lb aR aV aH aD aP : Nat) (rk vb : Nat → Int32) (rc : Int32) (hs : Nat → Int64) (D Pp : Nat → Int32) (L P : Nat → Nat → Option Nat) (hR : RepL L P hs D Pp) (r v : Nat) (hr0 : r < 48) (hv : v < 48) : Met l yX1_distanceTo wsX1_distanceTo ({ frames := 2, cells := 0, slots := 0, locals := 44 } : Room) (RPc dG cI cJ [.ref lb, .int (nI r), .int (nI v)] (LW cI cJ lb aR aV aH aD aP rk vb rc hs D Pp)) (vp_Si (fun r9 => r9 = (eN (L v r)))) 0 0 (fun _ => False) := by
  refine Met.ofW (cc := cX1_distanceTo) (maxL := 3) (ret := (some .int)) (by decide) rfl ?_
  intro p e s m args below meth c s₁ B9 hml hv
  obtain ⟨rfl, hP, hK⟩ := hv
  have hx := B9.exec
  have hb := B9.bytes
  have hr := B9.returns
  have hts := atoms_spec (ws := wsX1_distanceTo) B9.pre
  have hown : s.vm.findClass RX1 = some m.cls := findClass_of_methodNamed B9.named
  have hlocks := B9.notSynchronized
  have hl := lv_entry ([.ref lb, .int (nI r), .int (nI v)]) (n := 3) (Nat.le_of_ble_eq_true rfl)
  rw [lg_entry_eq]
  generalize (lg_sl ([.ref lb, .int (nI r), .int (nI v)]) ++ List.replicate (3 - (lg_sl ([.ref lb, .int (nI r), .int (nI v)])).length) Slot.unset).toArray = ls at hl ⊢
  have hl : lv_has ls 3 [(0, .ref lb), (1, .int (nI r)), (2, .int (nI v))] := hl
  have hiX1 : ∀ w ∈ wsX10, w ∈ wsX1_distanceTo := by decide +kernel
  have hf26 := hts (.fieldLink RX1 26 "LandmarkLea$Labels" "distances" "[I") (by decide +kernel)
  refine lv_aload_n hx hb dX1_distanceTo_0 rfl (lv_at hl 0 rfl) ?_
  refine lv_iload_n hx hb dX1_distanceTo_1 rfl (lv_at hl 1 rfl) ?_
  refine lv_iload_n hx hb dX1_distanceTo_2 rfl (lv_at hl 2 rfl) ?_
  have hPc := hP.sub (ws' := (LW cI cJ lb aR aV aH aD aP rk vb rc hs D Pp)) [0, 1, 2, 3, 4, 5] rfl
  refine x_ri (W.runV (As := [.int (nI r), .int (nI v)]) (rest := []) ⟨hx, hb, hml, hown, hts⟩ (c_hasEntry l dG cI cJ lb aR aV aH aD aP rk vb rc hs D Pp L P hR r v hr0 hv) (cwV 2 hts gX1_distanceTo_X1_hasEntry rfl rfl rfl (by decide +kernel) ⟨Nat.le_of_ble_eq_true rfl, Nat.le_of_ble_eq_true rfl⟩) (RPc.pre hPc hK (va_recv hK.1 hPc (ci := 1) (q0 := 0) rfl rfl)) rfl rfl hl.1 rfl (lv_room (Nat.le_of_ble_eq_true rfl)) dX1_distanceTo_3 ⟨Nat.zero_le _, Nat.zero_le _⟩) ?_
  refine x_ifneB (tgt := 11) hx hb dX1_distanceTo_6 (by decide) (fun c6 => ?_) (fun c6 => ?_)
  · skip
    refine lv_aload_n hx hb dX1_distanceTo_11 rfl (lv_at hl 0 rfl) ?_
    refine va_get (D := dG) (ci := 1) (v := .ref aD) (C := RX1) (T := TX1) (N := 6) hx hb hts hiX1 hown hK.1 hP 0 rfl rfl 4 (by decide) hf26 (fun _ h9 => h9) rfl dX1_distanceTo_12 ?_
    refine lv_iload_n hx hb dX1_distanceTo_15 rfl (lv_at hl 2 rfl) ?_
    refine lv_bipush (v := (nI 48)) hx hb dX1_distanceTo_16 (by decide) ?_
    refine x_mulN (i := v) (j := 48) hx hb dX1_distanceTo_18 ?_
    refine lv_iload_n hx hb dX1_distanceTo_19 rfl (lv_at hl 1 rfl) ?_
    refine x_addN (i := (v * 48)) (j := r) hx hb dX1_distanceTo_20 ?_
    refine x_iald (f := D) hx hb hK hP 4 rfl (by omega) (by decide) dX1_distanceTo_21 ?_
    exact W.iret (v := (D ((v * 48) + r))) hx hb hr (fun t ht hW => ⟨_, rfl, (show (D ((v * 48) + r)) = (eN (L v r)) from hR.d hv hr0 c6), ht⟩) (fun _ h => nomatch h) dX1_distanceTo_22
  · skip
    refine lv_iconst (v := (-1)) hx hb dX1_distanceTo_9 (by decide) ?_
    exact W.iret (v := (-1)) hx hb hr (fun t ht hW => ⟨_, rfl, (show (-1) = (eN (L v r)) from by rw [eN_no c6]), ht⟩) (fun _ h => nomatch h) dX1_distanceTo_10

set_option maxHeartbeats 4000000 in
set_option maxRecDepth 100000 in
/-- Labels.parentTowards -/
theorem c_parentTowards (l : Launch) (dG : va_G) (cI cJ : ClassId) (lb aR aV aH aD aP : Nat) (rk vb : Nat → Int32) (rc : Int32) (hs : Nat → Int64) (D Pp : Nat → Int32) (L P : Nat → Nat → Option Nat) (hR : RepL L P hs D Pp) (r v : Nat) (hr0 : r < 48) (hv : v < 48) (hq : (L v r).isSome = true) : Met l yX1_parentTowards wsX1_parentTowards ({ frames := 2, cells := 0, slots := 0, locals := 44 } : Room) (RPc dG cI cJ [.ref lb, .int (nI r), .int (nI v)] (LW cI cJ lb aR aV aH aD aP rk vb rc hs D Pp)) (vp_Si (fun r9 => r9 = (eN (P v r)))) 0 0 (fun _ => False) := by
  refine Met.ofW (cc := cX1_parentTowards) (maxL := 3) (ret := (some .int)) (by decide) rfl ?_
  intro p e s m args below meth c s₁ B9 hml hv
  obtain ⟨rfl, hP, hK⟩ := hv
  have hx := B9.exec
  have hb := B9.bytes
  have hr := B9.returns
  have hts := atoms_spec (ws := wsX1_parentTowards) B9.pre
  have hown : s.vm.findClass RX1 = some m.cls := findClass_of_methodNamed B9.named
  have hlocks := B9.notSynchronized
  have hl := lv_entry ([.ref lb, .int (nI r), .int (nI v)]) (n := 3) (Nat.le_of_ble_eq_true rfl)
  rw [lg_entry_eq]
  generalize (lg_sl ([.ref lb, .int (nI r), .int (nI v)]) ++ List.replicate (3 - (lg_sl ([.ref lb, .int (nI r), .int (nI v)])).length) Slot.unset).toArray = ls at hl ⊢
  have hl : lv_has ls 3 [(0, .ref lb), (1, .int (nI r)), (2, .int (nI v))] := hl
  have hiX1 : ∀ w ∈ wsX10, w ∈ wsX1_parentTowards := by decide +kernel
  have hf29 := hts (.fieldLink RX1 29 "LandmarkLea$Labels" "parents" "[I") (by decide +kernel)
  refine lv_aload_n hx hb dX1_parentTowards_0 rfl (lv_at hl 0 rfl) ?_
  refine lv_iload_n hx hb dX1_parentTowards_1 rfl (lv_at hl 1 rfl) ?_
  refine lv_iload_n hx hb dX1_parentTowards_2 rfl (lv_at hl 2 rfl) ?_
  have hPc := hP.sub (ws' := (LW cI cJ lb aR aV aH aD aP rk vb rc hs D Pp)) [0, 1, 2, 3, 4, 5] rfl
  refine x_ri (W.runV (As := [.int (nI r), .int (nI v)]) (rest := []) ⟨hx, hb, hml, hown, hts⟩ (c_hasEntry l dG cI cJ lb aR aV aH aD aP rk vb rc hs D Pp L P hR r v hr0 hv) (cwV 2 hts gX1_parentTowards_X1_hasEntry rfl rfl rfl (by decide +kernel) ⟨Nat.le_of_ble_eq_true rfl, Nat.le_of_ble_eq_true rfl⟩) (RPc.pre hPc hK (va_recv hK.1 hPc (ci := 1) (q0 := 0) rfl rfl)) rfl rfl hl.1 rfl (lv_room (Nat.le_of_ble_eq_true rfl)) dX1_parentTowards_3 ⟨Nat.zero_le _, Nat.zero_le _⟩) ?_
  refine x_ifneB (tgt := 11) hx hb dX1_parentTowards_6 (by decide) (fun c6 => ?_) (fun c6 => ?_)
  · skip
    refine lv_aload_n hx hb dX1_parentTowards_11 rfl (lv_at hl 0 rfl) ?_
    refine va_get (D := dG) (ci := 1) (v := .ref aP) (C := RX1) (T := TX1) (N := 6) hx hb hts hiX1 hown hK.1 hP 0 rfl rfl 5 (by decide) hf29 (fun _ h9 => h9) rfl dX1_parentTowards_12 ?_
    refine lv_iload_n hx hb dX1_parentTowards_15 rfl (lv_at hl 2 rfl) ?_
    refine lv_bipush (v := (nI 48)) hx hb dX1_parentTowards_16 (by decide) ?_
    refine x_mulN (i := v) (j := 48) hx hb dX1_parentTowards_18 ?_
    refine lv_iload_n hx hb dX1_parentTowards_19 rfl (lv_at hl 1 rfl) ?_
    refine x_addN (i := (v * 48)) (j := r) hx hb dX1_parentTowards_20 ?_
    refine x_iald (f := Pp) hx hb hK hP 5 rfl (by omega) (by decide) dX1_parentTowards_21 ?_
    exact W.iret (v := (Pp ((v * 48) + r))) hx hb hr (fun t ht hW => ⟨_, rfl, (show (Pp ((v * 48) + r)) = (eN (P v r)) from hR.p hv hr0 hq), ht⟩) (fun _ h => nomatch h) dX1_parentTowards_22
  · skip
    rw [hq] at c6; cases c6

set_option maxHeartbeats 4000000 in
set_option maxRecDepth 100000 in
/-- Labels.commonHubs -/
theorem c_commonHubs (l : Launch) (dG : va_G) (cI cJ : ClassId) (lb aR aV aH aD aP : Nat) (rk vb : Nat → Int32) (rc : Int32) (hs : Nat → Int64) (D Pp : Nat → Int32) (u v : Nat) (hu : u < 48) (hv : v < 48) : Met l yX1_commonHubs wsX1_commonHubs ({ frames := 1, cells := 0, slots := 0, locals := 20 } : Room) (RPc dG cI cJ [.ref lb, .int (nI u), .int (nI v)] (LW cI cJ lb aR aV aH aD aP rk vb rc hs D Pp)) (vp_Sl (fun r9 => r9 = (hs u &&& hs v))) 0 0 (fun _ => False) := by
  refine Met.ofW (cc := cX1_commonHubs) (maxL := 3) (ret := (some .long)) (by decide) rfl ?_
  intro p e s m args below meth c s₁ B9 hml hv
  obtain ⟨rfl, hP, hK⟩ := hv
  have hx := B9.exec
  have hb := B9.bytes
  have hr := B9.returns
  have hts := atoms_spec (ws := wsX1_commonHubs) B9.pre
  have hown : s.vm.findClass RX1 = some m.cls := findClass_of_methodNamed B9.named
  have hlocks := B9.notSynchronized
  have hl := lv_entry ([.ref lb, .int (nI u), .int (nI v)]) (n := 3) (Nat.le_of_ble_eq_true rfl)
  rw [lg_entry_eq]
  generalize (lg_sl ([.ref lb, .int (nI u), .int (nI v)]) ++ List.replicate (3 - (lg_sl ([.ref lb, .int (nI u), .int (nI v)])).length) Slot.unset).toArray = ls at hl ⊢
  have hl : lv_has ls 3 [(0, .ref lb), (1, .int (nI u)), (2, .int (nI v))] := hl
  have hiX1 : ∀ w ∈ wsX10, w ∈ wsX1_commonHubs := by decide +kernel
  have hf22 := hts (.fieldLink RX1 22 "LandmarkLea$Labels" "hubSets" "[J") (by decide +kernel)
  refine lv_iload_n hx hb dX1_commonHubs_0 rfl (lv_at hl 1 rfl) ?_
  have hPc : va_P dG vwCl [] s.heap := fun k q h => by simp at h
  refine x_ri (va_runSN (As := [.int (nI u)]) (rest := []) ⟨hx, hb, hml, hown, hts⟩ (c_isRow l dG cI cJ u (by omega)) ⟨va_cnB 1 hts gX1_commonHubs_X3_isRow_n46 rfl rfl rfl hK.2.2.2.1 (hts (.initialized RX3) (by decide +kernel)) (by decide +kernel) ⟨Nat.le_of_ble_eq_true rfl, Nat.le_of_ble_eq_true rfl⟩, hts (.static yX3_isRow) (by decide +kernel), trivial⟩ (RPc.preS hPc hK) rfl rfl hl.1 rfl (lv_room (Nat.le_of_ble_eq_true rfl)) dX1_commonHubs_1 ⟨Nat.zero_le _, Nat.zero_le _⟩).run ?_
  refine x_ifeqB (tgt := 30) hx hb dX1_commonHubs_4 (by decide) (fun c4 => ?_) (fun c4 => ?_)
  · skip
    exact absurd hu (of_decide_eq_false c4)
  · skip
    refine lv_iload_n hx hb dX1_commonHubs_7 rfl (lv_at hl 2 rfl) ?_
    have hPc : va_P dG vwCl [] s.heap := fun k q h => by simp at h
    refine x_ri (va_runSN (As := [.int (nI v)]) (rest := []) ⟨hx, hb, hml, hown, hts⟩ (c_isRow l dG cI cJ v (by omega)) ⟨va_cnB 1 hts gX1_commonHubs_X3_isRow_n46 rfl rfl rfl hK.2.2.2.1 (hts (.initialized RX3) (by decide +kernel)) (by decide +kernel) ⟨Nat.le_of_ble_eq_true rfl, Nat.le_of_ble_eq_true rfl⟩, hts (.static yX3_isRow) (by decide +kernel), trivial⟩ (RPc.preS hPc hK) rfl rfl hl.1 rfl (lv_room (Nat.le_of_ble_eq_true rfl)) dX1_commonHubs_8 ⟨Nat.zero_le _, Nat.zero_le _⟩).run ?_
    refine x_ifeqB (tgt := 30) hx hb dX1_commonHubs_11 (by decide) (fun c11 => ?_) (fun c11 => ?_)
    · skip
      exact absurd hv (of_decide_eq_false c11)
    · skip
      refine lv_aload_n hx hb dX1_commonHubs_14 rfl (lv_at hl 0 rfl) ?_
      refine va_get (D := dG) (ci := 1) (v := .ref aH) (C := RX1) (T := TX1) (N := 6) hx hb hts hiX1 hown hK.1 hP 0 rfl rfl 3 (by decide) hf22 (fun _ h9 => h9) rfl dX1_commonHubs_15 ?_
      refine lv_iload_n hx hb dX1_commonHubs_18 rfl (lv_at hl 1 rfl) ?_
      refine x_lald (f := hs) hx hb hK hP 3 rfl (by omega) (by decide) dX1_commonHubs_19 ?_
      refine lv_aload_n hx hb dX1_commonHubs_20 rfl (lv_at hl 0 rfl) ?_
      refine va_get (D := dG) (ci := 1) (v := .ref aH) (C := RX1) (T := TX1) (N := 6) hx hb hts hiX1 hown hK.1 hP 0 rfl rfl 3 (by decide) hf22 (fun _ h9 => h9) rfl dX1_commonHubs_21 ?_
      refine lv_iload_n hx hb dX1_commonHubs_24 rfl (lv_at hl 2 rfl) ?_
      refine x_lald (f := hs) hx hb hK hP 3 rfl (by omega) (by decide) dX1_commonHubs_25 ?_
      refine lv_land hx hb dX1_commonHubs_26 ?_
      refine lv_goto (tgt := 31) hx hb dX1_commonHubs_27 (by decide) ?_
      exact W.lret (v := ((hs u) &&& (hs v))) hx hb hr (fun t ht hW => ⟨_, rfl, rfl, ht⟩) (fun _ h => nomatch h) dX1_commonHubs_31

set_option maxHeartbeats 4000000 in
set_option maxRecDepth 100000 in
/-- Labels.sumThrough -/
theorem c_sumThrough (l : Launch) (dG : va_G) (cI cJ : ClassId) (lb aR aV aH aD aP : Nat) (rk vb : Nat → Int32) (rc : Int32) (hs : Nat → Int64) (D Pp : Nat → Int32) (L P : Nat → Nat → Option Nat) (hR : RepL L P hs D Pp) (r u v : Nat) (hr0 : r < 48) (hu : u < 48) (hv : v < 48) (qu : (L u r).isSome = true) (qv : (L v r).isSome = true) : Met l yX1_sumThrough wsX1_sumThrough ({ frames := 1, cells := 0, slots := 0, locals := 20 } : Room) (RPc dG cI cJ [.ref lb, .int (nI r), .int (nI u), .int (nI v)] (LW cI cJ lb aR aV aH aD aP rk vb rc hs D Pp)) (vp_Si (fun r9 => r9 = (nI (lsm L u v r)))) 0 0 (fun _ => False) := by
  refine Met.ofW (cc := cX1_sumThrough) (maxL := 4) (ret := (some .int)) (by decide) rfl ?_
  intro p e s m args below meth c s₁ B9 hml hv
  obtain ⟨rfl, hP, hK⟩ := hv
  have hx := B9.exec
  have hb := B9.bytes
  have hr := B9.returns
  have hts := atoms_spec (ws := wsX1_sumThrough) B9.pre
  have hown : s.vm.findClass RX1 = some m.cls := findClass_of_methodNamed B9.named
  have hlocks := B9.notSynchronized
  have hl := lv_entry ([.ref lb, .int (nI r), .int (nI u), .int (nI v)]) (n := 4) (Nat.le_of_ble_eq_true rfl)
  rw [lg_entry_eq]
  generalize (lg_sl ([.ref lb, .int (nI r), .int (nI u), .int (nI v)]) ++ List.replicate (4 - (lg_sl ([.ref lb, .int (nI r), .int (nI u), .int (nI v)])).length) Slot.unset).toArray = ls at hl ⊢
  have hl : lv_has ls 4 [(0, .ref lb), (1, .int (nI r)), (2, .int (nI u)), (3, .int (nI v))] := hl
  have hiX1 : ∀ w ∈ wsX10, w ∈ wsX1_sumThrough := by decide +kernel
  have hf26 := hts (.fieldLink RX1 26 "LandmarkLea$Labels" "distances" "[I") (by decide +kernel)
  refine lv_iload_n hx hb dX1_sumThrough_0 rfl (lv_at hl 1 rfl) ?_
  have hPc : va_P dG vwCl [] s.heap := fun k q h => by simp at h
  refine x_ri (va_runSN (As := [.int (nI r)]) (rest := []) ⟨hx, hb, hml, hown, hts⟩ (c_isRow l dG cI cJ r (by omega)) ⟨va_cnB 1 hts gX1_sumThrough_X3_isRow_n46 rfl rfl rfl hK.2.2.2.1 (hts (.initialized RX3) (by decide +kernel)) (by decide +kernel) ⟨Nat.le_of_ble_eq_true rfl, Nat.le_of_ble_eq_true rfl⟩, hts (.static yX3_isRow) (by decide +kernel), trivial⟩ (RPc.preS hPc hK) rfl rfl hl.1 rfl (lv_room (Nat.le_of_ble_eq_true rfl)) dX1_sumThrough_1 ⟨Nat.zero_le _, Nat.zero_le _⟩).run ?_
  refine x_ifeqB (tgt := 21) hx hb dX1_sumThrough_4 (by decide) (fun c4 => ?_) (fun c4 => ?_)
  · skip
    exact absurd hr0 (of_decide_eq_false c4)
  · skip
    refine lv_iload_n hx hb dX1_sumThrough_7 rfl (lv_at hl 2 rfl) ?_
    have hPc : va_P dG vwCl [] s.heap := fun k q h => by simp at h
    refine x_ri (va_runSN (As := [.int (nI u)]) (rest := []) ⟨hx, hb, hml, hown, hts⟩ (c_isRow l dG cI cJ u (by omega)) ⟨va_cnB 1 hts gX1_sumThrough_X3_isRow_n46 rfl rfl rfl hK.2.2.2.1 (hts (.initialized RX3) (by decide +kernel)) (by decide +kernel) ⟨Nat.le_of_ble_eq_true rfl, Nat.le_of_ble_eq_true rfl⟩, hts (.static yX3_isRow) (by decide +kernel), trivial⟩ (RPc.preS hPc hK) rfl rfl hl.1 rfl (lv_room (Nat.le_of_ble_eq_true rfl)) dX1_sumThrough_8 ⟨Nat.zero_le _, Nat.zero_le _⟩).run ?_
    refine x_ifeqB (tgt := 21) hx hb dX1_sumThrough_11 (by decide) (fun c11 => ?_) (fun c11 => ?_)
    · skip
      exact absurd hu (of_decide_eq_false c11)
    · skip
      refine lv_iload_n hx hb dX1_sumThrough_14 rfl (lv_at hl 3 rfl) ?_
      have hPc : va_P dG vwCl [] s.heap := fun k q h => by simp at h
      refine x_ri (va_runSN (As := [.int (nI v)]) (rest := []) ⟨hx, hb, hml, hown, hts⟩ (c_isRow l dG cI cJ v (by omega)) ⟨va_cnB 1 hts gX1_sumThrough_X3_isRow_n46 rfl rfl rfl hK.2.2.2.1 (hts (.initialized RX3) (by decide +kernel)) (by decide +kernel) ⟨Nat.le_of_ble_eq_true rfl, Nat.le_of_ble_eq_true rfl⟩, hts (.static yX3_isRow) (by decide +kernel), trivial⟩ (RPc.preS hPc hK) rfl rfl hl.1 rfl (lv_room (Nat.le_of_ble_eq_true rfl)) dX1_sumThrough_15 ⟨Nat.zero_le _, Nat.zero_le _⟩).run ?_
      refine x_ifneB (tgt := 23) hx hb dX1_sumThrough_18 (by decide) (fun c18 => ?_) (fun c18 => ?_)
      · skip
        refine lv_aload_n hx hb dX1_sumThrough_23 rfl (lv_at hl 0 rfl) ?_
        refine va_get (D := dG) (ci := 1) (v := .ref aD) (C := RX1) (T := TX1) (N := 6) hx hb hts hiX1 hown hK.1 hP 0 rfl rfl 4 (by decide) hf26 (fun _ h9 => h9) rfl dX1_sumThrough_24 ?_
        refine lv_iload_n hx hb dX1_sumThrough_27 rfl (lv_at hl 2 rfl) ?_
        refine lv_bipush (v := (nI 48)) hx hb dX1_sumThrough_28 (by decide) ?_
        refine x_mulN (i := u) (j := 48) hx hb dX1_sumThrough_30 ?_
        refine lv_iload_n hx hb dX1_sumThrough_31 rfl (lv_at hl 1 rfl) ?_
        refine x_addN (i := (u * 48)) (j := r) hx hb dX1_sumThrough_32 ?_
        refine x_iald (f := D) hx hb hK hP 4 rfl (by omega) (by decide) dX1_sumThrough_33 ?_
        rw [show D ((u * 48) + r) = (nI ((L u r).getD 0)) from hR.sum hu hr0 qu]
        refine lv_aload_n hx hb dX1_sumThrough_34 rfl (lv_at hl 0 rfl) ?_
        refine va_get (D := dG) (ci := 1) (v := .ref aD) (C := RX1) (T := TX1) (N := 6) hx hb hts hiX1 hown hK.1 hP 0 rfl rfl 4 (by decide) hf26 (fun _ h9 => h9) rfl dX1_sumThrough_35 ?_
        refine lv_iload_n hx hb dX1_sumThrough_38 rfl (lv_at hl 3 rfl) ?_
        refine lv_bipush (v := (nI 48)) hx hb dX1_sumThrough_39 (by decide) ?_
        refine x_mulN (i := v) (j := 48) hx hb dX1_sumThrough_41 ?_
        refine lv_iload_n hx hb dX1_sumThrough_42 rfl (lv_at hl 1 rfl) ?_
        refine x_addN (i := (v * 48)) (j := r) hx hb dX1_sumThrough_43 ?_
        refine x_iald (f := D) hx hb hK hP 4 rfl (by omega) (by decide) dX1_sumThrough_44 ?_
        rw [show D ((v * 48) + r) = (nI ((L v r).getD 0)) from hR.sum hv hr0 qv]
        refine x_addN (i := ((L u r).getD 0)) (j := ((L v r).getD 0)) hx hb dX1_sumThrough_45 ?_
        exact W.iret (v := (nI (((L u r).getD 0) + ((L v r).getD 0)))) hx hb hr (fun t ht hW => ⟨_, rfl, rfl, ht⟩) (fun _ h => nomatch h) dX1_sumThrough_46
      · skip
        exact absurd hv (of_decide_eq_false c18)

set_option maxHeartbeats 4000000 in
set_option maxRecDepth 100000 in
/-- Labels.meetingRank -/
theorem c_meetingRank (l : Launch) (dG : va_G) (cI cJ : ClassId) (lb aR aV aH aD aP : Nat) (rk vb : Nat → Int32) (rc : Int32) (hs : Nat → Int64) (D Pp : Nat → Int32) (L P : Nat → Nat → Option Nat) (hR : RepL L P hs D Pp) (hB : LBd L (2 ^ 30)) (u v : Nat) (hu : u < 48) (hv : v < 48) : Met l yX1_meetingRank wsX1_meetingRank ({ frames := 2, cells := 0, slots := 0, locals := 43 } : Room) (RPc dG cI cJ [.ref lb, .int (nI u), .int (nI v)] (LW cI cJ lb aR aV aH aD aP rk vb rc hs D Pp)) (vp_Si (fun r9 => r9 = (eN (mr L u v 48)))) 0 0 (fun _ => False) := by
  refine Met.ofW (cc := cX1_meetingRank) (maxL := 7) (ret := (some .int)) (by decide) rfl ?_
  intro p e s m args below meth c s₁ B9 hml hv
  obtain ⟨rfl, hP, hK⟩ := hv
  have hx := B9.exec
  have hb := B9.bytes
  have hr := B9.returns
  have hts := atoms_spec (ws := wsX1_meetingRank) B9.pre
  have hown : s.vm.findClass RX1 = some m.cls := findClass_of_methodNamed B9.named
  have hlocks := B9.notSynchronized
  have hl := lv_entry ([.ref lb, .int (nI u), .int (nI v)]) (n := 7) (Nat.le_of_ble_eq_true rfl)
  rw [lg_entry_eq]
  generalize (lg_sl ([.ref lb, .int (nI u), .int (nI v)]) ++ List.replicate (7 - (lg_sl ([.ref lb, .int (nI u), .int (nI v)])).length) Slot.unset).toArray = ls at hl ⊢
  have hl : lv_has ls 7 [(0, .ref lb), (1, .int (nI u)), (2, .int (nI v))] := hl
  refine lv_aload_n hx hb dX1_meetingRank_0 rfl (lv_at hl 0 rfl) ?_
  refine lv_iload_n hx hb dX1_meetingRank_1 rfl (lv_at hl 1 rfl) ?_
  refine lv_iload_n hx hb dX1_meetingRank_2 rfl (lv_at hl 2 rfl) ?_
  have hPc := hP.sub (ws' := (LW cI cJ lb aR aV aH aD aP rk vb rc hs D Pp)) [0, 1, 2, 3, 4, 5] rfl
  refine x_rl (W.runV (As := [.int (nI u), .int (nI v)]) (rest := []) ⟨hx, hb, hml, hown, hts⟩ (c_commonHubs l dG cI cJ lb aR aV aH aD aP rk vb rc hs D Pp u v hu hv) (cwV 2 hts gX1_meetingRank_X1_commonHubs rfl rfl rfl (by decide +kernel) ⟨Nat.le_of_ble_eq_true rfl, Nat.le_of_ble_eq_true rfl⟩) (RPc.pre hPc hK (va_recv hK.1 hPc (ci := 1) (q0 := 0) rfl rfl)) rfl rfl hl.1 rfl (lv_room (Nat.le_of_ble_eq_true rfl)) dX1_meetingRank_3 ⟨Nat.zero_le _, Nat.zero_le _⟩) ?_
  refine lv_lstore_n (lv' := [(3, .long (hs u &&& hs v)), (0, .ref lb), (1, .int (nI u)), (2, .int (nI v))]) hx hb dX1_meetingRank_6 rfl hl (by decide) rfl (fun ls hl => ?_)
  refine lv_iconst (v := (-1)) hx hb dX1_meetingRank_7 (by decide) ?_
  refine lv_istore (lv' := [(5, .int (-1)), (3, .long (hs u &&& hs v)), (0, .ref lb), (1, .int (nI u)), (2, .int (nI v))]) hx hb dX1_meetingRank_8 hl (by decide) rfl (fun ls hl => ?_)
  refine lv_iconst (v := (nI 0)) hx hb dX1_meetingRank_10 (by decide) ?_
  refine lv_istore (lv' := [(6, .int (nI 0)), (5, .int (-1)), (3, .long (hs u &&& hs v)), (0, .ref lb), (1, .int (nI u)), (2, .int (nI v))]) hx hb dX1_meetingRank_11 hl (by decide) rfl (fun ls hl => ?_)
  have loop : ∀ (QQ : State → Prop) (n1 : Nat) (k : Nat), 48 < k + n1 → k ≤ 48 → (∀ ls : Array Slot, lv_has ls 7 [(0, .ref lb), (1, .int (nI u)), (2, .int (nI v)), (3, .long (hs u &&& hs v)), (5, .int (eN (mr L u v 48))), (6, .int (nI 48))] → W p l e ({ frames := 2, cells := 0, slots := 0, locals := 43 } : Room) s m ([.ref lb, .int (nI u), .int (nI v)] : List Value).toArray below meth c s.heap [] 0 0 QQ (F0 m 64 ls [])) → ∀ ls : Array Slot, lv_has ls 7 [(0, .ref lb), (1, .int (nI u)), (2, .int (nI v)), (3, .long (hs u &&& hs v)), (5, .int (eN (mr L u v k))), (6, .int (nI k))] → W p l e ({ frames := 2, cells := 0, slots := 0, locals := 43 } : Room) s m ([.ref lb, .int (nI u), .int (nI v)] : List Value).toArray below meth c s.heap [] 0 0 QQ (F0 m 13 ls []) := by
    intro QQ n1
    induction n1 with
    | zero => intro k h1 h2; exact absurd h1 (by omega)
    | succ n1 ih =>
      intro k h1 h2 kx ls hl
      refine lv_iload hx hb dX1_meetingRank_13 (lv_at hl 5 rfl) ?_
      refine lv_bipush (v := (nI 48)) hx hb dX1_meetingRank_15 (by decide) ?_
      refine x_icmp_geN (i := k) (j := 48) (tgt := 64) hx hb (by omega) (by omega) dX1_meetingRank_17 (by decide) (fun c17 => ?_) (fun c17 => ?_)
      · skip
        have ek : k = 48 := by omega
        subst ek
        exact kx  ls (lv_sub hl [0, 1, 2, 3, 4, 5] rfl)
      · skip
        refine lv_lload_n hx hb dX1_meetingRank_20 rfl (lv_at hl 3 rfl) ?_
        refine lv_iload hx hb dX1_meetingRank_21 (lv_at hl 5 rfl) ?_
        have hPc : va_P dG vwCl [] s.heap := fun k q h => by simp at h
        refine x_ri (va_runSN (As := [.long (hs u &&& hs v), .int (nI k)]) (rest := []) ⟨hx, hb, hml, hown, hts⟩ (c_hasBit l dG cI cJ (hs u &&& hs v) k (by omega)) ⟨va_cnB 2 hts gX1_meetingRank_X3_hasBit_n50 rfl rfl rfl hK.2.2.2.2.1 (hts (.initialized RX3) (by decide +kernel)) (by decide +kernel) ⟨Nat.le_of_ble_eq_true rfl, Nat.le_of_ble_eq_true rfl⟩, hts (.static yX3_hasBit) (by decide +kernel), trivial⟩ (RPc.preS hPc hK) rfl rfl hl.1 rfl (lv_room (Nat.le_of_ble_eq_true rfl)) dX1_meetingRank_23 ⟨Nat.zero_le _, Nat.zero_le _⟩).run ?_
        rw [hR.com hu hv (by omega)]
        refine x_ifeqB (tgt := 58) hx hb dX1_meetingRank_26 (by decide) (fun c26 => ?_) (fun c26 => ?_)
        · skip
          refine x_iincN (lv' := [(6, .int (nI (k + 1))), (0, .ref lb), (1, .int (nI u)), (2, .int (nI v)), (3, .long (hs u &&& hs v)), (5, .int (eN (mr L u v k)))]) hx hb dX1_meetingRank_58 hl (k := 5) rfl (by decide) rfl (fun ls hl => ?_)
          refine lv_goto (tgt := 13) hx hb dX1_meetingRank_61 (by decide) ?_
          have hl : lv_has ls 7 [(6, .int (nI (k + 1))), (0, .ref lb), (1, .int (nI u)), (2, .int (nI v)), (3, .long (hs u &&& hs v)), (5, .int (eN (mr L u v (k + 1))))] := by rw [mr_no c26]; exact hl
          exact ih (k + 1) (by omega) (by omega) kx ls (lv_sub hl [1, 2, 3, 4, 5, 0] rfl)
        · skip
          have hc := Bool.and_eq_true_iff.mp c26
          rcases hm : mr L u v k with _ | r
          · skip
            have hl : lv_has ls 7 [(0, .ref lb), (1, .int (nI u)), (2, .int (nI v)), (3, .long (hs u &&& hs v)), (5, .int (-1)), (6, .int (nI k))] := by rw [hm] at hl; exact hl
            refine lv_iload hx hb dX1_meetingRank_29 (lv_at hl 4 rfl) ?_
            refine lv_iconst (v := (-1)) hx hb dX1_meetingRank_31 (by decide) ?_
            refine x_eqM_M (tgt := 54) hx hb dX1_meetingRank_32 (by decide) ?_
            refine lv_iload hx hb dX1_meetingRank_54 (lv_at hl 5 rfl) ?_
            refine lv_istore (lv' := [(5, .int (nI k)), (0, .ref lb), (1, .int (nI u)), (2, .int (nI v)), (3, .long (hs u &&& hs v)), (6, .int (nI k))]) hx hb dX1_meetingRank_56 hl (by decide) rfl (fun ls hl => ?_)
            refine x_iincN (lv' := [(6, .int (nI (k + 1))), (5, .int (nI k)), (0, .ref lb), (1, .int (nI u)), (2, .int (nI v)), (3, .long (hs u &&& hs v))]) hx hb dX1_meetingRank_58 hl (k := 5) rfl (by decide) rfl (fun ls hl => ?_)
            refine lv_goto (tgt := 13) hx hb dX1_meetingRank_61 (by decide) ?_
            have hl : lv_has ls 7 [(6, .int (nI (k + 1))), (5, .int (eN (mr L u v (k + 1)))), (0, .ref lb), (1, .int (nI u)), (2, .int (nI v)), (3, .long (hs u &&& hs v))] := by rw [mr_first c26 hm]; exact hl
            exact ih (k + 1) (by omega) (by omega) kx ls (lv_sub hl [2, 3, 4, 5, 1, 0] rfl)
          · skip
            have hl : lv_has ls 7 [(0, .ref lb), (1, .int (nI u)), (2, .int (nI v)), (3, .long (hs u &&& hs v)), (5, .int (nI r)), (6, .int (nI k))] := by rw [hm] at hl; exact hl
            have ho := mr_ok hm
            refine lv_iload hx hb dX1_meetingRank_29 (lv_at hl 4 rfl) ?_
            refine lv_iconst (v := (-1)) hx hb dX1_meetingRank_31 (by decide) ?_
            refine x_eqM_N (tgt := 54) hx hb (by omega) dX1_meetingRank_32 (by decide) ?_
            refine lv_aload_n hx hb dX1_meetingRank_35 rfl (lv_at hl 0 rfl) ?_
            refine lv_iload hx hb dX1_meetingRank_36 (lv_at hl 5 rfl) ?_
            refine lv_iload_n hx hb dX1_meetingRank_38 rfl (lv_at hl 1 rfl) ?_
            refine lv_iload_n hx hb dX1_meetingRank_39 rfl (lv_at hl 2 rfl) ?_
            have hPc := hP.sub (ws' := (LW cI cJ lb aR aV aH aD aP rk vb rc hs D Pp)) [0, 1, 2, 3, 4, 5] rfl
            refine x_ri (W.runV (As := [.int (nI k), .int (nI u), .int (nI v)]) (rest := []) ⟨hx, hb, hml, hown, hts⟩ (c_sumThrough l dG cI cJ lb aR aV aH aD aP rk vb rc hs D Pp L P hR k u v (by omega) hu hv hc.1 hc.2) (cwV 3 hts gX1_meetingRank_X1_sumThrough rfl rfl rfl (by decide +kernel) ⟨Nat.le_of_ble_eq_true rfl, Nat.le_of_ble_eq_true rfl⟩) (RPc.pre hPc hK (va_recv hK.1 hPc (ci := 1) (q0 := 0) rfl rfl)) rfl rfl hl.1 rfl (lv_room (Nat.le_of_ble_eq_true rfl)) dX1_meetingRank_40 ⟨Nat.zero_le _, Nat.zero_le _⟩) ?_
            refine lv_aload_n hx hb dX1_meetingRank_43 rfl (lv_at hl 0 rfl) ?_
            refine lv_iload hx hb dX1_meetingRank_44 (lv_at hl 4 rfl) ?_
            refine lv_iload_n hx hb dX1_meetingRank_46 rfl (lv_at hl 1 rfl) ?_
            refine lv_iload_n hx hb dX1_meetingRank_47 rfl (lv_at hl 2 rfl) ?_
            have hPc := hP.sub (ws' := (LW cI cJ lb aR aV aH aD aP rk vb rc hs D Pp)) [0, 1, 2, 3, 4, 5] rfl
            refine x_ri (W.runV (As := [.int (nI r), .int (nI u), .int (nI v)]) (rest := [.int (nI (lsm L u v k))]) ⟨hx, hb, hml, hown, hts⟩ (c_sumThrough l dG cI cJ lb aR aV aH aD aP rk vb rc hs D Pp L P hR r u v (by omega) hu hv ho.2.1 ho.2.2) (cwV 3 hts gX1_meetingRank_X1_sumThrough rfl rfl rfl (by decide +kernel) ⟨Nat.le_of_ble_eq_true rfl, Nat.le_of_ble_eq_true rfl⟩) (RPc.pre hPc hK (va_recv hK.1 hPc (ci := 1) (q0 := 0) rfl rfl)) rfl rfl hl.1 rfl (lv_room (Nat.le_of_ble_eq_true rfl)) dX1_meetingRank_48 ⟨Nat.zero_le _, Nat.zero_le _⟩) ?_
            refine x_icmp_geN (i := (lsm L u v k)) (j := (lsm L u v r)) (tgt := 58) hx hb (lsm_lt hB u v k) (lsm_lt hB u v r) dX1_meetingRank_51 (by decide) (fun c51 => ?_) (fun c51 => ?_)
            · skip
              refine x_iincN (lv' := [(6, .int (nI (k + 1))), (0, .ref lb), (1, .int (nI u)), (2, .int (nI v)), (3, .long (hs u &&& hs v)), (5, .int (nI r))]) hx hb dX1_meetingRank_58 hl (k := 5) rfl (by decide) rfl (fun ls hl => ?_)
              refine lv_goto (tgt := 13) hx hb dX1_meetingRank_61 (by decide) ?_
              have hl : lv_has ls 7 [(6, .int (nI (k + 1))), (0, .ref lb), (1, .int (nI u)), (2, .int (nI v)), (3, .long (hs u &&& hs v)), (5, .int (eN (mr L u v (k + 1))))] := by rw [mr_keep c26 hm c51]; exact hl
              exact ih (k + 1) (by omega) (by omega) kx ls (lv_sub hl [1, 2, 3, 4, 5, 0] rfl)
            · skip
              refine lv_iload hx hb dX1_meetingRank_54 (lv_at hl 5 rfl) ?_
              refine lv_istore (lv' := [(5, .int (nI k)), (0, .ref lb), (1, .int (nI u)), (2, .int (nI v)), (3, .long (hs u &&& hs v)), (6, .int (nI k))]) hx hb dX1_meetingRank_56 hl (by decide) rfl (fun ls hl => ?_)
              refine x_iincN (lv' := [(6, .int (nI (k + 1))), (5, .int (nI k)), (0, .ref lb), (1, .int (nI u)), (2, .int (nI v)), (3, .long (hs u &&& hs v))]) hx hb dX1_meetingRank_58 hl (k := 5) rfl (by decide) rfl (fun ls hl => ?_)
              refine lv_goto (tgt := 13) hx hb dX1_meetingRank_61 (by decide) ?_
              have hl : lv_has ls 7 [(6, .int (nI (k + 1))), (5, .int (eN (mr L u v (k + 1)))), (0, .ref lb), (1, .int (nI u)), (2, .int (nI v)), (3, .long (hs u &&& hs v))] := by rw [mr_less c26 hm c51]; exact hl
              exact ih (k + 1) (by omega) (by omega) kx ls (lv_sub hl [2, 3, 4, 5, 1, 0] rfl)
  refine loop _ 49 0 (by omega) (by omega) (fun  ls hl => ?_) ls (lv_sub hl [3, 4, 5, 2, 1, 0] rfl)
  refine lv_iload hx hb dX1_meetingRank_64 (lv_at hl 4 rfl) ?_
  exact W.iret (v := (eN (mr L u v 48))) hx hb hr (fun t ht hW => ⟨_, rfl, rfl, ht⟩) (fun _ h => nomatch h) dX1_meetingRank_66

set_option maxHeartbeats 4000000 in
set_option maxRecDepth 100000 in
/-- Labels.estimate -/
theorem c_estimate (l : Launch) (dG : va_G) (cI cJ : ClassId) (lb aR aV aH aD aP : Nat) (rk vb : Nat → Int32) (rc : Int32) (hs : Nat → Int64) (D Pp : Nat → Int32) (L P : Nat → Nat → Option Nat) (hR : RepL L P hs D Pp) (hB : LBd L (2 ^ 30)) (u v : Nat) (hu : u < 48) (hv : v < 48) : Met l yX1_estimate wsX1_estimate ({ frames := 3, cells := 0, slots := 0, locals := 69 } : Room) (RPc dG cI cJ [.ref lb, .int (nI u), .int (nI v)] (LW cI cJ lb aR aV aH aD aP rk vb rc hs D Pp)) (vp_Si (fun r9 => r9 = (eN (es L u v 48)))) 0 0 (fun _ => False) := by
  refine Met.ofW (cc := cX1_estimate) (maxL := 4) (ret := (some .int)) (by decide) rfl ?_
  intro p e s m args below meth c s₁ B9 hml hv
  obtain ⟨rfl, hP, hK⟩ := hv
  have hx := B9.exec
  have hb := B9.bytes
  have hr := B9.returns
  have hts := atoms_spec (ws := wsX1_estimate) B9.pre
  have hown : s.vm.findClass RX1 = some m.cls := findClass_of_methodNamed B9.named
  have hlocks := B9.notSynchronized
  have hl := lv_entry ([.ref lb, .int (nI u), .int (nI v)]) (n := 4) (Nat.le_of_ble_eq_true rfl)
  rw [lg_entry_eq]
  generalize (lg_sl ([.ref lb, .int (nI u), .int (nI v)]) ++ List.replicate (4 - (lg_sl ([.ref lb, .int (nI u), .int (nI v)])).length) Slot.unset).toArray = ls at hl ⊢
  have hl : lv_has ls 4 [(0, .ref lb), (1, .int (nI u)), (2, .int (nI v))] := hl
  refine lv_aload_n hx hb dX1_estimate_0 rfl (lv_at hl 0 rfl) ?_
  refine lv_iload_n hx hb dX1_estimate_1 rfl (lv_at hl 1 rfl) ?_
  refine lv_iload_n hx hb dX1_estimate_2 rfl (lv_at hl 2 rfl) ?_
  have hPc := hP.sub (ws' := (LW cI cJ lb aR aV aH aD aP rk vb rc hs D Pp)) [0, 1, 2, 3, 4, 5] rfl
  refine x_ri (W.runV (As := [.int (nI u), .int (nI v)]) (rest := []) ⟨hx, hb, hml, hown, hts⟩ (c_meetingRank l dG cI cJ lb aR aV aH aD aP rk vb rc hs D Pp L P hR hB u v hu hv) (cwV 2 hts gX1_estimate_X1_meetingRank rfl rfl rfl (by decide +kernel) ⟨Nat.le_of_ble_eq_true rfl, Nat.le_of_ble_eq_true rfl⟩) (RPc.pre hPc hK (va_recv hK.1 hPc (ci := 1) (q0 := 0) rfl rfl)) rfl rfl hl.1 rfl (lv_room (Nat.le_of_ble_eq_true rfl)) dX1_estimate_3 ⟨Nat.zero_le _, Nat.zero_le _⟩) ?_
  refine lv_istore_n (lv' := [(3, .int (eN (mr L u v 48))), (0, .ref lb), (1, .int (nI u)), (2, .int (nI v))]) hx hb dX1_estimate_6 rfl hl (by decide) rfl (fun ls hl => ?_)
  rcases hm : mr L u v 48 with _ | r
  · skip
    have hl : lv_has ls 4 [(3, .int (-1)), (0, .ref lb), (1, .int (nI u)), (2, .int (nI v))] := by rw [hm] at hl; exact hl
    refine lv_iload_n hx hb dX1_estimate_7 rfl (lv_at hl 0 rfl) ?_
    refine lv_iconst (v := (-1)) hx hb dX1_estimate_8 (by decide) ?_
    refine x_neM_M (tgt := 16) hx hb dX1_estimate_9 (by decide) ?_
    refine lv_iconst (v := (-1)) hx hb dX1_estimate_12 (by decide) ?_
    refine lv_goto (tgt := 23) hx hb dX1_estimate_13 (by decide) ?_
    exact W.iret (v := (-1)) hx hb hr (fun t ht hW => ⟨_, rfl, (show (-1) = (eN (es L u v 48)) from by rw [es, hm]; rfl), ht⟩) (fun _ h => nomatch h) dX1_estimate_23
  · skip
    have hl : lv_has ls 4 [(3, .int (nI r)), (0, .ref lb), (1, .int (nI u)), (2, .int (nI v))] := by rw [hm] at hl; exact hl
    have ho := mr_ok hm
    refine lv_iload_n hx hb dX1_estimate_7 rfl (lv_at hl 0 rfl) ?_
    refine lv_iconst (v := (-1)) hx hb dX1_estimate_8 (by decide) ?_
    refine x_neM_N (tgt := 16) hx hb (by omega) dX1_estimate_9 (by decide) ?_
    refine lv_aload_n hx hb dX1_estimate_16 rfl (lv_at hl 1 rfl) ?_
    refine lv_iload_n hx hb dX1_estimate_17 rfl (lv_at hl 0 rfl) ?_
    refine lv_iload_n hx hb dX1_estimate_18 rfl (lv_at hl 2 rfl) ?_
    refine lv_iload_n hx hb dX1_estimate_19 rfl (lv_at hl 3 rfl) ?_
    have hPc := hP.sub (ws' := (LW cI cJ lb aR aV aH aD aP rk vb rc hs D Pp)) [0, 1, 2, 3, 4, 5] rfl
    refine x_ri (W.runV (As := [.int (nI r), .int (nI u), .int (nI v)]) (rest := []) ⟨hx, hb, hml, hown, hts⟩ (c_sumThrough l dG cI cJ lb aR aV aH aD aP rk vb rc hs D Pp L P hR r u v (by omega) hu hv ho.2.1 ho.2.2) (cwV 3 hts gX1_estimate_X1_sumThrough rfl rfl rfl (by decide +kernel) ⟨Nat.le_of_ble_eq_true rfl, Nat.le_of_ble_eq_true rfl⟩) (RPc.pre hPc hK (va_recv hK.1 hPc (ci := 1) (q0 := 0) rfl rfl)) rfl rfl hl.1 rfl (lv_room (Nat.le_of_ble_eq_true rfl)) dX1_estimate_20 ⟨Nat.zero_le _, Nat.zero_le _⟩) ?_
    exact W.iret (v := (nI (lsm L u v r))) hx hb hr (fun t ht hW => ⟨_, rfl, (show (nI (lsm L u v r)) = (eN (es L u v 48)) from by rw [es, hm]; rfl), ht⟩) (fun _ h => nomatch h) dX1_estimate_23

set_option maxHeartbeats 4000000 in
set_option maxRecDepth 100000 in
/-- Labels.reaches -/
theorem c_reaches (l : Launch) (dG : va_G) (cI cJ : ClassId) (lb aR aV aH aD aP : Nat) (rk vb : Nat → Int32) (rc : Int32) (hs : Nat → Int64) (D Pp : Nat → Int32) (L P : Nat → Nat → Option Nat) (hR : RepL L P hs D Pp) (hB : LBd L (2 ^ 30)) (r v d h : Nat) (hr0 : r < 48) (hv : v < 48) (hd : d < 2 ^ 31) (hh : h < 48) (eh : vb r = nI h) : Met l yX1_reaches wsX1_reaches ({ frames := 2, cells := 0, slots := 0, locals := 43 } : Room) (RPc dG cI cJ [.ref lb, .int (nI r), .int (nI v), .int (nI d)] (LW cI cJ lb aR aV aH aD aP rk vb rc hs D Pp)) (vp_Si (fun r9 => r9 = (bI (rch L h v d (r + 1))))) 0 0 (fun _ => False) := by
  refine Met.ofW (cc := cX1_reaches) (maxL := 8) (ret := (some .boolean)) (by decide) rfl ?_
  intro p e s m args below meth c s₁ B9 hml hv
  obtain ⟨rfl, hP, hK⟩ := hv
  have hx := B9.exec
  have hb := B9.bytes
  have hr := B9.returns
  have hts := atoms_spec (ws := wsX1_reaches) B9.pre
  have hown : s.vm.findClass RX1 = some m.cls := findClass_of_methodNamed B9.named
  have hlocks := B9.notSynchronized
  have hl := lv_entry ([.ref lb, .int (nI r), .int (nI v), .int (nI d)]) (n := 8) (Nat.le_of_ble_eq_true rfl)
  rw [lg_entry_eq]
  generalize (lg_sl ([.ref lb, .int (nI r), .int (nI v), .int (nI d)]) ++ List.replicate (8 - (lg_sl ([.ref lb, .int (nI r), .int (nI v), .int (nI d)])).length) Slot.unset).toArray = ls at hl ⊢
  have hl : lv_has ls 8 [(0, .ref lb), (1, .int (nI r)), (2, .int (nI v)), (3, .int (nI d))] := hl
  refine lv_aload_n hx hb dX1_reaches_0 rfl (lv_at hl 0 rfl) ?_
  refine lv_iload_n hx hb dX1_reaches_1 rfl (lv_at hl 1 rfl) ?_
  have hPc := hP.sub (ws' := (LW cI cJ lb aR aV aH aD aP rk vb rc hs D Pp)) [0, 1, 2, 3, 4, 5] rfl
  refine x_ri (W.runV (As := [.int (nI r)]) (rest := []) ⟨hx, hb, hml, hown, hts⟩ (c_vertexOf l dG cI cJ lb aR aV aH aD aP rk vb rc hs D Pp r hr0) (cwV 1 hts gX1_reaches_X1_vertexOf rfl rfl rfl (by decide +kernel) ⟨Nat.le_of_ble_eq_true rfl, Nat.le_of_ble_eq_true rfl⟩) (RPc.pre hPc hK (va_recv hK.1 hPc (ci := 1) (q0 := 0) rfl rfl)) rfl rfl hl.1 rfl (lv_room (Nat.le_of_ble_eq_true rfl)) dX1_reaches_2 ⟨Nat.zero_le _, Nat.zero_le _⟩) ?_
  rw [eh]
  refine lv_istore (lv' := [(4, .int (nI h)), (0, .ref lb), (1, .int (nI r)), (2, .int (nI v)), (3, .int (nI d))]) hx hb dX1_reaches_5 hl (by decide) rfl (fun ls hl => ?_)
  refine lv_aload_n hx hb dX1_reaches_7 rfl (lv_at hl 1 rfl) ?_
  refine lv_iload hx hb dX1_reaches_8 (lv_at hl 0 rfl) ?_
  refine lv_iload_n hx hb dX1_reaches_10 rfl (lv_at hl 3 rfl) ?_
  have hPc := hP.sub (ws' := (LW cI cJ lb aR aV aH aD aP rk vb rc hs D Pp)) [0, 1, 2, 3, 4, 5] rfl
  refine x_rl (W.runV (As := [.int (nI h), .int (nI v)]) (rest := []) ⟨hx, hb, hml, hown, hts⟩ (c_commonHubs l dG cI cJ lb aR aV aH aD aP rk vb rc hs D Pp h v hh hv) (cwV 2 hts gX1_reaches_X1_commonHubs rfl rfl rfl (by decide +kernel) ⟨Nat.le_of_ble_eq_true rfl, Nat.le_of_ble_eq_true rfl⟩) (RPc.pre hPc hK (va_recv hK.1 hPc (ci := 1) (q0 := 0) rfl rfl)) rfl rfl hl.1 rfl (lv_room (Nat.le_of_ble_eq_true rfl)) dX1_reaches_11 ⟨Nat.zero_le _, Nat.zero_le _⟩) ?_
  refine lv_lstore (lv' := [(5, .long (hs h &&& hs v)), (4, .int (nI h)), (0, .ref lb), (1, .int (nI r)), (2, .int (nI v)), (3, .int (nI d))]) hx hb dX1_reaches_14 hl (by decide) rfl (fun ls hl => ?_)
  refine lv_iconst (v := (nI 0)) hx hb dX1_reaches_16 (by decide) ?_
  refine lv_istore (lv' := [(7, .int (nI 0)), (5, .long (hs h &&& hs v)), (4, .int (nI h)), (0, .ref lb), (1, .int (nI r)), (2, .int (nI v)), (3, .int (nI d))]) hx hb dX1_reaches_17 hl (by decide) rfl (fun ls hl => ?_)
  have loop : ∀ (QQ : State → Prop) (n1 : Nat) (k : Nat), 48 < k + n1 → k ≤ r + 1 → rch L h v d k = false → (∀ (_ : rch L h v d (r + 1) = false), ∀ ls : Array Slot, lv_has ls 8 [(0, .ref lb), (1, .int (nI r)), (2, .int (nI v)), (3, .int (nI d)), (4, .int (nI h)), (5, .long (hs h &&& hs v)), (7, .int (nI (r + 1)))] → W p l e ({ frames := 2, cells := 0, slots := 0, locals := 43 } : Room) s m ([.ref lb, .int (nI r), .int (nI v), .int (nI d)] : List Value).toArray below meth c s.heap [] 0 0 QQ (F0 m 63 ls [])) → (∀ (_ : rch L h v d (r + 1) = true) (k : Nat), ∀ ls : Array Slot, lv_has ls 8 [(0, .ref lb), (1, .int (nI r)), (2, .int (nI v)), (3, .int (nI d)), (4, .int (nI h)), (5, .long (hs h &&& hs v)), (7, .int (nI k))] → W p l e ({ frames := 2, cells := 0, slots := 0, locals := 43 } : Room) s m ([.ref lb, .int (nI r), .int (nI v), .int (nI d)] : List Value).toArray below meth c s.heap [] 0 0 QQ (F0 m 55 ls [])) → ∀ ls : Array Slot, lv_has ls 8 [(0, .ref lb), (1, .int (nI r)), (2, .int (nI v)), (3, .int (nI d)), (4, .int (nI h)), (5, .long (hs h &&& hs v)), (7, .int (nI k))] → W p l e ({ frames := 2, cells := 0, slots := 0, locals := 43 } : Room) s m ([.ref lb, .int (nI r), .int (nI v), .int (nI d)] : List Value).toArray below meth c s.heap [] 0 0 QQ (F0 m 19 ls []) := by
    intro QQ n1
    induction n1 with
    | zero => intro k h1 h2 h3; exact absurd h1 (by omega)
    | succ n1 ih =>
      intro k h1 h2 h3 kx ky ls hl
      refine lv_iload hx hb dX1_reaches_19 (lv_at hl 6 rfl) ?_
      refine lv_iload_n hx hb dX1_reaches_21 rfl (lv_at hl 1 rfl) ?_
      refine x_icmp_gtN (i := k) (j := r) (tgt := 63) hx hb (by omega) (by omega) dX1_reaches_22 (by decide) (fun c22 => ?_) (fun c22 => ?_)
      · skip
        have ek : k = r + 1 := by omega
        subst ek
        exact kx (h3) ls (lv_sub hl [0, 1, 2, 3, 4, 5, 6] rfl)
      · skip
        refine lv_iload hx hb dX1_reaches_25 (lv_at hl 6 rfl) ?_
        refine lv_bipush (v := (nI 48)) hx hb dX1_reaches_27 (by decide) ?_
        refine x_icmp_geN (i := k) (j := 48) (tgt := 63) hx hb (by omega) (by omega) dX1_reaches_29 (by decide) (fun c29 => ?_) (fun c29 => ?_)
        · skip
          exact absurd c29 (by omega)
        · skip
          refine lv_lload hx hb dX1_reaches_32 (lv_at hl 5 rfl) ?_
          refine lv_iload hx hb dX1_reaches_34 (lv_at hl 6 rfl) ?_
          have hPc : va_P dG vwCl [] s.heap := fun k q h => by simp at h
          refine x_ri (va_runSN (As := [.long (hs h &&& hs v), .int (nI k)]) (rest := []) ⟨hx, hb, hml, hown, hts⟩ (c_hasBit l dG cI cJ (hs h &&& hs v) k (by omega)) ⟨va_cnB 2 hts gX1_reaches_X3_hasBit_n50 rfl rfl rfl hK.2.2.2.2.1 (hts (.initialized RX3) (by decide +kernel)) (by decide +kernel) ⟨Nat.le_of_ble_eq_true rfl, Nat.le_of_ble_eq_true rfl⟩, hts (.static yX3_hasBit) (by decide +kernel), trivial⟩ (RPc.preS hPc hK) rfl rfl hl.1 rfl (lv_room (Nat.le_of_ble_eq_true rfl)) dX1_reaches_36 ⟨Nat.zero_le _, Nat.zero_le _⟩).run ?_
          rw [hR.com hh hv (by omega)]
          refine x_ifeqB (tgt := 57) hx hb dX1_reaches_39 (by decide) (fun c39 => ?_) (fun c39 => ?_)
          · skip
            refine x_iincN (lv' := [(7, .int (nI (k + 1))), (0, .ref lb), (1, .int (nI r)), (2, .int (nI v)), (3, .int (nI d)), (4, .int (nI h)), (5, .long (hs h &&& hs v))]) hx hb dX1_reaches_57 hl (k := 6) rfl (by decide) rfl (fun ls hl => ?_)
            refine lv_goto (tgt := 19) hx hb dX1_reaches_60 (by decide) ?_
            exact ih (k + 1) (by omega) (by omega) (rch_no h3 c39) kx ky ls (lv_sub hl [1, 2, 3, 4, 5, 6, 0] rfl)
          · skip
            refine lv_aload_n hx hb dX1_reaches_42 rfl (lv_at hl 0 rfl) ?_
            refine lv_iload hx hb dX1_reaches_43 (lv_at hl 6 rfl) ?_
            refine lv_iload hx hb dX1_reaches_45 (lv_at hl 4 rfl) ?_
            refine lv_iload_n hx hb dX1_reaches_47 rfl (lv_at hl 2 rfl) ?_
            have hPc := hP.sub (ws' := (LW cI cJ lb aR aV aH aD aP rk vb rc hs D Pp)) [0, 1, 2, 3, 4, 5] rfl
            refine x_ri (W.runV (As := [.int (nI k), .int (nI h), .int (nI v)]) (rest := []) ⟨hx, hb, hml, hown, hts⟩ (c_sumThrough l dG cI cJ lb aR aV aH aD aP rk vb rc hs D Pp L P hR k h v (by omega) hh hv (Bool.and_eq_true_iff.mp c39).1 (Bool.and_eq_true_iff.mp c39).2) (cwV 3 hts gX1_reaches_X1_sumThrough rfl rfl rfl (by decide +kernel) ⟨Nat.le_of_ble_eq_true rfl, Nat.le_of_ble_eq_true rfl⟩) (RPc.pre hPc hK (va_recv hK.1 hPc (ci := 1) (q0 := 0) rfl rfl)) rfl rfl hl.1 rfl (lv_room (Nat.le_of_ble_eq_true rfl)) dX1_reaches_48 ⟨Nat.zero_le _, Nat.zero_le _⟩) ?_
            refine lv_iload_n hx hb dX1_reaches_51 rfl (lv_at hl 3 rfl) ?_
            refine x_icmp_gtN (i := (lsm L h v k)) (j := d) (tgt := 57) hx hb (lsm_lt hB h v k) (by omega) dX1_reaches_52 (by decide) (fun c52 => ?_) (fun c52 => ?_)
            · skip
              refine x_iincN (lv' := [(7, .int (nI (k + 1))), (0, .ref lb), (1, .int (nI r)), (2, .int (nI v)), (3, .int (nI d)), (4, .int (nI h)), (5, .long (hs h &&& hs v))]) hx hb dX1_reaches_57 hl (k := 6) rfl (by decide) rfl (fun ls hl => ?_)
              refine lv_goto (tgt := 19) hx hb dX1_reaches_60 (by decide) ?_
              exact ih (k + 1) (by omega) (by omega) (rch_gt h3 c52) kx ky ls (lv_sub hl [1, 2, 3, 4, 5, 6, 0] rfl)
            · skip
              exact ky (rch_mono (rch_yes c39 c52) (by omega)) (k) ls (lv_sub hl [0, 1, 2, 3, 4, 5, 6] rfl)
  refine loop _ 49 0 (by omega) (by omega) (rfl) (fun hq  ls hl => ?_) (fun hq k ls hl => ?_) ls (lv_sub hl [3, 4, 5, 6, 2, 1, 0] rfl)
  · skip
    refine lv_iconst (v := (nI 0)) hx hb dX1_reaches_63 (by decide) ?_
    exact W.zret (v := (nI 0)) (ty := .boolean) hx hb hr (by decide) (fun t ht hW => ⟨_, rfl, (show (nI 0) = (bI (rch L h v d (r + 1))) from by rw [hq]; rfl), ht⟩) (fun _ h => nomatch h) dX1_reaches_64
  · skip
    refine lv_iconst (v := (nI 1)) hx hb dX1_reaches_55 (by decide) ?_
    exact W.zret (v := (nI 1)) (ty := .boolean) hx hb hr (by decide) (fun t ht hW => ⟨_, rfl, (show (nI 1) = (bI (rch L h v d (r + 1))) from by rw [hq]; rfl), ht⟩) (fun _ h => nomatch h) dX1_reaches_56
end
section
/-! POPCOUNT: Long.bitCount's number is the count of the bits, byte by byte -/
def uN (x : Int64) : Nat := x.toUInt64.toNat
theorem uN_lt (x : Int64) : uN x < 18446744073709551616 := x.toUInt64.toNat_lt
theorem uN_add (x y : Int64) : uN (x + y) = (uN x + uN y) % 18446744073709551616 := by
  show (x.toUInt64 + y.toUInt64).toNat = _
  exact UInt64.toNat_add _ _
theorem uN_and (x y : Int64) : uN (x &&& y) = uN x &&& uN y := UInt64.toNat_and _ _
theorem uN_sub {x y : Int64} (h : uN y ≤ uN x) : uN (x - y) = uN x - uN y := by
  show (x.toUInt64 - y.toUInt64).toNat = _
  exact UInt64.toNat_sub_of_le _ _ (UInt64.le_iff_toNat_le.mpr h)
theorem uN_shr (x : Int64) (s : UInt64) : uN (x.toUInt64 >>> s).toInt64 = uN x / 2 ^ (s.toNat % 64) := by
  show (x.toUInt64 >>> s).toNat = _
  rw [UInt64.toNat_shiftRight, Nat.shiftRight_eq_div_pow]
  rfl
theorem uN_sk (x : Int64) {k : Nat} (hk : k < 64) : uN (x.toUInt64 >>> ((nI k).toInt64.toUInt64 &&& Int64.toUInt64 63)).toInt64 = uN x / 2 ^ k := by
  have h : ((nI k).toInt64.toUInt64 &&& Int64.toUInt64 63).toNat % 64 = k := by
    rw [nI_l (by omega), UInt64.toNat_and]
    have e : (lN k).toUInt64.toNat = k % 2 ^ 64 := rfl
    have e2 : (Int64.toUInt64 63).toNat = 2 ^ 6 - 1 := by decide
    rw [e, e2, Nat.and_two_pow_sub_one_eq_mod]
    omega
  rw [uN_shr, h]
theorem uN_tb (x : Int64) (k : Nat) : (uN x).testBit k = gb x k := rfl
/-- a byte repeated k times -/
def pm (c : Nat) : Nat → Nat
  | 0 => 0
  | k + 1 => 256 * pm c k + c
theorem pm_and (h m l c : Nat) (hl : l < 256) (hc : c < 256) : (256 * h + l) &&& (256 * m + c) = 256 * (h &&& m) + (l &&& c) := by
  have h3 : l &&& c < 2 ^ 8 := Nat.and_lt_two_pow _ hc
  apply Nat.eq_of_testBit_eq
  intro i
  rw [Nat.testBit_and]
  have e1 := Nat.testBit_two_pow_mul_add h (i := 8) hl i
  have e2 := Nat.testBit_two_pow_mul_add m (i := 8) hc i
  have e3 := Nat.testBit_two_pow_mul_add (h &&& m) (i := 8) h3 i
  rw [show (256 : Nat) = 2 ^ 8 from rfl, e1, e2, e3]
  by_cases g : i < 8
  · rw [if_pos g, if_pos g, if_pos g, Nat.testBit_and]
  · rw [if_neg g, if_neg g, if_neg g, Nat.testBit_and]
def pb1 (l : Nat) : Nat := l - (l / 2 &&& 0x55)
def pb2 (l : Nat) : Nat := (l &&& 0x33) + (l / 4 &&& 0x33)
def pb8 (l : Nat) : Nat := fb_ct (fun k => l.testBit k) 8
theorem pb_1 : ∀ l, l < 256 → pb1 l < 256 ∧ (l / 2 &&& 0x55) ≤ l ∧ ((128 + l / 2) &&& 0x55) = (l / 2 &&& 0x55) := by decide +kernel
theorem pb_2a : ∀ l, l < 256 → pb2 (pb1 l) < 256 ∧ pb2 (pb1 l) % 16 ≤ 4 ∧ pb2 (pb1 l) ≤ 68 := by decide +kernel
theorem pb_2 : ∀ l, l < 256 → ((64 + l / 4) &&& 0x33) = (l / 4 &&& 0x33) ∧ ((128 + l / 4) &&& 0x33) = (l / 4 &&& 0x33) ∧ ((192 + l / 4) &&& 0x33) = (l / 4 &&& 0x33) := by decide +kernel
theorem pb_3 : ∀ l, l < 256 → (pb2 (pb1 l) + pb2 (pb1 l) / 16 &&& 15) = pb8 l ∧ pb8 l ≤ 8 := by decide +kernel
theorem pb_4 : ∀ t, t < 69 → ∀ x, x < 5 → (t + 16 * x + t / 16 &&& 15) = (t + t / 16 &&& 15) := by decide +kernel
theorem pb_div2 (h l : Nat) : (256 * h + l) / 2 = 256 * (h / 2) + (128 * (h % 2) + l / 2) := by omega
theorem pb_div4 (h l : Nat) : (256 * h + l) / 4 = 256 * (h / 4) + (64 * (h % 4) + l / 4) := by omega
/-- the three steps, as they go byte by byte -/
def ps1 : Nat → Nat → Nat
  | 0, _ => 0
  | k + 1, n => 256 * ps1 k (n / 256) + pb1 (n % 256)
def ps2 : Nat → Nat → Nat
  | 0, _ => 0
  | k + 1, n => 256 * ps2 k (n / 256) + pb2 (pb1 (n % 256))
def ps3 : Nat → Nat → Nat
  | 0, _ => 0
  | k + 1, n => 256 * ps3 k (n / 256) + pb8 (n % 256)
theorem ps1_eq : ∀ (k n : Nat), n < 256 ^ k → (n / 2 &&& pm 0x55 k) ≤ n ∧ n - (n / 2 &&& pm 0x55 k) = ps1 k n
  | 0, n, h => by
    have : n = 0 := by simpa using h
    subst this
    exact ⟨by decide, by decide⟩
  | k + 1, n, h => by
    have hk : n / 256 < 256 ^ k := by rw [Nat.pow_succ] at h; omega
    obtain ⟨i1, i2⟩ := ps1_eq k (n / 256) hk
    have hl : n % 256 < 256 := by omega
    have hb := pb_1 (n % 256) hl
    have e : n = 256 * (n / 256) + n % 256 := by omega
    have e2 : (n / 2 &&& pm 0x55 (k + 1)) = 256 * (n / 256 / 2 &&& pm 0x55 k) + (n % 256 / 2 &&& 0x55) := by
      show (n / 2 &&& (256 * pm 0x55 k + 0x55)) = _
      conv => lhs; rw [e, pb_div2]
      rw [pm_and _ _ _ _ (by omega) (by decide)]
      congr 1
      rcases Nat.mod_two_eq_zero_or_one (n / 256) with g | g
      · rw [g]; simp
      · rw [g]; exact hb.2.2
    have e3 : ps1 (k + 1) n = 256 * ps1 k (n / 256) + pb1 (n % 256) := rfl
    rw [e2, e3, ← i2]
    unfold pb1
    omega
theorem ps1_s (k n : Nat) : ps1 (k + 1) n = 256 * ps1 k (n / 256) + pb1 (n % 256) := rfl
theorem ps2_eq : ∀ (k n : Nat), (ps1 k n &&& pm 0x33 k) + (ps1 k n / 4 &&& pm 0x33 k) = ps2 k n
  | 0, n => by show (0 &&& 0) + (0 / 4 &&& 0) = 0; decide
  | k + 1, n => by
    have hl : n % 256 < 256 := by omega
    have h1 := (pb_1 (n % 256) hl).1
    have h2 := pb_2 _ h1
    have ih := ps2_eq k (n / 256)
    rw [ps1_s, pb_div4]
    show (_ &&& (256 * pm 0x33 k + 0x33)) + (_ &&& (256 * pm 0x33 k + 0x33)) = 256 * ps2 k (n / 256) + pb2 (pb1 (n % 256))
    rw [pm_and _ _ _ _ h1 (by decide), pm_and _ _ _ _ (by omega) (by decide), ← ih]
    have e : (64 * (ps1 k (n / 256) % 4) + pb1 (n % 256) / 4 &&& 0x33) = (pb1 (n % 256) / 4 &&& 0x33) := by
      have : ps1 k (n / 256) % 4 = 0 ∨ ps1 k (n / 256) % 4 = 1 ∨ ps1 k (n / 256) % 4 = 2 ∨ ps1 k (n / 256) % 4 = 3 := by omega
      rcases this with g | g | g | g <;> rw [g]
      · simp
      · exact h2.1
      · exact h2.2.1
      · exact h2.2.2
    rw [e]
    unfold pb2
    omega
theorem ps2_n (k n : Nat) : ps2 k n % 16 ≤ 4 := by
  cases k with
  | zero => show 0 % 16 ≤ 4; decide
  | succ k =>
    have hl : n % 256 < 256 := by omega
    have h2 := pb_2a _ hl
    show (256 * ps2 k (n / 256) + pb2 (pb1 (n % 256))) % 16 ≤ 4
    omega
theorem ps3_eq : ∀ (k n : Nat), (ps2 k n + ps2 k n / 16 &&& pm 0x0f k) = ps3 k n
  | 0, n => by show (0 + 0 / 16 &&& 0) = 0; decide
  | k + 1, n => by
    have hl : n % 256 < 256 := by omega
    have h2 := pb_2a _ hl
    have h3 := pb_3 _ hl
    have ih := ps3_eq k (n / 256)
    have hn := ps2_n k (n / 256)
    have e : ps2 (k + 1) n = 256 * ps2 k (n / 256) + pb2 (pb1 (n % 256)) := rfl
    have e2 : ps2 (k + 1) n + ps2 (k + 1) n / 16 = 256 * (ps2 k (n / 256) + ps2 k (n / 256) / 16) + (pb2 (pb1 (n % 256)) + 16 * (ps2 k (n / 256) % 16) + pb2 (pb1 (n % 256)) / 16) := by
      rw [e]; omega
    rw [e2]
    show (_ &&& (256 * pm 0x0f k + 15)) = 256 * ps3 k (n / 256) + pb8 (n % 256)
    rw [pm_and _ _ _ _ (by omega) (by decide), ih, pb_4 _ (by omega) _ (by omega), h3.1]
/-- the bytes' counts, and the whole -/
theorem pc_byte (x : Int64) (i : Nat) : pb8 (uN x / 256 ^ i % 256) = fb_ct (fun k => gb x (8 * i + k)) 8 := by
  refine fb_ct_cong fun k hk => ?_
  rw [show (256 : Nat) ^ i = 2 ^ (8 * i) by rw [Nat.pow_mul], show (256 : Nat) = 2 ^ 8 from rfl, Nat.testBit_mod_two_pow, Nat.testBit_div_two_pow, decide_eq_true hk, Bool.true_and, uN_tb, Nat.add_comm]
theorem pc_sum (x : Int64) : fb_ct (gb x) 64 = pb8 (uN x / 256 ^ 0 % 256) + pb8 (uN x / 256 ^ 1 % 256) + pb8 (uN x / 256 ^ 2 % 256) + pb8 (uN x / 256 ^ 3 % 256) + pb8 (uN x / 256 ^ 4 % 256) + pb8 (uN x / 256 ^ 5 % 256) + pb8 (uN x / 256 ^ 6 % 256) + pb8 (uN x / 256 ^ 7 % 256) := by
  rw [pc_byte, pc_byte, pc_byte, pc_byte, pc_byte, pc_byte, pc_byte, pc_byte]
  rw [show (64 : Nat) = 8 + (8 + (8 + (8 + (8 + (8 + (8 + 8)))))) from rfl]
  rw [fb_ct_split (gb x) 8, fb_ct_split _ 8, fb_ct_split _ 8, fb_ct_split _ 8, fb_ct_split _ 8, fb_ct_split _ 8, fb_ct_split _ 8]
  have e : ∀ k, fb_ct (gb x) k = fb_ct (fun j => gb x (8 * 0 + j)) k := fun k => fb_ct_cong fun j _ => by rw [Nat.mul_zero, Nat.zero_add]
  rw [e]
  have c : ∀ {f g : Nat → Nat}, (∀ j, f j = g j) → fb_ct (fun j => gb x (f j)) 8 = fb_ct (fun j => gb x (g j)) 8 := fun h => fb_ct_cong fun j _ => by rw [h]
  rw [c (f := fun j => 8 + j) (g := fun j => 8 * 1 + j) (fun j => by omega), c (f := fun j => 8 + (8 + j)) (g := fun j => 8 * 2 + j) (fun j => by omega), c (f := fun j => 8 + (8 + (8 + j))) (g := fun j => 8 * 3 + j) (fun j => by omega), c (f := fun j => 8 + (8 + (8 + (8 + j)))) (g := fun j => 8 * 4 + j) (fun j => by omega), c (f := fun j => 8 + (8 + (8 + (8 + (8 + j))))) (g := fun j => 8 * 5 + j) (fun j => by omega), c (f := fun j => 8 + (8 + (8 + (8 + (8 + (8 + j)))))) (g := fun j => 8 * 6 + j) (fun j => by omega), c (f := fun j => 8 + (8 + (8 + (8 + (8 + (8 + (8 + j))))))) (g := fun j => 8 * 7 + j) (fun j => by omega)]
  omega
theorem pc_8 (n : Nat) (hn : n < 256 ^ 8) : ps3 8 n = pb8 (n / 256 ^ 0 % 256) + 256 * pb8 (n / 256 ^ 1 % 256) + 65536 * pb8 (n / 256 ^ 2 % 256) + 16777216 * pb8 (n / 256 ^ 3 % 256) + 4294967296 * pb8 (n / 256 ^ 4 % 256) + 1099511627776 * pb8 (n / 256 ^ 5 % 256) + 281474976710656 * pb8 (n / 256 ^ 6 % 256) + 72057594037927936 * pb8 (n / 256 ^ 7 % 256) := by
  have d : ∀ i, n / 256 ^ (i + 1) = n / 256 ^ i / 256 := fun i => by rw [Nat.pow_succ, Nat.div_div_eq_div_mul]
  simp only [ps3, d, Nat.pow_zero, Nat.div_one]
  omega
end
section
theorem ps2_le : ∀ (k n : Nat), ps2 k n ≤ pm 68 k
  | 0, _ => Nat.le_refl 0
  | k + 1, n => by
    have hl : n % 256 < 256 := by omega
    have h2 := pb_2a _ hl
    have ih := ps2_le k (n / 256)
    show 256 * ps2 k (n / 256) + pb2 (pb1 (n % 256)) ≤ 256 * pm 68 k + 68
    omega
abbrev SH (x : Int64) (k : Nat) : Int64 := (x.toUInt64 >>> ((nI k).toInt64.toUInt64 &&& Int64.toUInt64 63)).toInt64
theorem pa_div {lo hi m a : Nat} (h : a = lo + m * hi) (hl : lo < m) : a / m = hi := by
  subst h
  rw [Nat.add_mul_div_left _ _ (by omega), Nat.div_eq_of_lt hl, Nat.zero_add]
theorem pa_mod {a hi lo : Nat} (h : a = lo + 128 * hi) (hl : lo < 128) : a % 128 = lo := by omega
theorem pq1 (p0 p1 p2 p3 p4 p5 p6 p7 : Nat) : p0 + 256 * p1 + 65536 * p2 + 16777216 * p3 + 4294967296 * p4 + 1099511627776 * p5 + 281474976710656 * p6 + 72057594037927936 * p7 = p0 + 256 * (p1 + 256 * p2 + 65536 * p3 + 16777216 * p4 + 4294967296 * p5 + 1099511627776 * p6 + 281474976710656 * p7) := by omega
theorem pq2 (p0 p1 p2 p3 p4 p5 p6 p7 : Nat) : (p0 + 256 * p1 + 65536 * p2 + 16777216 * p3 + 4294967296 * p4 + 1099511627776 * p5 + 281474976710656 * p6 + 72057594037927936 * p7) + (p1 + 256 * p2 + 65536 * p3 + 16777216 * p4 + 4294967296 * p5 + 1099511627776 * p6 + 281474976710656 * p7) = (p0 + p1) + 256 * (p1 + p2) + 65536 * ((p2 + p3) + 256 * (p3 + p4) + 65536 * (p4 + p5) + 16777216 * (p5 + p6) + 4294967296 * (p6 + p7) + 1099511627776 * p7) := by omega
theorem pq3 (p0 p1 p2 p3 p4 p5 p6 p7 : Nat) (h0 : p0 ≤ 8) (h1 : p1 ≤ 8) (h2 : p2 ≤ 8) (h3 : p3 ≤ 8) (h4 : p4 ≤ 8) (h5 : p5 ≤ 8) (h6 : p6 ≤ 8) (h7 : p7 ≤ 8) : (p0 + 256 * p1 + 65536 * p2 + 16777216 * p3 + 4294967296 * p4 + 1099511627776 * p5 + 281474976710656 * p6 + 72057594037927936 * p7) + (p1 + 256 * p2 + 65536 * p3 + 16777216 * p4 + 4294967296 * p5 + 1099511627776 * p6 + 281474976710656 * p7) < 18446744073709551616 := by omega
theorem pq4 (p0 p1 p2 p3 p4 p5 p6 p7 : Nat) : ((p0 + p1) + 256 * (p1 + p2) + 65536 * ((p2 + p3) + 256 * (p3 + p4) + 65536 * (p4 + p5) + 16777216 * (p5 + p6) + 4294967296 * (p6 + p7) + 1099511627776 * p7)) + ((p2 + p3) + 256 * (p3 + p4) + 65536 * (p4 + p5) + 16777216 * (p5 + p6) + 4294967296 * (p6 + p7) + 1099511627776 * p7) = ((p0 + p1 + p2 + p3) + 256 * (p1 + p2 + p3 + p4) + 65536 * (p2 + p3 + p4 + p5) + 16777216 * (p3 + p4 + p5 + p6)) + 4294967296 * ((p4 + p5 + p6 + p7) + 256 * (p5 + p6 + p7) + 65536 * (p6 + p7) + 16777216 * p7) := by omega
theorem pq5 (p0 p1 p2 p3 p4 p5 p6 p7 : Nat) (h0 : p0 ≤ 8) (h1 : p1 ≤ 8) (h2 : p2 ≤ 8) (h3 : p3 ≤ 8) (h4 : p4 ≤ 8) (h5 : p5 ≤ 8) (h6 : p6 ≤ 8) (h7 : p7 ≤ 8) : ((p0 + p1) + 256 * (p1 + p2) + 65536 * ((p2 + p3) + 256 * (p3 + p4) + 65536 * (p4 + p5) + 16777216 * (p5 + p6) + 4294967296 * (p6 + p7) + 1099511627776 * p7)) + ((p2 + p3) + 256 * (p3 + p4) + 65536 * (p4 + p5) + 16777216 * (p5 + p6) + 4294967296 * (p6 + p7) + 1099511627776 * p7) < 18446744073709551616 := by omega
theorem pq6 (p0 p1 p2 p3 p4 p5 p6 p7 : Nat) : (((p0 + p1 + p2 + p3) + 256 * (p1 + p2 + p3 + p4) + 65536 * (p2 + p3 + p4 + p5) + 16777216 * (p3 + p4 + p5 + p6)) + 4294967296 * ((p4 + p5 + p6 + p7) + 256 * (p5 + p6 + p7) + 65536 * (p6 + p7) + 16777216 * p7)) + ((p4 + p5 + p6 + p7) + 256 * (p5 + p6 + p7) + 65536 * (p6 + p7) + 16777216 * p7) = ((p0 + p1 + p2 + p3 + p4 + p5 + p6 + p7) + 128 * (2 * (p1 + p2 + p3 + p4 + p5 + p6 + p7) + 512 * (p2 + p3 + p4 + p5 + p6 + p7) + 131072 * (p3 + p4 + p5 + p6 + p7))) + 4294967296 * ((p4 + p5 + p6 + p7) + 256 * (p5 + p6 + p7) + 65536 * (p6 + p7) + 16777216 * p7) := by omega
theorem pq7 (p0 p1 p2 p3 p4 p5 p6 p7 : Nat) (h0 : p0 ≤ 8) (h1 : p1 ≤ 8) (h2 : p2 ≤ 8) (h3 : p3 ≤ 8) (h4 : p4 ≤ 8) (h5 : p5 ≤ 8) (h6 : p6 ≤ 8) (h7 : p7 ≤ 8) : (((p0 + p1 + p2 + p3) + 256 * (p1 + p2 + p3 + p4) + 65536 * (p2 + p3 + p4 + p5) + 16777216 * (p3 + p4 + p5 + p6)) + 4294967296 * ((p4 + p5 + p6 + p7) + 256 * (p5 + p6 + p7) + 65536 * (p6 + p7) + 16777216 * p7)) + ((p4 + p5 + p6 + p7) + 256 * (p5 + p6 + p7) + 65536 * (p6 + p7) + 16777216 * p7) < 18446744073709551616 := by omega
theorem pq8 (p0 p1 p2 p3 p4 p5 p6 p7 : Nat) (h0 : p0 ≤ 8) (h1 : p1 ≤ 8) (h2 : p2 ≤ 8) (h3 : p3 ≤ 8) (h4 : p4 ≤ 8) (h5 : p5 ≤ 8) (h6 : p6 ≤ 8) (h7 : p7 ≤ 8) : ((p0 + p1) + 256 * (p1 + p2)) < 65536 ∧ ((p0 + p1 + p2 + p3) + 256 * (p1 + p2 + p3 + p4) + 65536 * (p2 + p3 + p4 + p5) + 16777216 * (p3 + p4 + p5 + p6)) < 4294967296 ∧ (p0 + p1 + p2 + p3 + p4 + p5 + p6 + p7) + 128 * (2 * (p1 + p2 + p3 + p4 + p5 + p6 + p7) + 512 * (p2 + p3 + p4 + p5 + p6 + p7) + 131072 * (p3 + p4 + p5 + p6 + p7)) < 4294967296 ∧ (p0 + p1 + p2 + p3 + p4 + p5 + p6 + p7) < 128 := by omega
theorem pc_add (p0 p1 p2 p3 p4 p5 p6 p7 : Nat) (h0 : p0 ≤ 8) (h1 : p1 ≤ 8) (h2 : p2 ≤ 8) (h3 : p3 ≤ 8) (h4 : p4 ≤ 8) (h5 : p5 ≤ 8) (h6 : p6 ≤ 8) (h7 : p7 ≤ 8) (g a4 a5 a6 : Nat) (eg : g = p0 + 256 * p1 + 65536 * p2 + 16777216 * p3 + 4294967296 * p4 + 1099511627776 * p5 + 281474976710656 * p6 + 72057594037927936 * p7)
    (e4 : a4 = (g + g / 256) % 18446744073709551616) (e5 : a5 = (a4 + a4 / 65536) % 18446744073709551616) (e6 : a6 = (a5 + a5 / 4294967296) % 18446744073709551616) : a6 % 4294967296 % 128 = p0 + p1 + p2 + p3 + p4 + p5 + p6 + p7 := by
  have hb := pq8 p0 p1 p2 p3 p4 p5 p6 p7 h0 h1 h2 h3 h4 h5 h6 h7
  have q4 : g / 256 = p1 + 256 * p2 + 65536 * p3 + 16777216 * p4 + 4294967296 * p5 + 1099511627776 * p6 + 281474976710656 * p7 := pa_div (eg.trans (pq1 p0 p1 p2 p3 p4 p5 p6 p7)) (Nat.lt_of_le_of_lt h0 (by decide))
  have r4 : a4 = (p0 + p1) + 256 * (p1 + p2) + 65536 * ((p2 + p3) + 256 * (p3 + p4) + 65536 * (p4 + p5) + 16777216 * (p5 + p6) + 4294967296 * (p6 + p7) + 1099511627776 * p7) := by
    rw [e4, q4, eg, Nat.mod_eq_of_lt (pq3 p0 p1 p2 p3 p4 p5 p6 p7 h0 h1 h2 h3 h4 h5 h6 h7)]; exact pq2 p0 p1 p2 p3 p4 p5 p6 p7
  have q5 : a4 / 65536 = ((p2 + p3) + 256 * (p3 + p4) + 65536 * (p4 + p5) + 16777216 * (p5 + p6) + 4294967296 * (p6 + p7) + 1099511627776 * p7) := pa_div r4 hb.1
  have r5 : a5 = ((p0 + p1 + p2 + p3) + 256 * (p1 + p2 + p3 + p4) + 65536 * (p2 + p3 + p4 + p5) + 16777216 * (p3 + p4 + p5 + p6)) + 4294967296 * ((p4 + p5 + p6 + p7) + 256 * (p5 + p6 + p7) + 65536 * (p6 + p7) + 16777216 * p7) := by
    rw [e5, q5, r4, Nat.mod_eq_of_lt (pq5 p0 p1 p2 p3 p4 p5 p6 p7 h0 h1 h2 h3 h4 h5 h6 h7)]; exact pq4 p0 p1 p2 p3 p4 p5 p6 p7
  have q6 : a5 / 4294967296 = ((p4 + p5 + p6 + p7) + 256 * (p5 + p6 + p7) + 65536 * (p6 + p7) + 16777216 * p7) := pa_div r5 hb.2.1
  have r6 : a6 = ((p0 + p1 + p2 + p3 + p4 + p5 + p6 + p7) + 128 * (2 * (p1 + p2 + p3 + p4 + p5 + p6 + p7) + 512 * (p2 + p3 + p4 + p5 + p6 + p7) + 131072 * (p3 + p4 + p5 + p6 + p7))) + 4294967296 * ((p4 + p5 + p6 + p7) + 256 * (p5 + p6 + p7) + 65536 * (p6 + p7) + 16777216 * p7) := by
    rw [e6, q6, r5, Nat.mod_eq_of_lt (pq7 p0 p1 p2 p3 p4 p5 p6 p7 h0 h1 h2 h3 h4 h5 h6 h7)]; exact pq6 p0 p1 p2 p3 p4 p5 p6 p7
  rw [r6, Nat.add_mul_mod_self_left, Nat.mod_eq_of_lt hb.2.2.1, Nat.add_mul_mod_self_left, Nat.mod_eq_of_lt hb.2.2.2]
theorem bitCount_fin {x x1 x2 x3 x4 x5 x6 : Int64} (e1 : x1 = x - (SH x 1 &&& 6148914691236517205)) (e2 : x2 = (x1 &&& 3689348814741910323) + (SH x1 2 &&& 3689348814741910323)) (e3 : x3 = (x2 + SH x2 4) &&& 1085102592571150095) (e4 : x4 = x3 + SH x3 8) (e5 : x5 = x4 + SH x4 16) (e6 : x6 = x5 + SH x5 32) : x6.toInt32 &&& nI 127 = nI (fb_ct (gb x) 64) := by
  have hn := uN_lt x
  have m1 : uN 6148914691236517205 = pm 0x55 8 := by decide +kernel
  have m2 : uN 3689348814741910323 = pm 0x33 8 := by decide +kernel
  have m3 : uN 1085102592571150095 = pm 0x0f 8 := by decide +kernel
  have s1 := ps1_eq 8 (uN x) (by rw [show (256 : Nat) ^ 8 = 18446744073709551616 by decide +kernel]; exact hn)
  have u1 : uN x1 = ps1 8 (uN x) := by
    have a : uN (SH x 1 &&& 6148914691236517205) = (uN x / 2 &&& pm 0x55 8) := by rw [uN_and, uN_sk x (k := 1) (by decide +kernel), m1]
    rw [e1, uN_sub (by rw [a]; exact s1.1), a]
    exact s1.2
  have b2 := ps2_le 8 (uN x)
  rw [show pm 68 8 = 4919131752989213764 by decide +kernel] at b2
  have u2 : uN x2 = ps2 8 (uN x) := by
    rw [e2, uN_add, uN_and, uN_and, uN_sk x1 (k := 2) (by decide +kernel), m2, u1, show (2 : Nat) ^ 2 = 4 by decide +kernel, ps2_eq]
    omega
  have u3 : uN x3 = ps3 8 (uN x) := by
    rw [e3, uN_and, uN_add, uN_sk x2 (k := 4) (by decide +kernel), m3, u2, show (2 : Nat) ^ 4 = 16 by decide +kernel, Nat.mod_eq_of_lt (by omega), ps3_eq]
  have p8 := fun i => (pb_3 (uN x / 256 ^ i % 256) (Nat.mod_lt _ (Nat.zero_lt_succ _))).2
  have r := pc_add _ _ _ _ _ _ _ _ (p8 0) (p8 1) (p8 2) (p8 3) (p8 4) (p8 5) (p8 6) (p8 7) (uN x3) (uN x4) (uN x5) (uN x6)
    (by rw [u3]; exact pc_8 _ (by rw [show (256 : Nat) ^ 8 = 18446744073709551616 by decide +kernel]; exact hn))
    (by rw [e4, uN_add, uN_sk x3 (k := 8) (by decide +kernel), show (2 : Nat) ^ 8 = 256 by decide +kernel])
    (by rw [e5, uN_add, uN_sk x4 (k := 16) (by decide +kernel), show (2 : Nat) ^ 16 = 65536 by decide +kernel])
    (by rw [e6, uN_add, uN_sk x5 (k := 32) (by decide +kernel), show (2 : Nat) ^ 32 = 4294967296 by decide +kernel])
  rw [pk_and _ 7 (by decide +kernel), pc_sum, ← r]
  have t : x6.toInt32.toBitVec.toNat = uN x6 % 4294967296 := by
    show (x6.toBitVec.signExtend 32).toNat = _
    rw [BitVec.signExtend_eq_setWidth_of_le _ (by decide), BitVec.toNat_setWidth]
    rfl
  rw [t]
end
section
/-! Labels: counting, paths -/
theorem Chain.par {L P : Nat → Nat → Option Nat} {r h v t : Nat} (hC : Chain L P r h v t) {k : Nat} (hk : k < t) : P (cl P r v k) r = some (cl P r v (k + 1)) := by
  obtain ⟨-, -, -, q, e, -⟩ := hC.2 k hk
  show _ = some ((P (cl P r v k) r).getD 0)
  rw [e]; rfl
theorem Chain.lt {L P : Nat → Nat → Option Nat} {r h v t : Nat} (hC : Chain L P r h v t) (hv : v < 48) (hh : h < 48) {k : Nat} (hk : k ≤ t) : cl P r v k < 48 := by
  rcases Nat.lt_or_ge k t with g | g
  · exact (hC.2 k g).2.1
  · rw [show k = t by omega, hC.1]; exact hh
set_option maxHeartbeats 4000000 in
set_option maxRecDepth 100000 in
/-- Long.bitCount -/
theorem c_bitCount (l : Launch) (dG : va_G) (cI cJ : ClassId) (x : Int64) : Met l yJ13_bitCount_95d88 wsJ13_bitCount_95d88 ({ frames := 0, cells := 0, slots := 0, locals := 0 } : Room) (RPc dG cI cJ [.long x] []) (vp_Si (fun r9 => r9 = (nI (fb_ct (gb x) 64)))) 0 0 (fun _ => False) := by
  refine Met.ofW (cc := cJ13_bitCount_95d88) (maxL := 2) (ret := (some .int)) (by decide) rfl ?_
  intro p e s m args below meth c s₁ B9 hml hv
  obtain ⟨rfl, hP, hK⟩ := hv
  have hx := B9.exec
  have hb := B9.bytes
  have hr := B9.returns
  have hts := atoms_spec (ws := wsJ13_bitCount_95d88) B9.pre
  have hown : s.vm.findClass RJ13 = some m.cls := findClass_of_methodNamed B9.named
  have hlocks := B9.notSynchronized
  have hl := lv_entry ([.long x]) (n := 2) (Nat.le_of_ble_eq_true rfl)
  rw [lg_entry_eq]
  generalize (lg_sl ([.long x]) ++ List.replicate (2 - (lg_sl ([.long x])).length) Slot.unset).toArray = ls at hl ⊢
  have hl : lv_has ls 2 [(0, .long x)] := hl
  refine lv_lload_n hx hb dJ13_bitCount_95d88_0 rfl (lv_at hl 0 rfl) ?_
  refine lv_lload_n hx hb dJ13_bitCount_95d88_1 rfl (lv_at hl 0 rfl) ?_
  refine lv_iconst (v := (nI 1)) hx hb dJ13_bitCount_95d88_2 (by decide) ?_
  refine lv_lushr (v := ((x.toUInt64 >>> ((nI 1).toInt64.toUInt64 &&& Int64.toUInt64 63)).toInt64)) hx hb dJ13_bitCount_95d88_3 rfl ?_
  refine lv_ldc2 hx hb hown (hts (.constantLong RJ13 314 (6148914691236517205)) (by decide +kernel)) dJ13_bitCount_95d88_4 ?_
  refine lv_land hx hb dJ13_bitCount_95d88_7 ?_
  refine lv_lsub hx hb dJ13_bitCount_95d88_8 ?_
  refine lv_topl (fun x1 e1 => ?_)
  refine lv_lstore_n (lv' := [(0, .long x1)]) hx hb dJ13_bitCount_95d88_9 rfl hl (by decide) rfl (fun ls hl => ?_)
  refine lv_lload_n hx hb dJ13_bitCount_95d88_10 rfl (lv_at hl 0 rfl) ?_
  refine lv_ldc2 hx hb hown (hts (.constantLong RJ13 316 (3689348814741910323)) (by decide +kernel)) dJ13_bitCount_95d88_11 ?_
  refine lv_land hx hb dJ13_bitCount_95d88_14 ?_
  refine lv_lload_n hx hb dJ13_bitCount_95d88_15 rfl (lv_at hl 0 rfl) ?_
  refine lv_iconst (v := (nI 2)) hx hb dJ13_bitCount_95d88_16 (by decide) ?_
  refine lv_lushr (v := ((x1.toUInt64 >>> ((nI 2).toInt64.toUInt64 &&& Int64.toUInt64 63)).toInt64)) hx hb dJ13_bitCount_95d88_17 rfl ?_
  refine lv_ldc2 hx hb hown (hts (.constantLong RJ13 316 (3689348814741910323)) (by decide +kernel)) dJ13_bitCount_95d88_18 ?_
  refine lv_land hx hb dJ13_bitCount_95d88_21 ?_
  refine lv_ladd hx hb dJ13_bitCount_95d88_22 ?_
  refine lv_topl (fun x2 e2 => ?_)
  refine lv_lstore_n (lv' := [(0, .long x2)]) hx hb dJ13_bitCount_95d88_23 rfl hl (by decide) rfl (fun ls hl => ?_)
  refine lv_lload_n hx hb dJ13_bitCount_95d88_24 rfl (lv_at hl 0 rfl) ?_
  refine lv_lload_n hx hb dJ13_bitCount_95d88_25 rfl (lv_at hl 0 rfl) ?_
  refine lv_iconst (v := (nI 4)) hx hb dJ13_bitCount_95d88_26 (by decide) ?_
  refine lv_lushr (v := ((x2.toUInt64 >>> ((nI 4).toInt64.toUInt64 &&& Int64.toUInt64 63)).toInt64)) hx hb dJ13_bitCount_95d88_27 rfl ?_
  refine lv_ladd hx hb dJ13_bitCount_95d88_28 ?_
  refine lv_ldc2 hx hb hown (hts (.constantLong RJ13 318 (1085102592571150095)) (by decide +kernel)) dJ13_bitCount_95d88_29 ?_
  refine lv_land hx hb dJ13_bitCount_95d88_32 ?_
  refine lv_topl (fun x3 e3 => ?_)
  refine lv_lstore_n (lv' := [(0, .long x3)]) hx hb dJ13_bitCount_95d88_33 rfl hl (by decide) rfl (fun ls hl => ?_)
  refine lv_lload_n hx hb dJ13_bitCount_95d88_34 rfl (lv_at hl 0 rfl) ?_
  refine lv_lload_n hx hb dJ13_bitCount_95d88_35 rfl (lv_at hl 0 rfl) ?_
  refine lv_bipush (v := (nI 8)) hx hb dJ13_bitCount_95d88_36 (by decide) ?_
  refine lv_lushr (v := ((x3.toUInt64 >>> ((nI 8).toInt64.toUInt64 &&& Int64.toUInt64 63)).toInt64)) hx hb dJ13_bitCount_95d88_38 rfl ?_
  refine lv_ladd hx hb dJ13_bitCount_95d88_39 ?_
  refine lv_topl (fun x4 e4 => ?_)
  refine lv_lstore_n (lv' := [(0, .long x4)]) hx hb dJ13_bitCount_95d88_40 rfl hl (by decide) rfl (fun ls hl => ?_)
  refine lv_lload_n hx hb dJ13_bitCount_95d88_41 rfl (lv_at hl 0 rfl) ?_
  refine lv_lload_n hx hb dJ13_bitCount_95d88_42 rfl (lv_at hl 0 rfl) ?_
  refine lv_bipush (v := (nI 16)) hx hb dJ13_bitCount_95d88_43 (by decide) ?_
  refine lv_lushr (v := ((x4.toUInt64 >>> ((nI 16).toInt64.toUInt64 &&& Int64.toUInt64 63)).toInt64)) hx hb dJ13_bitCount_95d88_45 rfl ?_
  refine lv_ladd hx hb dJ13_bitCount_95d88_46 ?_
  refine lv_topl (fun x5 e5 => ?_)
  refine lv_lstore_n (lv' := [(0, .long x5)]) hx hb dJ13_bitCount_95d88_47 rfl hl (by decide) rfl (fun ls hl => ?_)
  refine lv_lload_n hx hb dJ13_bitCount_95d88_48 rfl (lv_at hl 0 rfl) ?_
  refine lv_lload_n hx hb dJ13_bitCount_95d88_49 rfl (lv_at hl 0 rfl) ?_
  refine lv_bipush (v := (nI 32)) hx hb dJ13_bitCount_95d88_50 (by decide) ?_
  refine lv_lushr (v := ((x5.toUInt64 >>> ((nI 32).toInt64.toUInt64 &&& Int64.toUInt64 63)).toInt64)) hx hb dJ13_bitCount_95d88_52 rfl ?_
  refine lv_ladd hx hb dJ13_bitCount_95d88_53 ?_
  refine lv_topl (fun x6 e6 => ?_)
  refine lv_lstore_n (lv' := [(0, .long x6)]) hx hb dJ13_bitCount_95d88_54 rfl hl (by decide) rfl (fun ls hl => ?_)
  refine lv_lload_n hx hb dJ13_bitCount_95d88_55 rfl (lv_at hl 0 rfl) ?_
  refine lv_l2i (v := x6.toInt32) hx hb dJ13_bitCount_95d88_56 rfl ?_
  refine lv_bipush (v := (nI 127)) hx hb dJ13_bitCount_95d88_57 (by decide) ?_
  refine lv_iand hx hb dJ13_bitCount_95d88_59 ?_
  exact W.iret (v := (x6.toInt32 &&& (nI 127))) hx hb hr (fun t ht hW => ⟨_, rfl, (show (x6.toInt32 &&& (nI 127)) = (nI (fb_ct (gb x) 64)) from bitCount_fin e1 e2 e3 e4 e5 e6), ht⟩) (fun _ h => nomatch h) dJ13_bitCount_95d88_60

theorem RepL.ct {L P : Nat → Nat → Option Nat} {hs : Nat → Int64} {D Pp : Nat → Int32} (h : RepL L P hs D Pp) {v : Nat} (hv : v < 48) : fb_ct (gb (hs v)) 64 = lct L v := by
  rw [show (64 : Nat) = 48 + 16 from rfl, fb_ct_split]
  rw [fb_ct_zero.mpr (fun k hk => h.2.2 v (48 + k) hv (by omega)), Nat.add_zero]
  exact fb_ct_cong fun k hk => h.1 v k hv hk

set_option maxHeartbeats 4000000 in
set_option maxRecDepth 100000 in
/-- Graph.degree -/
theorem c_degree (l : Launch) (dG : va_G) (cI cJ : ClassId) (g gA n ec : Nat) (ns : Nat → Int64) (v : Nat) (hv : v < 48) : Met l yX0_degree wsX0_degree ({ frames := 2, cells := 0, slots := 0, locals := 41 } : Room) (RPc dG cI cJ [.ref g, .int (nI v)] (GW cJ g gA (nI n) (nI ec) ns)) (vp_Si (fun r9 => r9 = (nI (fb_ct (gb (ns v)) 64)))) 0 0 (fun _ => False) := by
  refine Met.ofW (cc := cX0_degree) (maxL := 2) (ret := (some .int)) (by decide) rfl ?_
  intro p e s m args below meth c s₁ B9 hml hv
  obtain ⟨rfl, hP, hK⟩ := hv
  have hx := B9.exec
  have hb := B9.bytes
  have hr := B9.returns
  have hts := atoms_spec (ws := wsX0_degree) B9.pre
  have hown : s.vm.findClass RX0 = some m.cls := findClass_of_methodNamed B9.named
  have hlocks := B9.notSynchronized
  have hl := lv_entry ([.ref g, .int (nI v)]) (n := 2) (Nat.le_of_ble_eq_true rfl)
  rw [lg_entry_eq]
  generalize (lg_sl ([.ref g, .int (nI v)]) ++ List.replicate (2 - (lg_sl ([.ref g, .int (nI v)])).length) Slot.unset).toArray = ls at hl ⊢
  have hl : lv_has ls 2 [(0, .ref g), (1, .int (nI v))] := hl
  refine lv_aload_n hx hb dX0_degree_0 rfl (lv_at hl 0 rfl) ?_
  refine lv_iload_n hx hb dX0_degree_1 rfl (lv_at hl 1 rfl) ?_
  have hPc := hP.sub (ws' := (GW cJ g gA (nI n) (nI ec) ns)) [0, 1] rfl
  refine x_rl (W.runV (As := [.int (nI v)]) (rest := []) ⟨hx, hb, hml, hown, hts⟩ (c_adjacent l dG cI cJ g gA n ec ns v hv) (cwV 1 hts gX0_degree_X0_adjacent rfl rfl rfl (by decide +kernel) ⟨Nat.le_of_ble_eq_true rfl, Nat.le_of_ble_eq_true rfl⟩) (RPc.pre hPc hK (va_recv hK.1 hPc (ci := 0) (q0 := 0) rfl rfl)) rfl rfl hl.1 rfl (lv_room (Nat.le_of_ble_eq_true rfl)) dX0_degree_2 ⟨Nat.zero_le _, Nat.zero_le _⟩) ?_
  have hPc : va_P dG vwCl [] s.heap := fun k q h => by simp at h
  refine x_ri (W.runS (As := [.long (ns v)]) (rest := []) ⟨hx, hb, hml, hown, hts⟩ (c_bitCount l dG cI cJ (ns v)) (va_cwS 1 hts gX0_degree_J13_bitCount_95d88 rfl rfl rfl (by decide +kernel) ⟨Nat.le_of_ble_eq_true rfl, Nat.le_of_ble_eq_true rfl⟩) (RPc.preS hPc hK) rfl rfl hl.1 rfl (lv_room (Nat.le_of_ble_eq_true rfl)) dX0_degree_5 ⟨Nat.zero_le _, Nat.zero_le _⟩) ?_
  exact W.iret (v := (nI (fb_ct (gb (ns v)) 64))) hx hb hr (fun t ht hW => ⟨_, rfl, rfl, ht⟩) (fun _ h => nomatch h) dX0_degree_8

set_option maxHeartbeats 4000000 in
set_option maxRecDepth 100000 in
/-- Labels.countOf -/
theorem c_countOf (l : Launch) (dG : va_G) (cI cJ : ClassId) (lb aR aV aH aD aP : Nat) (rk vb : Nat → Int32) (rc : Int32) (hs : Nat → Int64) (D Pp : Nat → Int32) (L P : Nat → Nat → Option Nat) (hR : RepL L P hs D Pp) (v : Nat) (hv : v < 48) : Met l yX1_countOf wsX1_countOf ({ frames := 1, cells := 0, slots := 0, locals := 21 } : Room) (RPc dG cI cJ [.ref lb, .int (nI v)] (LW cI cJ lb aR aV aH aD aP rk vb rc hs D Pp)) (vp_Si (fun r9 => r9 = (nI (lct L v)))) 0 0 (fun _ => False) := by
  refine Met.ofW (cc := cX1_countOf) (maxL := 2) (ret := (some .int)) (by decide) rfl ?_
  intro p e s m args below meth c s₁ B9 hml hv
  obtain ⟨rfl, hP, hK⟩ := hv
  have hx := B9.exec
  have hb := B9.bytes
  have hr := B9.returns
  have hts := atoms_spec (ws := wsX1_countOf) B9.pre
  have hown : s.vm.findClass RX1 = some m.cls := findClass_of_methodNamed B9.named
  have hlocks := B9.notSynchronized
  have hl := lv_entry ([.ref lb, .int (nI v)]) (n := 2) (Nat.le_of_ble_eq_true rfl)
  rw [lg_entry_eq]
  generalize (lg_sl ([.ref lb, .int (nI v)]) ++ List.replicate (2 - (lg_sl ([.ref lb, .int (nI v)])).length) Slot.unset).toArray = ls at hl ⊢
  have hl : lv_has ls 2 [(0, .ref lb), (1, .int (nI v))] := hl
  have hiX1 : ∀ w ∈ wsX10, w ∈ wsX1_countOf := by decide +kernel
  have hf22 := hts (.fieldLink RX1 22 "LandmarkLea$Labels" "hubSets" "[J") (by decide +kernel)
  refine lv_iload_n hx hb dX1_countOf_0 rfl (lv_at hl 1 rfl) ?_
  have hPc : va_P dG vwCl [] s.heap := fun k q h => by simp at h
  refine x_ri (va_runSN (As := [.int (nI v)]) (rest := []) ⟨hx, hb, hml, hown, hts⟩ (c_isRow l dG cI cJ v (by omega)) ⟨va_cnB 1 hts gX1_countOf_X3_isRow_n46 rfl rfl rfl hK.2.2.2.1 (hts (.initialized RX3) (by decide +kernel)) (by decide +kernel) ⟨Nat.le_of_ble_eq_true rfl, Nat.le_of_ble_eq_true rfl⟩, hts (.static yX3_isRow) (by decide +kernel), trivial⟩ (RPc.preS hPc hK) rfl rfl hl.1 rfl (lv_room (Nat.le_of_ble_eq_true rfl)) dX1_countOf_1 ⟨Nat.zero_le _, Nat.zero_le _⟩).run ?_
  refine x_ifeqB (tgt := 19) hx hb dX1_countOf_4 (by decide) (fun c4 => ?_) (fun c4 => ?_)
  · skip
    exact absurd hv (of_decide_eq_false c4)
  · skip
    refine lv_aload_n hx hb dX1_countOf_7 rfl (lv_at hl 0 rfl) ?_
    refine va_get (D := dG) (ci := 1) (v := .ref aH) (C := RX1) (T := TX1) (N := 6) hx hb hts hiX1 hown hK.1 hP 0 rfl rfl 3 (by decide) hf22 (fun _ h9 => h9) rfl dX1_countOf_8 ?_
    refine lv_iload_n hx hb dX1_countOf_11 rfl (lv_at hl 1 rfl) ?_
    refine x_lald (f := hs) hx hb hK hP 3 rfl (by omega) (by decide) dX1_countOf_12 ?_
    have hPc : va_P dG vwCl [] s.heap := fun k q h => by simp at h
    refine x_ri (W.runS (As := [.long (hs v)]) (rest := []) ⟨hx, hb, hml, hown, hts⟩ (c_bitCount l dG cI cJ (hs v)) (va_cwS 1 hts gX1_countOf_J13_bitCount_95d88 rfl rfl rfl (by decide +kernel) ⟨Nat.le_of_ble_eq_true rfl, Nat.le_of_ble_eq_true rfl⟩) (RPc.preS hPc hK) rfl rfl hl.1 rfl (lv_room (Nat.le_of_ble_eq_true rfl)) dX1_countOf_13 ⟨Nat.zero_le _, Nat.zero_le _⟩) ?_
    rw [hR.ct hv]
    refine lv_goto (tgt := 20) hx hb dX1_countOf_16 (by decide) ?_
    exact W.iret (v := (nI (lct L v))) hx hb hr (fun t ht hW => ⟨_, rfl, rfl, ht⟩) (fun _ h => nomatch h) dX1_countOf_20

set_option maxHeartbeats 4000000 in
set_option maxRecDepth 100000 in
/-- Labels.countAll -/
theorem c_countAll (l : Launch) (dG : va_G) (cI cJ : ClassId) (lb aR aV aH aD aP : Nat) (rk vb : Nat → Int32) (rc : Int32) (hs : Nat → Int64) (D Pp : Nat → Int32) (L P : Nat → Nat → Option Nat) (hR : RepL L P hs D Pp) : Met l yX1_countAll wsX1_countAll ({ frames := 2, cells := 0, slots := 0, locals := 42 } : Room) (RPc dG cI cJ [.ref lb] (LW cI cJ lb aR aV aH aD aP rk vb rc hs D Pp)) (vp_Si (fun r9 => r9 = (nI (fb_sm (lct L) 48)))) 0 0 (fun _ => False) := by
  refine Met.ofW (cc := cX1_countAll) (maxL := 3) (ret := (some .int)) (by decide) rfl ?_
  intro p e s m args below meth c s₁ B9 hml hv
  obtain ⟨rfl, hP, hK⟩ := hv
  have hx := B9.exec
  have hb := B9.bytes
  have hr := B9.returns
  have hts := atoms_spec (ws := wsX1_countAll) B9.pre
  have hown : s.vm.findClass RX1 = some m.cls := findClass_of_methodNamed B9.named
  have hlocks := B9.notSynchronized
  have hl := lv_entry ([.ref lb]) (n := 3) (Nat.le_of_ble_eq_true rfl)
  rw [lg_entry_eq]
  generalize (lg_sl ([.ref lb]) ++ List.replicate (3 - (lg_sl ([.ref lb])).length) Slot.unset).toArray = ls at hl ⊢
  have hl : lv_has ls 3 [(0, .ref lb)] := hl
  refine lv_iconst (v := (nI 0)) hx hb dX1_countAll_0 (by decide) ?_
  refine lv_istore_n (lv' := [(1, .int (nI 0)), (0, .ref lb)]) hx hb dX1_countAll_1 rfl hl (by decide) rfl (fun ls hl => ?_)
  refine lv_iconst (v := (nI 0)) hx hb dX1_countAll_2 (by decide) ?_
  refine lv_istore_n (lv' := [(2, .int (nI 0)), (1, .int (nI 0)), (0, .ref lb)]) hx hb dX1_countAll_3 rfl hl (by decide) rfl (fun ls hl => ?_)
  have loop : ∀ (QQ : State → Prop) (n1 : Nat) (k : Nat), 48 < k + n1 → k ≤ 48 → (∀ ls : Array Slot, lv_has ls 3 [(0, .ref lb), (1, .int (nI (fb_sm (lct L) 48))), (2, .int (nI 48))] → W p l e ({ frames := 2, cells := 0, slots := 0, locals := 42 } : Room) s m ([.ref lb] : List Value).toArray below meth c s.heap [] 0 0 QQ (F0 m 24 ls [])) → ∀ ls : Array Slot, lv_has ls 3 [(0, .ref lb), (1, .int (nI (fb_sm (lct L) k))), (2, .int (nI k))] → W p l e ({ frames := 2, cells := 0, slots := 0, locals := 42 } : Room) s m ([.ref lb] : List Value).toArray below meth c s.heap [] 0 0 QQ (F0 m 4 ls []) := by
    intro QQ n1
    induction n1 with
    | zero => intro k h1 h2; exact absurd h1 (by omega)
    | succ n1 ih =>
      intro k h1 h2 kx ls hl
      refine lv_iload_n hx hb dX1_countAll_4 rfl (lv_at hl 2 rfl) ?_
      refine lv_bipush (v := (nI 48)) hx hb dX1_countAll_5 (by decide) ?_
      refine x_icmp_geN (i := k) (j := 48) (tgt := 24) hx hb (by omega) (by omega) dX1_countAll_7 (by decide) (fun c7 => ?_) (fun c7 => ?_)
      · skip
        have ek : k = 48 := by omega
        subst ek
        exact kx  ls (lv_sub hl [0, 1, 2] rfl)
      · skip
        refine lv_iload_n hx hb dX1_countAll_10 rfl (lv_at hl 1 rfl) ?_
        refine lv_aload_n hx hb dX1_countAll_11 rfl (lv_at hl 0 rfl) ?_
        refine lv_iload_n hx hb dX1_countAll_12 rfl (lv_at hl 2 rfl) ?_
        have hPc := hP.sub (ws' := (LW cI cJ lb aR aV aH aD aP rk vb rc hs D Pp)) [0, 1, 2, 3, 4, 5] rfl
        refine x_ri (W.runV (As := [.int (nI k)]) (rest := [.int (nI (fb_sm (lct L) k))]) ⟨hx, hb, hml, hown, hts⟩ (c_countOf l dG cI cJ lb aR aV aH aD aP rk vb rc hs D Pp L P hR k (by omega)) (cwV 1 hts gX1_countAll_X1_countOf rfl rfl rfl (by decide +kernel) ⟨Nat.le_of_ble_eq_true rfl, Nat.le_of_ble_eq_true rfl⟩) (RPc.pre hPc hK (va_recv hK.1 hPc (ci := 1) (q0 := 0) rfl rfl)) rfl rfl hl.1 rfl (lv_room (Nat.le_of_ble_eq_true rfl)) dX1_countAll_13 ⟨Nat.zero_le _, Nat.zero_le _⟩) ?_
        refine x_addN (i := (fb_sm (lct L) k)) (j := (lct L k)) hx hb dX1_countAll_16 ?_
        refine lv_istore_n (lv' := [(1, .int (nI ((fb_sm (lct L) k) + (lct L k)))), (0, .ref lb), (2, .int (nI k))]) hx hb dX1_countAll_17 rfl hl (by decide) rfl (fun ls hl => ?_)
        refine x_iincN (lv' := [(2, .int (nI (k + 1))), (1, .int (nI ((fb_sm (lct L) k) + (lct L k)))), (0, .ref lb)]) hx hb dX1_countAll_18 hl (k := 2) rfl (by decide) rfl (fun ls hl => ?_)
        refine lv_goto (tgt := 4) hx hb dX1_countAll_21 (by decide) ?_
        exact ih (k + 1) (by omega) (by omega) kx ls (lv_sub hl [2, 1, 0] rfl)
  refine loop _ 49 0 (by omega) (by omega) (fun  ls hl => ?_) ls (lv_sub hl [2, 1, 0] rfl)
  refine lv_iload_n hx hb dX1_countAll_24 rfl (lv_at hl 1 rfl) ?_
  exact W.iret (v := (nI (fb_sm (lct L) 48))) hx hb hr (fun t ht hW => ⟨_, rfl, rfl, ht⟩) (fun _ h => nomatch h) dX1_countAll_25

set_option maxHeartbeats 4000000 in
set_option maxRecDepth 100000 in
/-- Labels.hubRankOfEntry -/
theorem c_hubRankOfEntry (l : Launch) (dG : va_G) (cI cJ : ClassId) (lb aR aV aH aD aP : Nat) (rk vb : Nat → Int32) (rc : Int32) (hs : Nat → Int64) (D Pp : Nat → Int32) (L P : Nat → Nat → Option Nat) (hR : RepL L P hs D Pp) (v e0 r : Nat) (hv : v < 48) (hr0 : r < 48) (hq : (L v r).isSome = true) (he : fb_ct (fun k => (L v k).isSome) r = e0) : Met l yX1_hubRankOfEntry wsX1_hubRankOfEntry ({ frames := 1, cells := 0, slots := 0, locals := 22 } : Room) (RPc dG cI cJ [.ref lb, .int (nI v), .int (nI e0)] (LW cI cJ lb aR aV aH aD aP rk vb rc hs D Pp)) (vp_Si (fun r9 => r9 = (nI r))) 0 0 (fun _ => False) := by
  refine Met.ofW (cc := cX1_hubRankOfEntry) (maxL := 5) (ret := (some .int)) (by decide) rfl ?_
  intro p e s m args below meth c s₁ B9 hml hv
  obtain ⟨rfl, hP, hK⟩ := hv
  have hx := B9.exec
  have hb := B9.bytes
  have hr := B9.returns
  have hts := atoms_spec (ws := wsX1_hubRankOfEntry) B9.pre
  have hown : s.vm.findClass RX1 = some m.cls := findClass_of_methodNamed B9.named
  have hlocks := B9.notSynchronized
  have hl := lv_entry ([.ref lb, .int (nI v), .int (nI e0)]) (n := 5) (Nat.le_of_ble_eq_true rfl)
  rw [lg_entry_eq]
  generalize (lg_sl ([.ref lb, .int (nI v), .int (nI e0)]) ++ List.replicate (5 - (lg_sl ([.ref lb, .int (nI v), .int (nI e0)])).length) Slot.unset).toArray = ls at hl ⊢
  have hl : lv_has ls 5 [(0, .ref lb), (1, .int (nI v)), (2, .int (nI e0))] := hl
  have hiX1 : ∀ w ∈ wsX10, w ∈ wsX1_hubRankOfEntry := by decide +kernel
  have hf22 := hts (.fieldLink RX1 22 "LandmarkLea$Labels" "hubSets" "[J") (by decide +kernel)
  refine lv_iload_n hx hb dX1_hubRankOfEntry_0 rfl (lv_at hl 1 rfl) ?_
  have hPc : va_P dG vwCl [] s.heap := fun k q h => by simp at h
  refine x_ri (va_runSN (As := [.int (nI v)]) (rest := []) ⟨hx, hb, hml, hown, hts⟩ (c_isRow l dG cI cJ v (by omega)) ⟨va_cnB 1 hts gX1_hubRankOfEntry_X3_isRow_n46 rfl rfl rfl hK.2.2.2.1 (hts (.initialized RX3) (by decide +kernel)) (by decide +kernel) ⟨Nat.le_of_ble_eq_true rfl, Nat.le_of_ble_eq_true rfl⟩, hts (.static yX3_isRow) (by decide +kernel), trivial⟩ (RPc.preS hPc hK) rfl rfl hl.1 rfl (lv_room (Nat.le_of_ble_eq_true rfl)) dX1_hubRankOfEntry_1 ⟨Nat.zero_le _, Nat.zero_le _⟩).run ?_
  refine x_ifneB (tgt := 9) hx hb dX1_hubRankOfEntry_4 (by decide) (fun c4 => ?_) (fun c4 => ?_)
  · skip
    refine lv_iconst (v := (nI 0)) hx hb dX1_hubRankOfEntry_9 (by decide) ?_
    refine lv_istore_n (lv' := [(3, .int (nI 0)), (0, .ref lb), (1, .int (nI v)), (2, .int (nI e0))]) hx hb dX1_hubRankOfEntry_10 rfl hl (by decide) rfl (fun ls hl => ?_)
    refine lv_iconst (v := (nI 0)) hx hb dX1_hubRankOfEntry_11 (by decide) ?_
    refine lv_istore (lv' := [(4, .int (nI 0)), (3, .int (nI 0)), (0, .ref lb), (1, .int (nI v)), (2, .int (nI e0))]) hx hb dX1_hubRankOfEntry_12 hl (by decide) rfl (fun ls hl => ?_)
    have loop : ∀ (QQ : State → Prop) (n1 : Nat) (k : Nat), r < k + n1 → k ≤ r → (∀ ls : Array Slot, lv_has ls 5 [(0, .ref lb), (1, .int (nI v)), (2, .int (nI e0)), (3, .int (nI (fb_ct (fun k => (L v k).isSome) r))), (4, .int (nI r))] → W p l e ({ frames := 1, cells := 0, slots := 0, locals := 22 } : Room) s m ([.ref lb, .int (nI v), .int (nI e0)] : List Value).toArray below meth c s.heap [] 0 0 QQ (F0 m 40 ls [])) → ∀ ls : Array Slot, lv_has ls 5 [(0, .ref lb), (1, .int (nI v)), (2, .int (nI e0)), (3, .int (nI (fb_ct (fun k => (L v k).isSome) k))), (4, .int (nI k))] → W p l e ({ frames := 1, cells := 0, slots := 0, locals := 22 } : Room) s m ([.ref lb, .int (nI v), .int (nI e0)] : List Value).toArray below meth c s.heap [] 0 0 QQ (F0 m 14 ls []) := by
      intro QQ n1
      induction n1 with
      | zero => intro k h1 h2; exact absurd h1 (by omega)
      | succ n1 ih =>
        intro k h1 h2 kx ls hl
        refine lv_iload hx hb dX1_hubRankOfEntry_14 (lv_at hl 4 rfl) ?_
        refine lv_bipush (v := (nI 48)) hx hb dX1_hubRankOfEntry_16 (by decide) ?_
        refine x_icmp_geN (i := k) (j := 48) (tgt := 52) hx hb (by omega) (by omega) dX1_hubRankOfEntry_18 (by decide) (fun c18 => ?_) (fun c18 => ?_)
        · skip
          exact absurd c18 (by omega)
        · skip
          refine lv_aload_n hx hb dX1_hubRankOfEntry_21 rfl (lv_at hl 0 rfl) ?_
          refine va_get (D := dG) (ci := 1) (v := .ref aH) (C := RX1) (T := TX1) (N := 6) hx hb hts hiX1 hown hK.1 hP 0 rfl rfl 3 (by decide) hf22 (fun _ h9 => h9) rfl dX1_hubRankOfEntry_22 ?_
          refine lv_iload_n hx hb dX1_hubRankOfEntry_25 rfl (lv_at hl 1 rfl) ?_
          refine x_lald (f := hs) hx hb hK hP 3 rfl (by omega) (by decide) dX1_hubRankOfEntry_26 ?_
          refine lv_iload hx hb dX1_hubRankOfEntry_27 (lv_at hl 4 rfl) ?_
          have hPc : va_P dG vwCl [] s.heap := fun k q h => by simp at h
          refine x_ri (va_runSN (As := [.long (hs v), .int (nI k)]) (rest := []) ⟨hx, hb, hml, hown, hts⟩ (c_hasBit l dG cI cJ (hs v) k (by omega)) ⟨va_cnB 2 hts gX1_hubRankOfEntry_X3_hasBit_n50 rfl rfl rfl hK.2.2.2.2.1 (hts (.initialized RX3) (by decide +kernel)) (by decide +kernel) ⟨Nat.le_of_ble_eq_true rfl, Nat.le_of_ble_eq_true rfl⟩, hts (.static yX3_hasBit) (by decide +kernel), trivial⟩ (RPc.preS hPc hK) rfl rfl hl.1 rfl (lv_room (Nat.le_of_ble_eq_true rfl)) dX1_hubRankOfEntry_29 ⟨Nat.zero_le _, Nat.zero_le _⟩).run ?_
          rw [hR.1 v k hv (by omega)]
          refine x_ifeqB (tgt := 46) hx hb dX1_hubRankOfEntry_32 (by decide) (fun c32 => ?_) (fun c32 => ?_)
          · skip
            refine x_iincN (lv' := [(4, .int (nI (k + 1))), (0, .ref lb), (1, .int (nI v)), (2, .int (nI e0)), (3, .int (nI (fb_ct (fun k => (L v k).isSome) k)))]) hx hb dX1_hubRankOfEntry_46 hl (k := 4) rfl (by decide) rfl (fun ls hl => ?_)
            refine lv_goto (tgt := 14) hx hb dX1_hubRankOfEntry_49 (by decide) ?_
            have hl : lv_has ls 5 [(4, .int (nI (k + 1))), (0, .ref lb), (1, .int (nI v)), (2, .int (nI e0)), (3, .int (nI (fb_ct (fun k => (L v k).isSome) (k + 1))))] := by rw [fb_ct_succ, c32]; exact hl
            have hne : k ≠ r := fun z => by rw [z, hq] at c32; cases c32
            exact ih (k + 1) (by omega) (by omega) kx ls (lv_sub hl [1, 2, 3, 4, 0] rfl)
          · skip
            have hle := fb_ct_le (fun k => (L v k).isSome) k
            have hle2 := fb_ct_le (fun k => (L v k).isSome) r
            refine lv_iload_n hx hb dX1_hubRankOfEntry_35 rfl (lv_at hl 3 rfl) ?_
            refine lv_iload_n hx hb dX1_hubRankOfEntry_36 rfl (lv_at hl 2 rfl) ?_
            refine x_icmp_neN (i := (fb_ct (fun k => (L v k).isSome) k)) (j := e0) (tgt := 43) hx hb (by omega) (by omega) dX1_hubRankOfEntry_37 (by decide) (fun c37 => ?_) (fun c37 => ?_)
            · skip
              refine x_iincN (lv' := [(3, .int (nI ((fb_ct (fun k => (L v k).isSome) k) + 1))), (0, .ref lb), (1, .int (nI v)), (2, .int (nI e0)), (4, .int (nI k))]) hx hb dX1_hubRankOfEntry_43 hl (k := 3) rfl (by decide) rfl (fun ls hl => ?_)
              refine x_iincN (lv' := [(4, .int (nI (k + 1))), (3, .int (nI ((fb_ct (fun k => (L v k).isSome) k) + 1))), (0, .ref lb), (1, .int (nI v)), (2, .int (nI e0))]) hx hb dX1_hubRankOfEntry_46 hl (k := 4) rfl (by decide) rfl (fun ls hl => ?_)
              refine lv_goto (tgt := 14) hx hb dX1_hubRankOfEntry_49 (by decide) ?_
              have hl : lv_has ls 5 [(4, .int (nI (k + 1))), (3, .int (nI (fb_ct (fun k => (L v k).isSome) (k + 1)))), (0, .ref lb), (1, .int (nI v)), (2, .int (nI e0))] := by rw [fb_ct_succ, c32]; exact hl
              have hne : k ≠ r := fun z => c37 (by rw [z]; exact he)
              exact ih (k + 1) (by omega) (by omega) kx ls (lv_sub hl [2, 3, 4, 1, 0] rfl)
            · skip
              have hkr : k = r := by
                rcases Nat.lt_or_ge k r with g | g
                · have g2 := fb_ct_mono (fun k => (L v k).isSome) (show k + 1 ≤ r from g)
                  rw [fb_ct_succ, c32, if_pos rfl] at g2
                  omega
                · omega
              subst hkr
              exact kx  ls (lv_sub hl [0, 1, 2, 3, 4] rfl)
    refine loop _ 49 0 (by omega) (by omega) (fun  ls hl => ?_) ls (lv_sub hl [2, 3, 4, 1, 0] rfl)
    refine lv_iload hx hb dX1_hubRankOfEntry_40 (lv_at hl 4 rfl) ?_
    exact W.iret (v := (nI r)) hx hb hr (fun t ht hW => ⟨_, rfl, rfl, ht⟩) (fun _ h => nomatch h) dX1_hubRankOfEntry_42
  · skip
    exact absurd hv (of_decide_eq_false c4)

set_option maxHeartbeats 4000000 in
set_option maxRecDepth 100000 in
/-- Labels.stepsTo -/
theorem c_stepsTo (l : Launch) (dG : va_G) (cI cJ : ClassId) (lb aR aV aH aD aP : Nat) (rk vb : Nat → Int32) (rc : Int32) (hs : Nat → Int64) (D Pp : Nat → Int32) (L P : Nat → Nat → Option Nat) (hR : RepL L P hs D Pp) (r v h t : Nat) (hr0 : r < 48) (hv : v < 48) (ht : t < 48) (hC : Chain L P r h v t) (hh : h < 48) (eh : vb r = nI h) : Met l yX1_stepsTo wsX1_stepsTo ({ frames := 3, cells := 0, slots := 0, locals := 66 } : Room) (RPc dG cI cJ [.ref lb, .int (nI r), .int (nI v)] (LW cI cJ lb aR aV aH aD aP rk vb rc hs D Pp)) (vp_Si (fun r9 => r9 = (nI t))) 0 0 (fun _ => False) := by
  refine Met.ofW (cc := cX1_stepsTo) (maxL := 6) (ret := (some .int)) (by decide) rfl ?_
  intro p e s m args below meth c s₁ B9 hml hv
  obtain ⟨rfl, hP, hK⟩ := hv
  have hx := B9.exec
  have hb := B9.bytes
  have hr := B9.returns
  have hts := atoms_spec (ws := wsX1_stepsTo) B9.pre
  have hown : s.vm.findClass RX1 = some m.cls := findClass_of_methodNamed B9.named
  have hlocks := B9.notSynchronized
  have hl := lv_entry ([.ref lb, .int (nI r), .int (nI v)]) (n := 6) (Nat.le_of_ble_eq_true rfl)
  rw [lg_entry_eq]
  generalize (lg_sl ([.ref lb, .int (nI r), .int (nI v)]) ++ List.replicate (6 - (lg_sl ([.ref lb, .int (nI r), .int (nI v)])).length) Slot.unset).toArray = ls at hl ⊢
  have hl : lv_has ls 6 [(0, .ref lb), (1, .int (nI r)), (2, .int (nI v))] := hl
  refine lv_aload_n hx hb dX1_stepsTo_0 rfl (lv_at hl 0 rfl) ?_
  refine lv_iload_n hx hb dX1_stepsTo_1 rfl (lv_at hl 1 rfl) ?_
  have hPc := hP.sub (ws' := (LW cI cJ lb aR aV aH aD aP rk vb rc hs D Pp)) [0, 1, 2, 3, 4, 5] rfl
  refine x_ri (W.runV (As := [.int (nI r)]) (rest := []) ⟨hx, hb, hml, hown, hts⟩ (c_vertexOf l dG cI cJ lb aR aV aH aD aP rk vb rc hs D Pp r hr0) (cwV 1 hts gX1_stepsTo_X1_vertexOf rfl rfl rfl (by decide +kernel) ⟨Nat.le_of_ble_eq_true rfl, Nat.le_of_ble_eq_true rfl⟩) (RPc.pre hPc hK (va_recv hK.1 hPc (ci := 1) (q0 := 0) rfl rfl)) rfl rfl hl.1 rfl (lv_room (Nat.le_of_ble_eq_true rfl)) dX1_stepsTo_2 ⟨Nat.zero_le _, Nat.zero_le _⟩) ?_
  rw [eh]
  refine lv_istore_n (lv' := [(3, .int (nI h)), (0, .ref lb), (1, .int (nI r)), (2, .int (nI v))]) hx hb dX1_stepsTo_5 rfl hl (by decide) rfl (fun ls hl => ?_)
  refine lv_iconst (v := (nI 0)) hx hb dX1_stepsTo_6 (by decide) ?_
  refine lv_istore (lv' := [(4, .int (nI 0)), (3, .int (nI h)), (0, .ref lb), (1, .int (nI r)), (2, .int (nI v))]) hx hb dX1_stepsTo_7 hl (by decide) rfl (fun ls hl => ?_)
  refine lv_iload_n hx hb dX1_stepsTo_9 rfl (lv_at hl 4 rfl) ?_
  refine lv_istore (lv' := [(5, .int (nI v)), (4, .int (nI 0)), (3, .int (nI h)), (0, .ref lb), (1, .int (nI r)), (2, .int (nI v))]) hx hb dX1_stepsTo_10 hl (by decide) rfl (fun ls hl => ?_)
  have loop : ∀ (QQ : State → Prop) (n1 : Nat) (k : Nat), t < k + n1 → k ≤ t → (∀ ls : Array Slot, lv_has ls 6 [(0, .ref lb), (1, .int (nI r)), (2, .int (nI v)), (3, .int (nI h)), (4, .int (nI t)), (5, .int (nI (cl P r v t)))] → W p l e ({ frames := 3, cells := 0, slots := 0, locals := 66 } : Room) s m ([.ref lb, .int (nI r), .int (nI v)] : List Value).toArray below meth c s.heap [] 0 0 QQ (F0 m 40 ls [])) → ∀ ls : Array Slot, lv_has ls 6 [(0, .ref lb), (1, .int (nI r)), (2, .int (nI v)), (3, .int (nI h)), (4, .int (nI k)), (5, .int (nI (cl P r v k)))] → W p l e ({ frames := 3, cells := 0, slots := 0, locals := 66 } : Room) s m ([.ref lb, .int (nI r), .int (nI v)] : List Value).toArray below meth c s.heap [] 0 0 QQ (F0 m 12 ls []) := by
    intro QQ n1
    induction n1 with
    | zero => intro k h1 h2; exact absurd h1 (by omega)
    | succ n1 ih =>
      intro k h1 h2 kx ls hl
      refine lv_iload hx hb dX1_stepsTo_12 (lv_at hl 5 rfl) ?_
      refine lv_iload_n hx hb dX1_stepsTo_14 rfl (lv_at hl 3 rfl) ?_
      refine x_icmp_eqN (i := (cl P r v k)) (j := h) (tgt := 40) hx hb (Nat.lt_trans (hC.lt hv hh h2) (by decide)) (by omega) dX1_stepsTo_15 (by decide) (fun c15 => ?_) (fun c15 => ?_)
      · skip
        have ek : k = t := by
          rcases Nat.lt_or_ge k t with g | g
          · exact absurd c15 (hC.2 k g).1
          · omega
        subst ek
        exact kx  ls (lv_sub hl [0, 1, 2, 3, 4, 5] rfl)
      · skip
        have hk : k < t := by
          rcases Nat.lt_or_ge k t with g | g
          · exact g
          · exact absurd (by rw [show k = t by omega]; exact hC.1) c15
        refine lv_iload hx hb dX1_stepsTo_18 (lv_at hl 4 rfl) ?_
        refine lv_bipush (v := (nI 48)) hx hb dX1_stepsTo_20 (by decide) ?_
        refine x_icmp_geN (i := k) (j := 48) (tgt := 40) hx hb (by omega) (by omega) dX1_stepsTo_22 (by decide) (fun c22 => ?_) (fun c22 => ?_)
        · skip
          exact absurd c22 (by omega)
        · skip
          refine lv_aload_n hx hb dX1_stepsTo_25 rfl (lv_at hl 0 rfl) ?_
          refine lv_iload_n hx hb dX1_stepsTo_26 rfl (lv_at hl 1 rfl) ?_
          refine lv_iload hx hb dX1_stepsTo_27 (lv_at hl 5 rfl) ?_
          have hPc := hP.sub (ws' := (LW cI cJ lb aR aV aH aD aP rk vb rc hs D Pp)) [0, 1, 2, 3, 4, 5] rfl
          refine x_ri (W.runV (As := [.int (nI r), .int (nI (cl P r v k))]) (rest := []) ⟨hx, hb, hml, hown, hts⟩ (c_parentTowards l dG cI cJ lb aR aV aH aD aP rk vb rc hs D Pp L P hR r (cl P r v k) hr0 (hC.2 k hk).2.1 (hC.2 k hk).2.2.1) (cwV 2 hts gX1_stepsTo_X1_parentTowards rfl rfl rfl (by decide +kernel) ⟨Nat.le_of_ble_eq_true rfl, Nat.le_of_ble_eq_true rfl⟩) (RPc.pre hPc hK (va_recv hK.1 hPc (ci := 1) (q0 := 0) rfl rfl)) rfl rfl hl.1 rfl (lv_room (Nat.le_of_ble_eq_true rfl)) dX1_stepsTo_29 ⟨Nat.zero_le _, Nat.zero_le _⟩) ?_
          rw [show P (cl P r v k) r = some (cl P r v (k + 1)) from hC.par hk]
          refine lv_istore (lv' := [(5, .int (nI (cl P r v (k + 1)))), (0, .ref lb), (1, .int (nI r)), (2, .int (nI v)), (3, .int (nI h)), (4, .int (nI k))]) hx hb dX1_stepsTo_32 hl (by decide) rfl (fun ls hl => ?_)
          refine x_iincN (lv' := [(4, .int (nI (k + 1))), (5, .int (nI (cl P r v (k + 1)))), (0, .ref lb), (1, .int (nI r)), (2, .int (nI v)), (3, .int (nI h))]) hx hb dX1_stepsTo_34 hl (k := 5) rfl (by decide) rfl (fun ls hl => ?_)
          refine lv_goto (tgt := 12) hx hb dX1_stepsTo_37 (by decide) ?_
          exact ih (k + 1) (by omega) (by omega) kx ls (lv_sub hl [2, 3, 4, 5, 0, 1] rfl)
  refine loop _ 49 0 (by omega) (by omega) (fun  ls hl => ?_) ls (lv_sub hl [3, 4, 5, 2, 1, 0] rfl)
  refine lv_iload hx hb dX1_stepsTo_40 (lv_at hl 4 rfl) ?_
  exact W.iret (v := (nI t)) hx hb hr (fun t ht hW => ⟨_, rfl, rfl, ht⟩) (fun _ h => nomatch h) dX1_stepsTo_42

set_option maxHeartbeats 4000000 in
set_option maxRecDepth 100000 in
/-- Labels.climb -/
theorem c_climb (l : Launch) (dG : va_G) (cI cJ : ClassId) (lb aR aV aH aD aP : Nat) (rk vb : Nat → Int32) (rc : Int32) (hs : Nat → Int64) (D Pp : Nat → Int32) (L P : Nat → Nat → Option Nat) (hR : RepL L P hs D Pp) (r v h t : Nat) (hr0 : r < 48) (hv : v < 48) (ht : t < 48) (hC : Chain L P r h v t) (n : Nat) (hn : n ≤ t) : Met l yX1_climb wsX1_climb ({ frames := 3, cells := 0, slots := 0, locals := 66 } : Room) (RPc dG cI cJ [.ref lb, .int (nI r), .int (nI v), .int (nI n)] (LW cI cJ lb aR aV aH aD aP rk vb rc hs D Pp)) (vp_Si (fun r9 => r9 = (nI (cl P r v n)))) 0 0 (fun _ => False) := by
  refine Met.ofW (cc := cX1_climb) (maxL := 6) (ret := (some .int)) (by decide) rfl ?_
  intro p e s m args below meth c s₁ B9 hml hv
  obtain ⟨rfl, hP, hK⟩ := hv
  have hx := B9.exec
  have hb := B9.bytes
  have hr := B9.returns
  have hts := atoms_spec (ws := wsX1_climb) B9.pre
  have hown : s.vm.findClass RX1 = some m.cls := findClass_of_methodNamed B9.named
  have hlocks := B9.notSynchronized
  have hl := lv_entry ([.ref lb, .int (nI r), .int (nI v), .int (nI n)]) (n := 6) (Nat.le_of_ble_eq_true rfl)
  rw [lg_entry_eq]
  generalize (lg_sl ([.ref lb, .int (nI r), .int (nI v), .int (nI n)]) ++ List.replicate (6 - (lg_sl ([.ref lb, .int (nI r), .int (nI v), .int (nI n)])).length) Slot.unset).toArray = ls at hl ⊢
  have hl : lv_has ls 6 [(0, .ref lb), (1, .int (nI r)), (2, .int (nI v)), (3, .int (nI n))] := hl
  refine lv_iload_n hx hb dX1_climb_0 rfl (lv_at hl 2 rfl) ?_
  refine lv_istore (lv' := [(4, .int (nI v)), (0, .ref lb), (1, .int (nI r)), (2, .int (nI v)), (3, .int (nI n))]) hx hb dX1_climb_1 hl (by decide) rfl (fun ls hl => ?_)
  refine lv_iconst (v := (nI 0)) hx hb dX1_climb_3 (by decide) ?_
  refine lv_istore (lv' := [(5, .int (nI 0)), (4, .int (nI v)), (0, .ref lb), (1, .int (nI r)), (2, .int (nI v)), (3, .int (nI n))]) hx hb dX1_climb_4 hl (by decide) rfl (fun ls hl => ?_)
  have loop : ∀ (QQ : State → Prop) (n1 : Nat) (k : Nat), n < k + n1 → k ≤ n → (∀ ls : Array Slot, lv_has ls 6 [(0, .ref lb), (1, .int (nI r)), (2, .int (nI v)), (3, .int (nI n)), (4, .int (nI (cl P r v n))), (5, .int (nI n))] → W p l e ({ frames := 3, cells := 0, slots := 0, locals := 66 } : Room) s m ([.ref lb, .int (nI r), .int (nI v), .int (nI n)] : List Value).toArray below meth c s.heap [] 0 0 QQ (F0 m 34 ls [])) → ∀ ls : Array Slot, lv_has ls 6 [(0, .ref lb), (1, .int (nI r)), (2, .int (nI v)), (3, .int (nI n)), (4, .int (nI (cl P r v k))), (5, .int (nI k))] → W p l e ({ frames := 3, cells := 0, slots := 0, locals := 66 } : Room) s m ([.ref lb, .int (nI r), .int (nI v), .int (nI n)] : List Value).toArray below meth c s.heap [] 0 0 QQ (F0 m 6 ls []) := by
    intro QQ n1
    induction n1 with
    | zero => intro k h1 h2; exact absurd h1 (by omega)
    | succ n1 ih =>
      intro k h1 h2 kx ls hl
      refine lv_iload hx hb dX1_climb_6 (lv_at hl 5 rfl) ?_
      refine lv_iload_n hx hb dX1_climb_8 rfl (lv_at hl 3 rfl) ?_
      refine x_icmp_geN (i := k) (j := n) (tgt := 34) hx hb (by omega) (by omega) dX1_climb_9 (by decide) (fun c9 => ?_) (fun c9 => ?_)
      · skip
        have ek : k = n := by omega
        subst ek
        exact kx  ls (lv_sub hl [0, 1, 2, 3, 4, 5] rfl)
      · skip
        have hk : k < t := by omega
        refine lv_iload hx hb dX1_climb_12 (lv_at hl 5 rfl) ?_
        refine lv_bipush (v := (nI 48)) hx hb dX1_climb_14 (by decide) ?_
        refine x_icmp_geN (i := k) (j := 48) (tgt := 34) hx hb (by omega) (by omega) dX1_climb_16 (by decide) (fun c16 => ?_) (fun c16 => ?_)
        · skip
          exact absurd c16 (by omega)
        · skip
          refine lv_aload_n hx hb dX1_climb_19 rfl (lv_at hl 0 rfl) ?_
          refine lv_iload_n hx hb dX1_climb_20 rfl (lv_at hl 1 rfl) ?_
          refine lv_iload hx hb dX1_climb_21 (lv_at hl 4 rfl) ?_
          have hPc := hP.sub (ws' := (LW cI cJ lb aR aV aH aD aP rk vb rc hs D Pp)) [0, 1, 2, 3, 4, 5] rfl
          refine x_ri (W.runV (As := [.int (nI r), .int (nI (cl P r v k))]) (rest := []) ⟨hx, hb, hml, hown, hts⟩ (c_parentTowards l dG cI cJ lb aR aV aH aD aP rk vb rc hs D Pp L P hR r (cl P r v k) hr0 (hC.2 k hk).2.1 (hC.2 k hk).2.2.1) (cwV 2 hts gX1_climb_X1_parentTowards rfl rfl rfl (by decide +kernel) ⟨Nat.le_of_ble_eq_true rfl, Nat.le_of_ble_eq_true rfl⟩) (RPc.pre hPc hK (va_recv hK.1 hPc (ci := 1) (q0 := 0) rfl rfl)) rfl rfl hl.1 rfl (lv_room (Nat.le_of_ble_eq_true rfl)) dX1_climb_23 ⟨Nat.zero_le _, Nat.zero_le _⟩) ?_
          rw [show P (cl P r v k) r = some (cl P r v (k + 1)) from hC.par hk]
          refine lv_istore (lv' := [(4, .int (nI (cl P r v (k + 1)))), (0, .ref lb), (1, .int (nI r)), (2, .int (nI v)), (3, .int (nI n)), (5, .int (nI k))]) hx hb dX1_climb_26 hl (by decide) rfl (fun ls hl => ?_)
          refine x_iincN (lv' := [(5, .int (nI (k + 1))), (4, .int (nI (cl P r v (k + 1)))), (0, .ref lb), (1, .int (nI r)), (2, .int (nI v)), (3, .int (nI n))]) hx hb dX1_climb_28 hl (k := 5) rfl (by decide) rfl (fun ls hl => ?_)
          refine lv_goto (tgt := 6) hx hb dX1_climb_31 (by decide) ?_
          exact ih (k + 1) (by omega) (by omega) kx ls (lv_sub hl [2, 3, 4, 5, 1, 0] rfl)
  refine loop _ 49 0 (by omega) (by omega) (fun  ls hl => ?_) ls (lv_sub hl [2, 3, 4, 5, 1, 0] rfl)
  refine lv_iload hx hb dX1_climb_34 (lv_at hl 4 rfl) ?_
  exact W.iret (v := (nI (cl P r v n))) hx hb hr (fun t ht hW => ⟨_, rfl, rfl, ht⟩) (fun _ h => nomatch h) dX1_climb_36

set_option maxHeartbeats 4000000 in
set_option maxRecDepth 100000 in
/-- Labels.vertexOnPath -/
theorem c_vopNone (l : Launch) (dG : va_G) (cI cJ : ClassId) (lb aR aV aH aD aP : Nat) (rk vb : Nat → Int32) (rc : Int32) (hs : Nat → Int64) (D Pp : Nat → Int32) (L P : Nat → Nat → Option Nat) (hR : RepL L P hs D Pp) (hB : LBd L (2 ^ 30)) (u v pl : Nat) (hu : u < 48) (hv : v < 48) (hpl : pl < 2 ^ 31) (hm : mr L u v 48 = none) : Met l yX1_vertexOnPath wsX1_vertexOnPath ({ frames := 4, cells := 0, slots := 0, locals := 91 } : Room) (RPc dG cI cJ [.ref lb, .int (nI u), .int (nI v), .int (nI pl)] (LW cI cJ lb aR aV aH aD aP rk vb rc hs D Pp)) (vp_Si (fun r9 => r9 = (-1))) 0 0 (fun _ => False) := by
  refine Met.ofW (cc := cX1_vertexOnPath) (maxL := 7) (ret := (some .int)) (by decide) rfl ?_
  intro p e s m args below meth c s₁ B9 hml hv
  obtain ⟨rfl, hP, hK⟩ := hv
  have hx := B9.exec
  have hb := B9.bytes
  have hr := B9.returns
  have hts := atoms_spec (ws := wsX1_vertexOnPath) B9.pre
  have hown : s.vm.findClass RX1 = some m.cls := findClass_of_methodNamed B9.named
  have hlocks := B9.notSynchronized
  have hl := lv_entry ([.ref lb, .int (nI u), .int (nI v), .int (nI pl)]) (n := 7) (Nat.le_of_ble_eq_true rfl)
  rw [lg_entry_eq]
  generalize (lg_sl ([.ref lb, .int (nI u), .int (nI v), .int (nI pl)]) ++ List.replicate (7 - (lg_sl ([.ref lb, .int (nI u), .int (nI v), .int (nI pl)])).length) Slot.unset).toArray = ls at hl ⊢
  have hl : lv_has ls 7 [(0, .ref lb), (1, .int (nI u)), (2, .int (nI v)), (3, .int (nI pl))] := hl
  refine lv_aload_n hx hb dX1_vertexOnPath_0 rfl (lv_at hl 0 rfl) ?_
  refine lv_iload_n hx hb dX1_vertexOnPath_1 rfl (lv_at hl 1 rfl) ?_
  refine lv_iload_n hx hb dX1_vertexOnPath_2 rfl (lv_at hl 2 rfl) ?_
  have hPc := hP.sub (ws' := (LW cI cJ lb aR aV aH aD aP rk vb rc hs D Pp)) [0, 1, 2, 3, 4, 5] rfl
  refine x_ri (W.runV (As := [.int (nI u), .int (nI v)]) (rest := []) ⟨hx, hb, hml, hown, hts⟩ (c_meetingRank l dG cI cJ lb aR aV aH aD aP rk vb rc hs D Pp L P hR hB u v hu hv) (cwV 2 hts gX1_vertexOnPath_X1_meetingRank rfl rfl rfl (by decide +kernel) ⟨Nat.le_of_ble_eq_true rfl, Nat.le_of_ble_eq_true rfl⟩) (RPc.pre hPc hK (va_recv hK.1 hPc (ci := 1) (q0 := 0) rfl rfl)) rfl rfl hl.1 rfl (lv_room (Nat.le_of_ble_eq_true rfl)) dX1_vertexOnPath_3 ⟨Nat.zero_le _, Nat.zero_le _⟩) ?_
  rw [hm]
  refine lv_istore (lv' := [(4, .int (-1)), (0, .ref lb), (1, .int (nI u)), (2, .int (nI v)), (3, .int (nI pl))]) hx hb dX1_vertexOnPath_6 hl (by decide) rfl (fun ls hl => ?_)
  refine lv_iload hx hb dX1_vertexOnPath_8 (lv_at hl 0 rfl) ?_
  refine lv_iconst (v := (-1)) hx hb dX1_vertexOnPath_10 (by decide) ?_
  refine x_neM_M (tgt := 16) hx hb dX1_vertexOnPath_11 (by decide) ?_
  refine lv_iconst (v := (-1)) hx hb dX1_vertexOnPath_14 (by decide) ?_
  exact W.iret (v := (-1)) hx hb hr (fun t ht hW => ⟨_, rfl, rfl, ht⟩) (fun _ h => nomatch h) dX1_vertexOnPath_15

set_option maxHeartbeats 4000000 in
set_option maxRecDepth 100000 in
/-- Labels.vertexOnPath -/
theorem c_vop (l : Launch) (dG : va_G) (cI cJ : ClassId) (lb aR aV aH aD aP : Nat) (rk vb : Nat → Int32) (rc : Int32) (hs : Nat → Int64) (D Pp : Nat → Int32) (L P : Nat → Nat → Option Nat) (hR : RepL L P hs D Pp) (hB : LBd L (2 ^ 30)) (u v pl : Nat) (hu : u < 48) (hv : v < 48) (hpl : pl < 2 ^ 31) (r h tu tv : Nat) (hm : mr L u v 48 = some r) (hr0 : r < 48) (hh : h < 48) (eh : vb r = nI h) (htu : tu < 48) (htv : tv < 48) (hCu : Chain L P r h u tu) (hCv : Chain L P r h v tv) : Met l yX1_vertexOnPath wsX1_vertexOnPath ({ frames := 4, cells := 0, slots := 0, locals := 91 } : Room) (RPc dG cI cJ [.ref lb, .int (nI u), .int (nI v), .int (nI pl)] (LW cI cJ lb aR aV aH aD aP rk vb rc hs D Pp)) (vp_Si (fun r9 => r9 = (if tu + tv < pl then -1 else if pl ≤ tu then nI (cl P r u pl) else nI (cl P r v (tu + tv - pl))))) 0 0 (fun _ => False) := by
  refine Met.ofW (cc := cX1_vertexOnPath) (maxL := 7) (ret := (some .int)) (by decide) rfl ?_
  intro p e s m args below meth c s₁ B9 hml hv
  obtain ⟨rfl, hP, hK⟩ := hv
  have hx := B9.exec
  have hb := B9.bytes
  have hr := B9.returns
  have hts := atoms_spec (ws := wsX1_vertexOnPath) B9.pre
  have hown : s.vm.findClass RX1 = some m.cls := findClass_of_methodNamed B9.named
  have hlocks := B9.notSynchronized
  have hl := lv_entry ([.ref lb, .int (nI u), .int (nI v), .int (nI pl)]) (n := 7) (Nat.le_of_ble_eq_true rfl)
  rw [lg_entry_eq]
  generalize (lg_sl ([.ref lb, .int (nI u), .int (nI v), .int (nI pl)]) ++ List.replicate (7 - (lg_sl ([.ref lb, .int (nI u), .int (nI v), .int (nI pl)])).length) Slot.unset).toArray = ls at hl ⊢
  have hl : lv_has ls 7 [(0, .ref lb), (1, .int (nI u)), (2, .int (nI v)), (3, .int (nI pl))] := hl
  refine lv_aload_n hx hb dX1_vertexOnPath_0 rfl (lv_at hl 0 rfl) ?_
  refine lv_iload_n hx hb dX1_vertexOnPath_1 rfl (lv_at hl 1 rfl) ?_
  refine lv_iload_n hx hb dX1_vertexOnPath_2 rfl (lv_at hl 2 rfl) ?_
  have hPc := hP.sub (ws' := (LW cI cJ lb aR aV aH aD aP rk vb rc hs D Pp)) [0, 1, 2, 3, 4, 5] rfl
  refine x_ri (W.runV (As := [.int (nI u), .int (nI v)]) (rest := []) ⟨hx, hb, hml, hown, hts⟩ (c_meetingRank l dG cI cJ lb aR aV aH aD aP rk vb rc hs D Pp L P hR hB u v hu hv) (cwV 2 hts gX1_vertexOnPath_X1_meetingRank rfl rfl rfl (by decide +kernel) ⟨Nat.le_of_ble_eq_true rfl, Nat.le_of_ble_eq_true rfl⟩) (RPc.pre hPc hK (va_recv hK.1 hPc (ci := 1) (q0 := 0) rfl rfl)) rfl rfl hl.1 rfl (lv_room (Nat.le_of_ble_eq_true rfl)) dX1_vertexOnPath_3 ⟨Nat.zero_le _, Nat.zero_le _⟩) ?_
  rw [hm]
  show W _ _ _ _ _ _ _ _ _ _ _ _ _ _ _ (F0 m 6 ls [.int (nI r)])
  refine lv_istore (lv' := [(4, .int (nI r)), (0, .ref lb), (1, .int (nI u)), (2, .int (nI v)), (3, .int (nI pl))]) hx hb dX1_vertexOnPath_6 hl (by decide) rfl (fun ls hl => ?_)
  refine lv_iload hx hb dX1_vertexOnPath_8 (lv_at hl 0 rfl) ?_
  refine lv_iconst (v := (-1)) hx hb dX1_vertexOnPath_10 (by decide) ?_
  refine x_neM_N (tgt := 16) hx hb (by omega) dX1_vertexOnPath_11 (by decide) ?_
  refine lv_aload_n hx hb dX1_vertexOnPath_16 rfl (lv_at hl 1 rfl) ?_
  refine lv_iload hx hb dX1_vertexOnPath_17 (lv_at hl 0 rfl) ?_
  refine lv_iload_n hx hb dX1_vertexOnPath_19 rfl (lv_at hl 2 rfl) ?_
  have hPc := hP.sub (ws' := (LW cI cJ lb aR aV aH aD aP rk vb rc hs D Pp)) [0, 1, 2, 3, 4, 5] rfl
  refine x_ri (W.runV (As := [.int (nI r), .int (nI u)]) (rest := []) ⟨hx, hb, hml, hown, hts⟩ (c_stepsTo l dG cI cJ lb aR aV aH aD aP rk vb rc hs D Pp L P hR r u h tu hr0 hu htu hCu hh eh) (cwV 2 hts gX1_vertexOnPath_X1_stepsTo rfl rfl rfl (by decide +kernel) ⟨Nat.le_of_ble_eq_true rfl, Nat.le_of_ble_eq_true rfl⟩) (RPc.pre hPc hK (va_recv hK.1 hPc (ci := 1) (q0 := 0) rfl rfl)) rfl rfl hl.1 rfl (lv_room (Nat.le_of_ble_eq_true rfl)) dX1_vertexOnPath_20 ⟨Nat.zero_le _, Nat.zero_le _⟩) ?_
  refine lv_istore (lv' := [(5, .int (nI tu)), (4, .int (nI r)), (0, .ref lb), (1, .int (nI u)), (2, .int (nI v)), (3, .int (nI pl))]) hx hb dX1_vertexOnPath_23 hl (by decide) rfl (fun ls hl => ?_)
  refine lv_aload_n hx hb dX1_vertexOnPath_25 rfl (lv_at hl 2 rfl) ?_
  refine lv_iload hx hb dX1_vertexOnPath_26 (lv_at hl 1 rfl) ?_
  refine lv_iload_n hx hb dX1_vertexOnPath_28 rfl (lv_at hl 4 rfl) ?_
  have hPc := hP.sub (ws' := (LW cI cJ lb aR aV aH aD aP rk vb rc hs D Pp)) [0, 1, 2, 3, 4, 5] rfl
  refine x_ri (W.runV (As := [.int (nI r), .int (nI v)]) (rest := []) ⟨hx, hb, hml, hown, hts⟩ (c_stepsTo l dG cI cJ lb aR aV aH aD aP rk vb rc hs D Pp L P hR r v h tv hr0 hv htv hCv hh eh) (cwV 2 hts gX1_vertexOnPath_X1_stepsTo rfl rfl rfl (by decide +kernel) ⟨Nat.le_of_ble_eq_true rfl, Nat.le_of_ble_eq_true rfl⟩) (RPc.pre hPc hK (va_recv hK.1 hPc (ci := 1) (q0 := 0) rfl rfl)) rfl rfl hl.1 rfl (lv_room (Nat.le_of_ble_eq_true rfl)) dX1_vertexOnPath_29 ⟨Nat.zero_le _, Nat.zero_le _⟩) ?_
  refine lv_istore (lv' := [(6, .int (nI tv)), (5, .int (nI tu)), (4, .int (nI r)), (0, .ref lb), (1, .int (nI u)), (2, .int (nI v)), (3, .int (nI pl))]) hx hb dX1_vertexOnPath_32 hl (by decide) rfl (fun ls hl => ?_)
  refine lv_iload_n hx hb dX1_vertexOnPath_34 rfl (lv_at hl 6 rfl) ?_
  refine lv_iload hx hb dX1_vertexOnPath_35 (lv_at hl 1 rfl) ?_
  refine lv_iload hx hb dX1_vertexOnPath_37 (lv_at hl 0 rfl) ?_
  refine x_addN (i := tu) (j := tv) hx hb dX1_vertexOnPath_39 ?_
  refine x_icmp_leN (i := pl) (j := (tu + tv)) (tgt := 45) hx hb (by omega) (by omega) dX1_vertexOnPath_40 (by decide) (fun c40 => ?_) (fun c40 => ?_)
  · skip
    refine lv_iload_n hx hb dX1_vertexOnPath_45 rfl (lv_at hl 6 rfl) ?_
    refine lv_iload hx hb dX1_vertexOnPath_46 (lv_at hl 1 rfl) ?_
    refine x_icmp_gtN (i := pl) (j := tu) (tgt := 62) hx hb (by omega) (by omega) dX1_vertexOnPath_48 (by decide) (fun c48 => ?_) (fun c48 => ?_)
    · skip
      refine lv_aload_n hx hb dX1_vertexOnPath_62 rfl (lv_at hl 3 rfl) ?_
      refine lv_iload hx hb dX1_vertexOnPath_63 (lv_at hl 2 rfl) ?_
      refine lv_iload_n hx hb dX1_vertexOnPath_65 rfl (lv_at hl 5 rfl) ?_
      refine lv_iload hx hb dX1_vertexOnPath_66 (lv_at hl 1 rfl) ?_
      refine lv_iload hx hb dX1_vertexOnPath_68 (lv_at hl 0 rfl) ?_
      refine x_addN (i := tu) (j := tv) hx hb dX1_vertexOnPath_70 ?_
      refine lv_iload_n hx hb dX1_vertexOnPath_71 rfl (lv_at hl 6 rfl) ?_
      refine x_subN (i := (tu + tv)) (j := pl) hx hb (by omega) dX1_vertexOnPath_72 ?_
      have hPc := hP.sub (ws' := (LW cI cJ lb aR aV aH aD aP rk vb rc hs D Pp)) [0, 1, 2, 3, 4, 5] rfl
      refine x_ri (W.runV (As := [.int (nI r), .int (nI v), .int (nI ((tu + tv) - pl))]) (rest := []) ⟨hx, hb, hml, hown, hts⟩ (c_climb l dG cI cJ lb aR aV aH aD aP rk vb rc hs D Pp L P hR r v h tv hr0 hv htv hCv (tu + tv - pl) (by omega)) (cwV 3 hts gX1_vertexOnPath_X1_climb rfl rfl rfl (by decide +kernel) ⟨Nat.le_of_ble_eq_true rfl, Nat.le_of_ble_eq_true rfl⟩) (RPc.pre hPc hK (va_recv hK.1 hPc (ci := 1) (q0 := 0) rfl rfl)) rfl rfl hl.1 rfl (lv_room (Nat.le_of_ble_eq_true rfl)) dX1_vertexOnPath_73 ⟨Nat.zero_le _, Nat.zero_le _⟩) ?_
      exact W.iret (v := (nI (cl P r v (tu + tv - pl)))) hx hb hr (fun t ht hW => ⟨_, rfl, (show (nI (cl P r v (tu + tv - pl))) = (if tu + tv < pl then -1 else if pl ≤ tu then nI (cl P r u pl) else nI (cl P r v (tu + tv - pl))) from by rw [if_neg (by omega), if_neg (by omega)]), ht⟩) (fun _ h => nomatch h) dX1_vertexOnPath_76
    · skip
      refine lv_aload_n hx hb dX1_vertexOnPath_51 rfl (lv_at hl 3 rfl) ?_
      refine lv_iload hx hb dX1_vertexOnPath_52 (lv_at hl 2 rfl) ?_
      refine lv_iload_n hx hb dX1_vertexOnPath_54 rfl (lv_at hl 4 rfl) ?_
      refine lv_iload_n hx hb dX1_vertexOnPath_55 rfl (lv_at hl 6 rfl) ?_
      have hPc := hP.sub (ws' := (LW cI cJ lb aR aV aH aD aP rk vb rc hs D Pp)) [0, 1, 2, 3, 4, 5] rfl
      refine x_ri (W.runV (As := [.int (nI r), .int (nI u), .int (nI pl)]) (rest := []) ⟨hx, hb, hml, hown, hts⟩ (c_climb l dG cI cJ lb aR aV aH aD aP rk vb rc hs D Pp L P hR r u h tu hr0 hu htu hCu pl (by omega)) (cwV 3 hts gX1_vertexOnPath_X1_climb rfl rfl rfl (by decide +kernel) ⟨Nat.le_of_ble_eq_true rfl, Nat.le_of_ble_eq_true rfl⟩) (RPc.pre hPc hK (va_recv hK.1 hPc (ci := 1) (q0 := 0) rfl rfl)) rfl rfl hl.1 rfl (lv_room (Nat.le_of_ble_eq_true rfl)) dX1_vertexOnPath_56 ⟨Nat.zero_le _, Nat.zero_le _⟩) ?_
      refine lv_goto (tgt := 76) hx hb dX1_vertexOnPath_59 (by decide) ?_
      exact W.iret (v := (nI (cl P r u pl))) hx hb hr (fun t ht hW => ⟨_, rfl, (show (nI (cl P r u pl)) = (if tu + tv < pl then -1 else if pl ≤ tu then nI (cl P r u pl) else nI (cl P r v (tu + tv - pl))) from by rw [if_neg (by omega), if_pos (by omega)]), ht⟩) (fun _ h => nomatch h) dX1_vertexOnPath_76
  · skip
    refine lv_iconst (v := (-1)) hx hb dX1_vertexOnPath_43 (by decide) ?_
    exact W.iret (v := (-1)) hx hb hr (fun t ht hW => ⟨_, rfl, (show (-1) = (if tu + tv < pl then -1 else if pl ≤ tu then nI (cl P r u pl) else nI (cl P r v (tu + tv - pl))) from by rw [if_pos (by omega)]), ht⟩) (fun _ h => nomatch h) dX1_vertexOnPath_44
end
section
/-! RANKS: by falling degrees, the same by rising numbers: how many go ahead -/
def bef (dg : Nat → Nat) (j k w : Nat) : Bool := decide (j ≤ dg w) || (decide (dg w + 1 = j) && decide (w < k))
def ahd (dg : Nat → Nat) (n v : Nat) : Nat := fb_ct (bef dg (dg v + 1) v) n
theorem bef_iff {dg : Nat → Nat} {j k w : Nat} : bef dg j k w = true ↔ (j ≤ dg w ∨ (dg w + 1 = j ∧ w < k)) := by
  unfold bef
  simp
theorem bef_no {dg : Nat → Nat} {j k w : Nat} : bef dg j k w = false ↔ ¬ (j ≤ dg w ∨ (dg w + 1 = j ∧ w < k)) := by
  rw [← bef_iff]; simp
theorem bef_eq {dg : Nat → Nat} {j k j2 k2 w : Nat} (h : (j ≤ dg w ∨ (dg w + 1 = j ∧ w < k)) ↔ (j2 ≤ dg w ∨ (dg w + 1 = j2 ∧ w < k2))) : bef dg j k w = bef dg j2 k2 w := by
  cases e : bef dg j2 k2 w with
  | true => exact bef_iff.mpr (h.mpr (bef_iff.mp e))
  | false => exact bef_no.mpr (fun q => bef_no.mp e (h.mp q))
theorem bef_self {dg : Nat → Nat} {i k : Nat} (h : dg k = i) : bef dg (i + 1) k k = false := bef_no.mpr (by omega)
theorem bef_put {dg : Nat → Nat} {i k : Nat} (h : dg k = i) (w : Nat) : bef dg (i + 1) (k + 1) w = if w = k then true else bef dg (i + 1) k w := by
  by_cases e : w = k
  · rw [if_pos e, e]; exact bef_iff.mpr (by omega)
  · rw [if_neg e]; exact bef_eq (by omega)
theorem bef_skip {dg : Nat → Nat} {i k : Nat} (h : dg k ≠ i) (w : Nat) : bef dg (i + 1) (k + 1) w = bef dg (i + 1) k w := by
  by_cases e : w = k
  · rw [e]; exact bef_eq (by omega)
  · exact bef_eq (by omega)
theorem bef_down {dg : Nat → Nat} {i n w : Nat} (h : w < n) : bef dg (i + 1) n w = bef dg i 0 w := bef_eq (by omega)
def cnt (dg : Nat → Nat) (n j k : Nat) : Nat := fb_ct (bef dg j k) n
theorem cnt_put {dg : Nat → Nat} {n i k : Nat} (h : dg k = i) (hk : k < n) : cnt dg n (i + 1) (k + 1) = cnt dg n (i + 1) k + 1 := by
  have e := fb_ct_upd (bef dg (i + 1) k) true hk
  rw [bef_self h] at e
  have e2 : cnt dg n (i + 1) (k + 1) = fb_ct (fun w => if w = k then true else bef dg (i + 1) k w) n := fb_ct_cong fun w _ => bef_put h w
  rw [e2, ← show fb_ct (bef dg (i + 1) k) n = cnt dg n (i + 1) k from rfl]
  simpa using e
theorem cnt_skip {dg : Nat → Nat} {n i k : Nat} (h : dg k ≠ i) : cnt dg n (i + 1) (k + 1) = cnt dg n (i + 1) k := fb_ct_cong fun w _ => bef_skip h w
theorem cnt_down {dg : Nat → Nat} {n i : Nat} : cnt dg n (i + 1) n = cnt dg n i 0 := fb_ct_cong fun _ h => bef_down h
theorem cnt_lt {dg : Nat → Nat} {n i k : Nat} (h : dg k = i) (hk : k < n) : cnt dg n (i + 1) k < n := by
  rcases Nat.lt_or_ge (cnt dg n (i + 1) k) n with g | g
  · exact g
  · have e : cnt dg n (i + 1) k = n := Nat.le_antisymm (fb_ct_le _ _) g
    have := fb_ct_all.mp e k hk
    rw [bef_self h] at this
    cases this
theorem cnt_0 {dg : Nat → Nat} {n : Nat} (hd : ∀ v, v < n → dg v < 48) : cnt dg n 48 0 = 0 := fb_ct_zero.mpr fun v hv => bef_no.mpr (by have := hd v hv; omega)
theorem cnt_n {dg : Nat → Nat} {n : Nat} : cnt dg n 0 0 = n := fb_ct_all.mpr fun v _ => bef_iff.mpr (Or.inl (Nat.zero_le _))
theorem ahd_eq {dg : Nat → Nat} {n i k : Nat} (h : dg k = i) : ahd dg n k = cnt dg n (i + 1) k := by rw [← h]; rfl
theorem ahd_lt {dg : Nat → Nat} {n v k : Nat} (hv : v < n) (h : bef dg (dg k + 1) k v = true) : ahd dg n v < ahd dg n k := by
  have e := fb_ct_upd (bef dg (dg v + 1) v) true hv
  rw [bef_self rfl] at e
  have e2 : fb_ct (fun w => if w = v then true else bef dg (dg v + 1) v w) n = ahd dg n v + 1 := by simpa [ahd] using e
  have hle : fb_ct (fun w => if w = v then true else bef dg (dg v + 1) v w) n ≤ ahd dg n k := by
    refine fb_ct_sub fun w hw hp => ?_
    by_cases ew : w = v
    · rw [ew]; exact h
    · rw [if_neg ew] at hp
      have h1 := bef_iff.mp h
      have h2 := bef_iff.mp hp
      exact bef_iff.mpr (by omega)
  omega
theorem ahd_n {dg : Nat → Nat} {n v : Nat} (hv : v < n) : ahd dg n v < n := by rw [ahd_eq rfl]; exact cnt_lt rfl hv
theorem ahd_inj {dg : Nat → Nat} {n v k : Nat} (hv : v < n) (hk : k < n) (h : ahd dg n v = ahd dg n k) : v = k := by
  rcases Nat.lt_trichotomy v k with g | g | g
  · rcases Nat.lt_or_ge (dg v) (dg k) with q | q
    · have := ahd_lt (dg := dg) hk (k := v) (bef_iff.mpr (by omega)); omega
    · have := ahd_lt (dg := dg) hv (k := k) (bef_iff.mpr (by omega)); omega
  · exact g
  · rcases Nat.lt_or_ge (dg k) (dg v) with q | q
    · have := ahd_lt (dg := dg) hv (k := k) (bef_iff.mpr (by omega)); omega
    · have := ahd_lt (dg := dg) hk (k := v) (bef_iff.mpr (by omega)); omega
/-- what is ranked so far stands in both rows -/
def RI (dg : Nat → Nat) (n j k : Nat) (rk vb : Nat → Int32) : Prop := ∀ v, v < n → bef dg j k v = true → rk v = nI (ahd dg n v) ∧ vb (ahd dg n v) = nI v
theorem RI.start {dg : Nat → Nat} {n : Nat} {rk vb : Nat → Int32} (hd : ∀ v, v < n → dg v < 48) : RI dg n 48 0 rk vb := fun v hv h => by
  have h1 := bef_iff.mp h
  have h2 := hd v hv
  omega
theorem RI.put {dg : Nat → Nat} {n i k : Nat} {rk vb : Nat → Int32} (h : RI dg n (i + 1) k rk vb) (hk : k < n) (hd : dg k = i) : RI dg n (i + 1) (k + 1) (upd rk k (nI (cnt dg n (i + 1) k))) (upd vb (cnt dg n (i + 1) k) (nI k)) := by
  intro v hv hb
  rw [← ahd_eq hd]
  by_cases e : v = k
  · subst e
    exact ⟨if_pos rfl, if_pos rfl⟩
  · rw [bef_put hd, if_neg e] at hb
    have h0 := h v hv hb
    have h1 : ahd dg n v < ahd dg n k := ahd_lt hv (by rw [hd]; exact hb)
    exact ⟨by rw [← h0.1]; exact if_neg e, by rw [← h0.2]; exact if_neg (by omega)⟩
theorem RI.skip {dg : Nat → Nat} {n i k : Nat} {rk vb : Nat → Int32} (h : RI dg n (i + 1) k rk vb) (hd : dg k ≠ i) : RI dg n (i + 1) (k + 1) rk vb := fun v hv hb => h v hv (by rw [← bef_skip hd]; exact hb)
theorem RI.down {dg : Nat → Nat} {n i : Nat} {rk vb : Nat → Int32} (h : RI dg n (i + 1) n rk vb) : RI dg n i 0 rk vb := fun v hv hb => h v hv (by rw [bef_down hv]; exact hb)
theorem RI.all {dg : Nat → Nat} {n : Nat} {rk vb : Nat → Int32} (h : RI dg n 0 0 rk vb) : ∀ v, v < n → rk v = nI (ahd dg n v) ∧ vb (ahd dg n v) = nI v := fun v hv => h v hv (bef_iff.mpr (Or.inl (Nat.zero_le _)))
/-- a number that counts down to -1 -/
def dI (j : Nat) : Int32 := nI j + (-1)
theorem dI_0 : dI 0 = -1 := by decide
theorem dI_s (j : Nat) : dI (j + 1) = nI j := pk_m1 j
theorem dI_i (i : Nat) : nI i + Int32.ofInt (-1) = dI i := congrArg (nI i + ·) (by decide)
theorem RepL.put {L P : Nat → Nat → Option Nat} {hs : Nat → Int64} {D Pp : Nat → Int32} (h : RepL L P hs D Pp) {v r d : Nat} {p : Option Nat} (hv : v < 48) (hr : r < 48) :
    RepL (up2 L v r (some d)) (up2 P v r p) (vp_updL hs v (hs v ||| ((1 : Int64) <<< ((nI r).toInt64 &&& 63)))) (upd D (v * 48 + r) (nI d)) (upd Pp (v * 48 + r) (eN p)) := by
  obtain ⟨h1, h2, h3⟩ := h
  refine ⟨fun v' r' hv' hr' => ?_, fun v' r' d' hv' hr' e => ?_, fun v' k hv' hk => ?_⟩
  · by_cases e : v' = v
    · subst e
      rw [pk_uLs]
      rw [gb_set _ (by omega) (by omega), h1 v' r' hv' hr']
      by_cases e2 : r' = r
      · subst e2; simp [up2]
      · simp [up2, e2]
    · rw [pk_uLn e, h1 v' r' hv' hr']
      simp [up2, e]
  · by_cases e1 : v' = v ∧ r' = r
    · obtain ⟨rfl, rfl⟩ := e1
      have e0 : d = d' := by simpa [up2] using e
      subst e0
      exact ⟨pk_us, by rw [pk_us]; simp [up2]⟩
    · have hne : v' * 48 + r' ≠ v * 48 + r := fun q => e1 (by omega)
      have e0 : L v' r' = some d' := by simpa [up2, e1] using e
      have := h2 v' r' d' hv' hr' e0
      exact ⟨by rw [pk_un hne]; exact this.1, by rw [pk_un hne]; simpa [up2, e1] using this.2⟩
  · by_cases e : v' = v
    · subst e
      rw [pk_uLs]
      rcases Nat.lt_or_ge k 64 with g | g
      · rw [gb_set _ (by omega) g, h3 v' k hv' hk]
        simp; omega
      · exact gb_big g
    · rw [pk_uLn e]; exact h3 v' k hv' hk
theorem RepL.zero {P : Nat → Nat → Option Nat} {hs : Nat → Int64} {D Pp : Nat → Int32} (h : ∀ v, v < 48 → hs v = 0) : RepL (fun _ _ => none) P hs D Pp := by
  refine ⟨fun v r hv _ => ?_, fun v r d _ _ e => ?_, fun v k hv _ => ?_⟩
  · rw [h v hv, gb_0]; rfl
  · cases e
  · rw [h v hv, gb_0]
end
section
/-! Labels: what writes -/
set_option maxHeartbeats 4000000 in
set_option maxRecDepth 100000 in
/-- Labels.rankNext -/
theorem c_rankNext (l : Launch) (dG : va_G) (cI cJ : ClassId) (A : Nat → Prop) (lb aR aV aH aD aP : Nat) (rk vb : Nat → Int32) (hs : Nat → Int64) (D Pp : Nat → Int32) (v k : Nat) (hv : v < 48) (hk : k < 48) (X : va_W) : Met l yX1_rankNext wsX1_rankNext ({ frames := 1, cells := 0, slots := 0, locals := 20 } : Room) (WPc dG cI cJ [.ref lb, .int (nI v)] (LW cI cJ lb aR aV aH aD aP rk vb (nI k) hs D Pp ++ X) A) (va_Qv (S := Unit) (fun _ => True) (fun _ => WB dG A (LW cI cJ lb aR aV aH aD aP (upd rk v (nI k)) (upd vb k (nI v)) (nI (k + 1)) hs D Pp ++ X)) A) 0 0 A := by
  refine Met.ofW (cc := cX1_rankNext) (maxL := 2) (ret := none) (by decide) rfl ?_
  intro p e s m args below meth c s₁ B9 hml hv
  obtain ⟨rfl, hP, hK, hD⟩ := hv
  have hx := B9.exec
  have hb := B9.bytes
  have hr := B9.returns
  have hts := atoms_spec (ws := wsX1_rankNext) B9.pre
  have hown : s.vm.findClass RX1 = some m.cls := findClass_of_methodNamed B9.named
  have hlocks := B9.notSynchronized
  have hS : va_S A s.heap s.heap [] := va_S.rf
  have hl := lv_entry ([.ref lb, .int (nI v)]) (n := 2) (Nat.le_of_ble_eq_true rfl)
  rw [lg_entry_eq]
  generalize (lg_sl ([.ref lb, .int (nI v)]) ++ List.replicate (2 - (lg_sl ([.ref lb, .int (nI v)])).length) Slot.unset).toArray = ls at hl ⊢
  have hl : lv_has ls 2 [(0, .ref lb), (1, .int (nI v))] := hl
  have hiX1 : ∀ w ∈ wsX10, w ∈ wsX1_rankNext := by decide +kernel
  have hf9 := hts (.fieldLink RX1 9 "LandmarkLea$Labels" "ranks" "[I") (by decide +kernel)
  have hf15 := hts (.fieldLink RX1 15 "LandmarkLea$Labels" "verticesByRank" "[I") (by decide +kernel)
  have hf18 := hts (.fieldLink RX1 18 "LandmarkLea$Labels" "rankedCount" "I") (by decide +kernel)
  refine lv_iload_n hx hb dX1_rankNext_0 rfl (lv_at hl 1 rfl) ?_
  have hPc : va_P dG vwCl [] s.heap := fun k q h => by simp at h
  refine x_ri (va_runSN (As := [.int (nI v)]) (rest := []) ⟨hx, hb, hml, hown, hts⟩ (c_isRow l dG cI cJ v (by omega)) ⟨va_cnB 1 hts gX1_rankNext_X3_isRow_n46 rfl rfl rfl hK.2.2.2.1 (hts (.initialized RX3) (by decide +kernel)) (by decide +kernel) ⟨Nat.le_of_ble_eq_true rfl, Nat.le_of_ble_eq_true rfl⟩, hts (.static yX3_isRow) (by decide +kernel), trivial⟩ (RPc.preS hPc hK) rfl rfl hl.1 rfl (lv_room (Nat.le_of_ble_eq_true rfl)) dX1_rankNext_1 ⟨Nat.zero_le _, Nat.zero_le _⟩).run ?_
  refine x_ifeqB (tgt := 47) hx hb dX1_rankNext_4 (by decide) (fun c4 => ?_) (fun c4 => ?_)
  · skip
    exact absurd hv (of_decide_eq_false c4)
  · skip
    refine lv_aload_n hx hb dX1_rankNext_7 rfl (lv_at hl 0 rfl) ?_
    refine va_get (D := dG) (ci := 1) (v := .int (nI k)) (C := RX1) (T := TX1) (N := 6) hx hb hts hiX1 hown hK.1 hP 0 rfl rfl 2 (by decide) hf18 (fun _ h9 => h9) rfl dX1_rankNext_8 ?_
    have hPc : va_P dG vwCl [] s.heap := fun k q h => by simp at h
    refine x_ri (va_runSN (As := [.int (nI k)]) (rest := []) ⟨hx, hb, hml, hown, hts⟩ (c_isRow l dG cI cJ k (by omega)) ⟨va_cnB 1 hts gX1_rankNext_X3_isRow_n46 rfl rfl rfl hK.2.2.2.1 (hts (.initialized RX3) (by decide +kernel)) (by decide +kernel) ⟨Nat.le_of_ble_eq_true rfl, Nat.le_of_ble_eq_true rfl⟩, hts (.static yX3_isRow) (by decide +kernel), trivial⟩ (RPc.preS hPc hK) rfl rfl hl.1 rfl (lv_room (Nat.le_of_ble_eq_true rfl)) dX1_rankNext_11 ⟨Nat.zero_le _, Nat.zero_le _⟩).run ?_
    refine x_ifeqB (tgt := 47) hx hb dX1_rankNext_14 (by decide) (fun c14 => ?_) (fun c14 => ?_)
    · skip
      exact absurd hk (of_decide_eq_false c14)
    · skip
      refine lv_aload_n hx hb dX1_rankNext_17 rfl (lv_at hl 0 rfl) ?_
      refine va_get (D := dG) (ci := 1) (v := .ref aR) (C := RX1) (T := TX1) (N := 6) hx hb hts hiX1 hown hK.1 hP 0 rfl rfl 0 (by decide) hf9 (fun _ h9 => h9) rfl dX1_rankNext_18 ?_
      refine lv_iload_n hx hb dX1_rankNext_21 rfl (lv_at hl 1 rfl) ?_
      refine lv_aload_n hx hb dX1_rankNext_22 rfl (lv_at hl 0 rfl) ?_
      refine va_get (D := dG) (ci := 1) (v := .int (nI k)) (C := RX1) (T := TX1) (N := 6) hx hb hts hiX1 hown hK.1 hP 0 rfl rfl 2 (by decide) hf18 (fun _ h9 => h9) rfl dX1_rankNext_23 ?_
      refine x_iast (f := rk) hx hb hK hP hD hS 1 rfl (by omega) (by decide) dX1_rankNext_26 (fun H locs hP hD hS => ?_)
      have hP : va_P dG vwCl (LW cI cJ lb aR aV aH aD aP (upd rk v (nI k)) vb (nI k) hs D Pp ++ X) H := hP
      have hD : va_D A (LW cI cJ lb aR aV aH aD aP (upd rk v (nI k)) vb (nI k) hs D Pp ++ X) := hD
      refine lv_aload_n hx hb dX1_rankNext_27 rfl (lv_at hl 0 rfl) ?_
      refine va_get (D := dG) (ci := 1) (v := .ref aV) (C := RX1) (T := TX1) (N := 6) hx hb hts hiX1 hown hK.1 hP 0 rfl rfl 1 (by decide) hf15 (fun _ h9 => h9) rfl dX1_rankNext_28 ?_
      refine lv_aload_n hx hb dX1_rankNext_31 rfl (lv_at hl 0 rfl) ?_
      refine va_get (D := dG) (ci := 1) (v := .int (nI k)) (C := RX1) (T := TX1) (N := 6) hx hb hts hiX1 hown hK.1 hP 0 rfl rfl 2 (by decide) hf18 (fun _ h9 => h9) rfl dX1_rankNext_32 ?_
      refine lv_iload_n hx hb dX1_rankNext_35 rfl (lv_at hl 1 rfl) ?_
      refine x_iast (f := vb) hx hb hK hP hD hS 2 rfl (by omega) (by decide) dX1_rankNext_36 (fun H locs hP hD hS => ?_)
      have hP : va_P dG vwCl (LW cI cJ lb aR aV aH aD aP (upd rk v (nI k)) (upd vb k (nI v)) (nI k) hs D Pp ++ X) H := hP
      have hD : va_D A (LW cI cJ lb aR aV aH aD aP (upd rk v (nI k)) (upd vb k (nI v)) (nI k) hs D Pp ++ X) := hD
      refine lv_aload_n hx hb dX1_rankNext_37 rfl (lv_at hl 0 rfl) ?_
      refine lv_dup hx hb dX1_rankNext_38 rfl ?_
      refine va_get (D := dG) (ci := 1) (v := .int (nI k)) (C := RX1) (T := TX1) (N := 6) hx hb hts hiX1 hown hK.1 hP 0 rfl rfl 2 (by decide) hf18 (fun _ h9 => h9) rfl dX1_rankNext_39 ?_
      refine lv_iconst (v := (nI 1)) hx hb dX1_rankNext_42 (by decide) ?_
      refine x_addN (i := k) (j := 1) hx hb dX1_rankNext_43 ?_
      refine va_put (D := dG) (ci := 1) (v := .int (nI (k + 1))) (ty := .int) (C := RX1) (T := TX1) (N := 6) hx hb hts hiX1 tyX1 tyX1_ok nmX1 hown hK.1 hP hD hS 0 rfl rfl 2 (by decide) hf18 (fun _ h9 => h9) rfl (by decide +kernel) rfl rfl (Nat.le_of_ble_eq_true rfl) dX1_rankNext_44 (fun H locs hP hD hS => ?_)
      have hP : va_P dG vwCl (LW cI cJ lb aR aV aH aD aP (upd rk v (nI k)) (upd vb k (nI v)) (nI (k + 1)) hs D Pp ++ X) H := hP
      have hD : va_D A (LW cI cJ lb aR aV aH aD aP (upd rk v (nI k)) (upd vb k (nI v)) (nI (k + 1)) hs D Pp ++ X) := hD
      exact W.vret hx hb hr (fun t ht hW => ⟨⟨(), rfl, trivial, by rw [ht]; exact hP, hD⟩, hS.F ht⟩) hS.2.2 dX1_rankNext_47

set_option maxHeartbeats 4000000 in
set_option maxRecDepth 100000 in
/-- Labels.put -/
theorem c_put (l : Launch) (dG : va_G) (cI cJ : ClassId) (A : Nat → Prop) (lb aR aV aH aD aP : Nat) (rk vb : Nat → Int32) (rc : Int32) (hs : Nat → Int64) (D Pp : Nat → Int32) (r v d : Nat) (p0 : Option Nat) (hr0 : r < 48) (hv : v < 48) (X : va_W) : Met l yX1_put wsX1_put ({ frames := 1, cells := 0, slots := 0, locals := 20 } : Room) (WPc dG cI cJ [.ref lb, .int (nI r), .int (nI v), .int (nI d), .int (eN p0)] (LW cI cJ lb aR aV aH aD aP rk vb rc hs D Pp ++ X) A) (va_Qv (S := Unit) (fun _ => True) (fun _ => WB dG A (LW cI cJ lb aR aV aH aD aP rk vb rc (vp_updL hs v (hs v ||| ((1 : Int64) <<< ((nI r).toInt64 &&& 63)))) (upd D (v * 48 + r) (nI d)) (upd Pp (v * 48 + r) (eN p0)) ++ X)) A) 0 0 A := by
  refine Met.ofW (cc := cX1_put) (maxL := 5) (ret := none) (by decide) rfl ?_
  intro p e s m args below meth c s₁ B9 hml hv
  obtain ⟨rfl, hP, hK, hD⟩ := hv
  have hx := B9.exec
  have hb := B9.bytes
  have hr := B9.returns
  have hts := atoms_spec (ws := wsX1_put) B9.pre
  have hown : s.vm.findClass RX1 = some m.cls := findClass_of_methodNamed B9.named
  have hlocks := B9.notSynchronized
  have hS : va_S A s.heap s.heap [] := va_S.rf
  have hl := lv_entry ([.ref lb, .int (nI r), .int (nI v), .int (nI d), .int (eN p0)]) (n := 5) (Nat.le_of_ble_eq_true rfl)
  rw [lg_entry_eq]
  generalize (lg_sl ([.ref lb, .int (nI r), .int (nI v), .int (nI d), .int (eN p0)]) ++ List.replicate (5 - (lg_sl ([.ref lb, .int (nI r), .int (nI v), .int (nI d), .int (eN p0)])).length) Slot.unset).toArray = ls at hl ⊢
  have hl : lv_has ls 5 [(0, .ref lb), (1, .int (nI r)), (2, .int (nI v)), (3, .int (nI d)), (4, .int (eN p0))] := hl
  have hiX1 : ∀ w ∈ wsX10, w ∈ wsX1_put := by decide +kernel
  have hf22 := hts (.fieldLink RX1 22 "LandmarkLea$Labels" "hubSets" "[J") (by decide +kernel)
  have hf26 := hts (.fieldLink RX1 26 "LandmarkLea$Labels" "distances" "[I") (by decide +kernel)
  have hf29 := hts (.fieldLink RX1 29 "LandmarkLea$Labels" "parents" "[I") (by decide +kernel)
  refine lv_iload_n hx hb dX1_put_0 rfl (lv_at hl 1 rfl) ?_
  have hPc : va_P dG vwCl [] s.heap := fun k q h => by simp at h
  refine x_ri (va_runSN (As := [.int (nI r)]) (rest := []) ⟨hx, hb, hml, hown, hts⟩ (c_isRow l dG cI cJ r (by omega)) ⟨va_cnB 1 hts gX1_put_X3_isRow_n46 rfl rfl rfl hK.2.2.2.1 (hts (.initialized RX3) (by decide +kernel)) (by decide +kernel) ⟨Nat.le_of_ble_eq_true rfl, Nat.le_of_ble_eq_true rfl⟩, hts (.static yX3_isRow) (by decide +kernel), trivial⟩ (RPc.preS hPc hK) rfl rfl hl.1 rfl (lv_room (Nat.le_of_ble_eq_true rfl)) dX1_put_1 ⟨Nat.zero_le _, Nat.zero_le _⟩).run ?_
  refine x_ifeqB (tgt := 51) hx hb dX1_put_4 (by decide) (fun c4 => ?_) (fun c4 => ?_)
  · skip
    exact absurd hr0 (of_decide_eq_false c4)
  · skip
    refine lv_iload_n hx hb dX1_put_7 rfl (lv_at hl 2 rfl) ?_
    have hPc : va_P dG vwCl [] s.heap := fun k q h => by simp at h
    refine x_ri (va_runSN (As := [.int (nI v)]) (rest := []) ⟨hx, hb, hml, hown, hts⟩ (c_isRow l dG cI cJ v (by omega)) ⟨va_cnB 1 hts gX1_put_X3_isRow_n46 rfl rfl rfl hK.2.2.2.1 (hts (.initialized RX3) (by decide +kernel)) (by decide +kernel) ⟨Nat.le_of_ble_eq_true rfl, Nat.le_of_ble_eq_true rfl⟩, hts (.static yX3_isRow) (by decide +kernel), trivial⟩ (RPc.preS hPc hK) rfl rfl hl.1 rfl (lv_room (Nat.le_of_ble_eq_true rfl)) dX1_put_8 ⟨Nat.zero_le _, Nat.zero_le _⟩).run ?_
    refine x_ifeqB (tgt := 51) hx hb dX1_put_11 (by decide) (fun c11 => ?_) (fun c11 => ?_)
    · skip
      exact absurd hv (of_decide_eq_false c11)
    · skip
      refine lv_aload_n hx hb dX1_put_14 rfl (lv_at hl 0 rfl) ?_
      refine va_get (D := dG) (ci := 1) (v := .ref aH) (C := RX1) (T := TX1) (N := 6) hx hb hts hiX1 hown hK.1 hP 0 rfl rfl 3 (by decide) hf22 (fun _ h9 => h9) rfl dX1_put_15 ?_
      refine lv_iload_n hx hb dX1_put_18 rfl (lv_at hl 2 rfl) ?_
      refine lv_dup2_11 hx hb dX1_put_19 rfl rfl ?_
      refine x_lald (f := hs) hx hb hK hP 3 rfl (by omega) (by decide) dX1_put_20 ?_
      refine lv_lconst (v := 1) hx hb dX1_put_21 rfl ?_
      refine lv_iload_n hx hb dX1_put_22 rfl (lv_at hl 1 rfl) ?_
      refine lv_lshl (v := (1 <<< ((nI r).toInt64 &&& 63))) hx hb dX1_put_23 rfl ?_
      refine lv_lor hx hb dX1_put_24 ?_
      refine x_last (f := hs) hx hb hK hP hD hS 3 rfl (by omega) (by decide) dX1_put_25 (fun H locs hP hD hS => ?_)
      have hP : va_P dG vwCl (LW cI cJ lb aR aV aH aD aP rk vb rc (vp_updL hs v ((hs v) ||| (1 <<< ((nI r).toInt64 &&& 63)))) D Pp ++ X) H := hP
      have hD : va_D A (LW cI cJ lb aR aV aH aD aP rk vb rc (vp_updL hs v ((hs v) ||| (1 <<< ((nI r).toInt64 &&& 63)))) D Pp ++ X) := hD
      refine lv_aload_n hx hb dX1_put_26 rfl (lv_at hl 0 rfl) ?_
      refine va_get (D := dG) (ci := 1) (v := .ref aD) (C := RX1) (T := TX1) (N := 6) hx hb hts hiX1 hown hK.1 hP 0 rfl rfl 4 (by decide) hf26 (fun _ h9 => h9) rfl dX1_put_27 ?_
      refine lv_iload_n hx hb dX1_put_30 rfl (lv_at hl 2 rfl) ?_
      refine lv_bipush (v := (nI 48)) hx hb dX1_put_31 (by decide) ?_
      refine x_mulN (i := v) (j := 48) hx hb dX1_put_33 ?_
      refine lv_iload_n hx hb dX1_put_34 rfl (lv_at hl 1 rfl) ?_
      refine x_addN (i := (v * 48)) (j := r) hx hb dX1_put_35 ?_
      refine lv_iload_n hx hb dX1_put_36 rfl (lv_at hl 3 rfl) ?_
      refine x_iast (f := D) hx hb hK hP hD hS 4 rfl (by omega) (by decide) dX1_put_37 (fun H locs hP hD hS => ?_)
      have hP : va_P dG vwCl (LW cI cJ lb aR aV aH aD aP rk vb rc (vp_updL hs v ((hs v) ||| (1 <<< ((nI r).toInt64 &&& 63)))) (upd D ((v * 48) + r) (nI d)) Pp ++ X) H := hP
      have hD : va_D A (LW cI cJ lb aR aV aH aD aP rk vb rc (vp_updL hs v ((hs v) ||| (1 <<< ((nI r).toInt64 &&& 63)))) (upd D ((v * 48) + r) (nI d)) Pp ++ X) := hD
      refine lv_aload_n hx hb dX1_put_38 rfl (lv_at hl 0 rfl) ?_
      refine va_get (D := dG) (ci := 1) (v := .ref aP) (C := RX1) (T := TX1) (N := 6) hx hb hts hiX1 hown hK.1 hP 0 rfl rfl 5 (by decide) hf29 (fun _ h9 => h9) rfl dX1_put_39 ?_
      refine lv_iload_n hx hb dX1_put_42 rfl (lv_at hl 2 rfl) ?_
      refine lv_bipush (v := (nI 48)) hx hb dX1_put_43 (by decide) ?_
      refine x_mulN (i := v) (j := 48) hx hb dX1_put_45 ?_
      refine lv_iload_n hx hb dX1_put_46 rfl (lv_at hl 1 rfl) ?_
      refine x_addN (i := (v * 48)) (j := r) hx hb dX1_put_47 ?_
      refine lv_iload hx hb dX1_put_48 (lv_at hl 4 rfl) ?_
      refine x_iast (f := Pp) hx hb hK hP hD hS 5 rfl (by omega) (by decide) dX1_put_50 (fun H locs hP hD hS => ?_)
      have hP : va_P dG vwCl (LW cI cJ lb aR aV aH aD aP rk vb rc (vp_updL hs v ((hs v) ||| (1 <<< ((nI r).toInt64 &&& 63)))) (upd D ((v * 48) + r) (nI d)) (upd Pp ((v * 48) + r) (eN p0)) ++ X) H := hP
      have hD : va_D A (LW cI cJ lb aR aV aH aD aP rk vb rc (vp_updL hs v ((hs v) ||| (1 <<< ((nI r).toInt64 &&& 63)))) (upd D ((v * 48) + r) (nI d)) (upd Pp ((v * 48) + r) (eN p0)) ++ X) := hD
      exact W.vret hx hb hr (fun t ht hW => ⟨⟨(), rfl, trivial, by rw [ht]; exact hP, hD⟩, hS.F ht⟩) hS.2.2 dX1_put_51

set_option maxHeartbeats 4000000 in
set_option maxRecDepth 100000 in
/-- Labels.forget -/
theorem c_forget (l : Launch) (dG : va_G) (cI cJ : ClassId) (A : Nat → Prop) (lb aR aV aH aD aP : Nat) (rk vb : Nat → Int32) (rc : Int32) (hs : Nat → Int64) (D Pp : Nat → Int32) (X : va_W) : Met l yX1_forget wsX1_forget ({ frames := 0, cells := 0, slots := 0, locals := 0 } : Room) (WPc dG cI cJ [.ref lb] (LW cI cJ lb aR aV aH aD aP rk vb rc hs D Pp ++ X) A) (va_Qv (S := Unit) (fun _ => True) (fun _ => WB dG A (LW cI cJ lb aR aV aH aD aP rk vb (nI 0) (cut0 hs 48) D Pp ++ X)) A) 0 0 A := by
  refine Met.ofW (cc := cX1_forget) (maxL := 2) (ret := none) (by decide) rfl ?_
  intro p e s m args below meth c s₁ B9 hml hv
  obtain ⟨rfl, hP, hK, hD⟩ := hv
  have hx := B9.exec
  have hb := B9.bytes
  have hr := B9.returns
  have hts := atoms_spec (ws := wsX1_forget) B9.pre
  have hown : s.vm.findClass RX1 = some m.cls := findClass_of_methodNamed B9.named
  have hlocks := B9.notSynchronized
  have hS : va_S A s.heap s.heap [] := va_S.rf
  have hl := lv_entry ([.ref lb]) (n := 2) (Nat.le_of_ble_eq_true rfl)
  rw [lg_entry_eq]
  generalize (lg_sl ([.ref lb]) ++ List.replicate (2 - (lg_sl ([.ref lb])).length) Slot.unset).toArray = ls at hl ⊢
  have hl : lv_has ls 2 [(0, .ref lb)] := hl
  have hiX1 : ∀ w ∈ wsX10, w ∈ wsX1_forget := by decide +kernel
  have hf18 := hts (.fieldLink RX1 18 "LandmarkLea$Labels" "rankedCount" "I") (by decide +kernel)
  have hf22 := hts (.fieldLink RX1 22 "LandmarkLea$Labels" "hubSets" "[J") (by decide +kernel)
  refine lv_aload_n hx hb dX1_forget_0 rfl (lv_at hl 0 rfl) ?_
  refine lv_iconst (v := (nI 0)) hx hb dX1_forget_1 (by decide) ?_
  refine va_put (D := dG) (ci := 1) (v := .int (nI 0)) (ty := .int) (C := RX1) (T := TX1) (N := 6) hx hb hts hiX1 tyX1 tyX1_ok nmX1 hown hK.1 hP hD hS 0 rfl rfl 2 (by decide) hf18 (fun _ h9 => h9) rfl (by decide +kernel) rfl rfl (Nat.le_of_ble_eq_true rfl) dX1_forget_2 (fun H locs hP hD hS => ?_)
  have hP : va_P dG vwCl (LW cI cJ lb aR aV aH aD aP rk vb (nI 0) hs D Pp ++ X) H := hP
  have hD : va_D A (LW cI cJ lb aR aV aH aD aP rk vb (nI 0) hs D Pp ++ X) := hD
  refine lv_iconst (v := (nI 0)) hx hb dX1_forget_5 (by decide) ?_
  refine lv_istore_n (lv' := [(1, .int (nI 0)), (0, .ref lb)]) hx hb dX1_forget_6 rfl hl (by decide) rfl (fun ls hl => ?_)
  rw [← cut0_0 hs] at hP hD
  have loop : ∀ (QQ : State → Prop) (n1 : Nat) (k : Nat), 48 < k + n1 → k ≤ 48 → (∀ (H : Heap) (locs : List Loc), va_P dG vwCl (LW cI cJ lb aR aV aH aD aP rk vb (nI 0) (cut0 hs 48) D Pp ++ X) H → va_D A (LW cI cJ lb aR aV aH aD aP rk vb (nI 0) (cut0 hs 48) D Pp ++ X) → va_S A s.heap H locs → ∀ ls : Array Slot, lv_has ls 2 [(0, .ref lb), (1, .int (nI 48))] → W p l e ({ frames := 0, cells := 0, slots := 0, locals := 0 } : Room) s m ([.ref lb] : List Value).toArray below meth c H locs 0 0 QQ (F0 m 29 ls [])) → ∀ (H : Heap) (locs : List Loc), va_P dG vwCl (LW cI cJ lb aR aV aH aD aP rk vb (nI 0) (cut0 hs k) D Pp ++ X) H → va_D A (LW cI cJ lb aR aV aH aD aP rk vb (nI 0) (cut0 hs k) D Pp ++ X) → va_S A s.heap H locs → ∀ ls : Array Slot, lv_has ls 2 [(0, .ref lb), (1, .int (nI k))] → W p l e ({ frames := 0, cells := 0, slots := 0, locals := 0 } : Room) s m ([.ref lb] : List Value).toArray below meth c H locs 0 0 QQ (F0 m 7 ls []) := by
    intro QQ n1
    induction n1 with
    | zero => intro k h1 h2; exact absurd h1 (by omega)
    | succ n1 ih =>
      intro k h1 h2 kx H locs hP hD hS ls hl
      refine lv_iload_n hx hb dX1_forget_7 rfl (lv_at hl 1 rfl) ?_
      refine lv_aload_n hx hb dX1_forget_8 rfl (lv_at hl 0 rfl) ?_
      refine va_get (D := dG) (ci := 1) (v := .ref aH) (C := RX1) (T := TX1) (N := 6) hx hb hts hiX1 hown hK.1 hP 0 rfl rfl 3 (by decide) hf22 (fun _ h9 => h9) rfl dX1_forget_9 ?_
      refine va_alen hx hb hK.1 hP 3 1 rfl rfl (v := nI 48) rfl dX1_forget_12 ?_
      refine x_icmp_geN (i := k) (j := 48) (tgt := 29) hx hb (by omega) (by omega) dX1_forget_13 (by decide) (fun c13 => ?_) (fun c13 => ?_)
      · skip
        have ek : k = 48 := by omega
        subst ek
        exact kx  H locs hP hD hS ls (lv_sub hl [0, 1] rfl)
      · skip
        refine lv_aload_n hx hb dX1_forget_16 rfl (lv_at hl 0 rfl) ?_
        refine va_get (D := dG) (ci := 1) (v := .ref aH) (C := RX1) (T := TX1) (N := 6) hx hb hts hiX1 hown hK.1 hP 0 rfl rfl 3 (by decide) hf22 (fun _ h9 => h9) rfl dX1_forget_17 ?_
        refine lv_iload_n hx hb dX1_forget_20 rfl (lv_at hl 1 rfl) ?_
        refine lv_lconst (v := 0) hx hb dX1_forget_21 rfl ?_
        refine x_last (f := (cut0 hs k)) hx hb hK hP hD hS 3 rfl (by omega) (by decide) dX1_forget_22 (fun H locs hP hD hS => ?_)
        have hP : va_P dG vwCl (LW cI cJ lb aR aV aH aD aP rk vb (nI 0) (vp_updL (cut0 hs k) k 0) D Pp ++ X) H := hP
        have hD : va_D A (LW cI cJ lb aR aV aH aD aP rk vb (nI 0) (vp_updL (cut0 hs k) k 0) D Pp ++ X) := hD
        refine x_iincN (lv' := [(1, .int (nI (k + 1))), (0, .ref lb)]) hx hb dX1_forget_23 hl (k := 1) rfl (by decide) rfl (fun ls hl => ?_)
        refine lv_goto (tgt := 7) hx hb dX1_forget_26 (by decide) ?_
        rw [cut0_s] at hP hD
        exact ih (k + 1) (by omega) (by omega) kx H locs hP hD hS ls (lv_sub hl [1, 0] rfl)
  refine loop _ 49 0 (by omega) (by omega) (fun  H locs hP hD hS ls hl => ?_) H locs hP hD hS ls (lv_sub hl [1, 0] rfl)
  exact W.vret hx hb hr (fun t ht hW => ⟨⟨(), rfl, trivial, by rw [ht]; exact hP, hD⟩, hS.F ht⟩) hS.2.2 dX1_forget_29

set_option maxHeartbeats 4000000 in
set_option maxRecDepth 100000 in
/-- Labels.rankAll: ranks by falling degrees -/
theorem c_rankAll (l : Launch) (dG : va_G) (cI cJ : ClassId) (A : Nat → Prop) (lb aR aV aH aD aP : Nat) (rk vb : Nat → Int32) (hs : Nat → Int64) (D Pp : Nat → Int32) (g gA n ec : Nat) (ns : Nat → Int64) (hn : n ≤ 48) (dg : Nat → Nat) (hdg : dg = fun v => fb_ct (gb (ns v)) 64) (hd : ∀ v, v < n → dg v < 48) (X : va_W) : Met l yX1_rankAll wsX1_rankAll ({ frames := 3, cells := 0, slots := 0, locals := 62 } : Room) (WPc dG cI cJ [.ref lb, .ref g] (LW cI cJ lb aR aV aH aD aP rk vb (nI 0) hs D Pp ++ (GW cJ g gA (nI n) (nI ec) ns ++ X)) A) (va_Qv (S := (Nat → Int32) × (Nat → Int32)) (fun u => RI dg n 0 0 u.1 u.2) (fun u => WB dG A (LW cI cJ lb aR aV aH aD aP u.1 u.2 (nI n) hs D Pp ++ (GW cJ g gA (nI n) (nI ec) ns ++ X))) A) 0 0 A := by
  refine Met.ofW (cc := cX1_rankAll) (maxL := 4) (ret := none) (by decide) rfl ?_
  intro p e s m args below meth c s₁ B9 hml hv
  obtain ⟨rfl, hP, hK, hD⟩ := hv
  have hx := B9.exec
  have hb := B9.bytes
  have hr := B9.returns
  have hts := atoms_spec (ws := wsX1_rankAll) B9.pre
  have hown : s.vm.findClass RX1 = some m.cls := findClass_of_methodNamed B9.named
  have hlocks := B9.notSynchronized
  have hS : va_S A s.heap s.heap [] := va_S.rf
  have hl := lv_entry ([.ref lb, .ref g]) (n := 4) (Nat.le_of_ble_eq_true rfl)
  rw [lg_entry_eq]
  generalize (lg_sl ([.ref lb, .ref g]) ++ List.replicate (4 - (lg_sl ([.ref lb, .ref g])).length) Slot.unset).toArray = ls at hl ⊢
  have hl : lv_has ls 4 [(0, .ref lb), (1, .ref g)] := hl
  refine lv_bipush (v := (nI 47)) hx hb dX1_rankAll_0 (by decide) ?_
  refine lv_istore_n (lv' := [(2, .int (nI 47)), (0, .ref lb), (1, .ref g)]) hx hb dX1_rankAll_2 rfl hl (by decide) rfl (fun ls hl => ?_)
  have h0 : RI dg n 48 0 rk vb := RI.start hd
  have hP : va_P dG vwCl (LW cI cJ lb aR aV aH aD aP rk vb (nI (cnt dg n 48 0)) hs D Pp ++ (GW cJ g gA (nI n) (nI ec) ns ++ X)) s.heap := by rw [cnt_0 hd]; exact hP
  have hD : va_D A (LW cI cJ lb aR aV aH aD aP rk vb (nI (cnt dg n 48 0)) hs D Pp ++ (GW cJ g gA (nI n) (nI ec) ns ++ X)) := by rw [cnt_0 hd]; exact hD
  have hl : lv_has ls 4 [(2, .int (dI 48)), (0, .ref lb), (1, .ref g)] := hl
  have outer : ∀ (QQ : State → Prop) (n1 : Nat) (j : Nat) (rk vb : Nat → Int32), j < n1 → j ≤ 48 → RI dg n j 0 rk vb → (∀ (rk vb : Nat → Int32) (_ : RI dg n 0 0 rk vb), ∀ (H : Heap) (locs : List Loc), va_P dG vwCl (LW cI cJ lb aR aV aH aD aP rk vb (nI n) hs D Pp ++ (GW cJ g gA (nI n) (nI ec) ns ++ X)) H → va_D A (LW cI cJ lb aR aV aH aD aP rk vb (nI n) hs D Pp ++ (GW cJ g gA (nI n) (nI ec) ns ++ X)) → va_S A s.heap H locs → ∀ ls : Array Slot, lv_has ls 4 [(0, .ref lb), (1, .ref g), (2, .int (dI 0))] → W p l e ({ frames := 3, cells := 0, slots := 0, locals := 62 } : Room) s m ([.ref lb, .ref g] : List Value).toArray below meth c H locs 0 0 QQ (F0 m 43 ls [])) → ∀ (H : Heap) (locs : List Loc), va_P dG vwCl (LW cI cJ lb aR aV aH aD aP rk vb (nI (cnt dg n j 0)) hs D Pp ++ (GW cJ g gA (nI n) (nI ec) ns ++ X)) H → va_D A (LW cI cJ lb aR aV aH aD aP rk vb (nI (cnt dg n j 0)) hs D Pp ++ (GW cJ g gA (nI n) (nI ec) ns ++ X)) → va_S A s.heap H locs → ∀ ls : Array Slot, lv_has ls 4 [(0, .ref lb), (1, .ref g), (2, .int (dI j))] → W p l e ({ frames := 3, cells := 0, slots := 0, locals := 62 } : Room) s m ([.ref lb, .ref g] : List Value).toArray below meth c H locs 0 0 QQ (F0 m 3 ls []) := by
    intro QQ n1
    induction n1 with
    | zero => intro j rk vb h1 h2 h3; exact absurd h1 (by omega)
    | succ n1 ih =>
      intro j rk vb h1 h2 h3 kx H locs hP hD hS ls hl
      refine lv_iload_n hx hb dX1_rankAll_3 rfl (lv_at hl 2 rfl) ?_
      rcases j with _ | i
      · skip
        refine lv_if_lt (tgt := 43) hx hb dX1_rankAll_4 (by decide) (fun _ => ?_) (fun q => absurd (by decide) q)
        rw [cnt_n] at hP hD
        exact kx (rk) (vb) (h3) H locs hP hD hS ls (lv_sub hl [0, 1, 2] rfl)
      · skip
        rw [dI_s] at hl ⊢
        refine x_ifltN (tgt := 43) hx hb (by omega) dX1_rankAll_4 (by decide) ?_
        refine lv_iconst (v := (nI 0)) hx hb dX1_rankAll_7 (by decide) ?_
        refine lv_istore_n (lv' := [(3, .int (nI 0)), (0, .ref lb), (1, .ref g), (2, .int (nI i))]) hx hb dX1_rankAll_8 rfl hl (by decide) rfl (fun ls hl => ?_)
        have inner : ∀ (QQ : State → Prop) (n1 : Nat) (k : Nat) (rk vb : Nat → Int32), n < k + n1 → k ≤ n → RI dg n (i + 1) k rk vb → (∀ (rk vb : Nat → Int32) (_ : RI dg n (i + 1) n rk vb), ∀ (H : Heap) (locs : List Loc), va_P dG vwCl (LW cI cJ lb aR aV aH aD aP rk vb (nI (cnt dg n (i + 1) n)) hs D Pp ++ (GW cJ g gA (nI n) (nI ec) ns ++ X)) H → va_D A (LW cI cJ lb aR aV aH aD aP rk vb (nI (cnt dg n (i + 1) n)) hs D Pp ++ (GW cJ g gA (nI n) (nI ec) ns ++ X)) → va_S A s.heap H locs → ∀ ls : Array Slot, lv_has ls 4 [(0, .ref lb), (1, .ref g), (2, .int (nI i)), (3, .int (nI n))] → W p l e ({ frames := 3, cells := 0, slots := 0, locals := 62 } : Room) s m ([.ref lb, .ref g] : List Value).toArray below meth c H locs 0 0 QQ (F0 m 37 ls [])) → ∀ (H : Heap) (locs : List Loc), va_P dG vwCl (LW cI cJ lb aR aV aH aD aP rk vb (nI (cnt dg n (i + 1) k)) hs D Pp ++ (GW cJ g gA (nI n) (nI ec) ns ++ X)) H → va_D A (LW cI cJ lb aR aV aH aD aP rk vb (nI (cnt dg n (i + 1) k)) hs D Pp ++ (GW cJ g gA (nI n) (nI ec) ns ++ X)) → va_S A s.heap H locs → ∀ ls : Array Slot, lv_has ls 4 [(0, .ref lb), (1, .ref g), (2, .int (nI i)), (3, .int (nI k))] → W p l e ({ frames := 3, cells := 0, slots := 0, locals := 62 } : Room) s m ([.ref lb, .ref g] : List Value).toArray below meth c H locs 0 0 QQ (F0 m 9 ls []) := by
          intro QQ n1
          induction n1 with
          | zero => intro k rk vb h1 h2 h3; exact absurd h1 (by omega)
          | succ n1 ih =>
            intro k rk vb h1 h2 h3 kx H locs hP hD hS ls hl
            refine lv_iload_n hx hb dX1_rankAll_9 rfl (lv_at hl 3 rfl) ?_
            refine lv_aload_n hx hb dX1_rankAll_10 rfl (lv_at hl 1 rfl) ?_
            have hPc := hP.sub (ws' := (GW cJ g gA (nI n) (nI ec) ns)) [6, 7] rfl
            refine x_ri (W.runV (As := []) (rest := [.int (nI k)]) ⟨hx, hb, hml, hown, hts⟩ (c_size l dG cI cJ g gA n ec ns) (cwV 0 hts gX1_rankAll_X0_size rfl rfl rfl (by decide +kernel) ⟨Nat.le_of_ble_eq_true rfl, Nat.le_of_ble_eq_true rfl⟩) (RPc.pre hPc hK (va_recv hK.1 hPc (ci := 0) (q0 := 0) rfl rfl)) rfl rfl hl.1 rfl (lv_room (Nat.le_of_ble_eq_true rfl)) dX1_rankAll_11 ⟨Nat.zero_le _, Nat.zero_le _⟩) ?_
            refine x_icmp_geN (i := k) (j := n) (tgt := 37) hx hb (by omega) (by omega) dX1_rankAll_14 (by decide) (fun c14 => ?_) (fun c14 => ?_)
            · skip
              have ek : k = n := by omega
              subst ek
              exact kx (rk) (vb) (h3) H locs hP hD hS ls (lv_sub hl [0, 1, 2, 3] rfl)
            · skip
              have hk : k < n := c14
              refine lv_aload_n hx hb dX1_rankAll_17 rfl (lv_at hl 1 rfl) ?_
              refine lv_iload_n hx hb dX1_rankAll_18 rfl (lv_at hl 3 rfl) ?_
              have hPc := hP.sub (ws' := (GW cJ g gA (nI n) (nI ec) ns)) [6, 7] rfl
              refine x_ri (W.runV (As := [.int (nI k)]) (rest := []) ⟨hx, hb, hml, hown, hts⟩ (c_degree l dG cI cJ g gA n ec ns k (by omega)) (cwV 1 hts gX1_rankAll_X0_degree rfl rfl rfl (by decide +kernel) ⟨Nat.le_of_ble_eq_true rfl, Nat.le_of_ble_eq_true rfl⟩) (RPc.pre hPc hK (va_recv hK.1 hPc (ci := 0) (q0 := 0) rfl rfl)) rfl rfl hl.1 rfl (lv_room (Nat.le_of_ble_eq_true rfl)) dX1_rankAll_19 ⟨Nat.zero_le _, Nat.zero_le _⟩) ?_
              rw [show fb_ct (gb (ns k)) 64 = dg k by rw [hdg]]
              refine lv_iload_n hx hb dX1_rankAll_22 rfl (lv_at hl 2 rfl) ?_
              refine x_icmp_neN (i := (dg k)) (j := i) (tgt := 31) hx hb (by have := hd k hk; omega) (by omega) dX1_rankAll_23 (by decide) (fun c23 => ?_) (fun c23 => ?_)
              · skip
                refine x_iincN (lv' := [(3, .int (nI (k + 1))), (0, .ref lb), (1, .ref g), (2, .int (nI i))]) hx hb dX1_rankAll_31 hl (k := 3) rfl (by decide) rfl (fun ls hl => ?_)
                refine lv_goto (tgt := 9) hx hb dX1_rankAll_34 (by decide) ?_
                rw [← cnt_skip c23] at hP hD
                exact ih (k + 1) rk vb (by omega) (by omega) (RI.skip h3 c23) kx H locs hP hD hS ls (lv_sub hl [1, 2, 3, 0] rfl)
              · skip
                refine lv_aload_n hx hb dX1_rankAll_26 rfl (lv_at hl 0 rfl) ?_
                refine lv_iload_n hx hb dX1_rankAll_27 rfl (lv_at hl 3 rfl) ?_
                have hPc : va_P dG vwCl (LW cI cJ lb aR aV aH aD aP rk vb (nI (cnt dg n (i + 1) k)) hs D Pp ++ (GW cJ g gA (nI n) (nI ec) ns ++ X)) H := hP
                have hDc : va_D A (LW cI cJ lb aR aV aH aD aP rk vb (nI (cnt dg n (i + 1) k)) hs D Pp ++ (GW cJ g gA (nI n) (nI ec) ns ++ X)) := hD
                refine va_callv (va_runV (As := [.int (nI k)]) (rest := []) ⟨hx, hb, hml, hown, hts⟩ (c_rankNext l dG cI cJ A lb aR aV aH aD aP rk vb hs D Pp k (cnt dg n (i + 1) k) (by omega) (Nat.lt_of_lt_of_le (cnt_lt c23 hk) hn) _) (cwV 1 hts gX1_rankAll_X1_rankNext rfl rfl rfl (by decide +kernel) ⟨Nat.le_of_ble_eq_true rfl, Nat.le_of_ble_eq_true rfl⟩) (WPc.pre hPc hDc hK (va_recv hK.1 hPc (ci := 1) (q0 := 0) rfl rfl)) rfl rfl hl.1 rfl (lv_room (Nat.le_of_ble_eq_true rfl)) dX1_rankAll_28 ⟨Nat.zero_le _, Nat.zero_le _⟩) hS (fun q _ h => h) (fun q h => h) (fun u t H locs ht hvm hw hB hz1 hk1 hS => ?_)
                obtain ⟨hP, hD⟩ := hB
                rw [ht] at hP
                have hP : va_P dG vwCl (LW cI cJ lb aR aV aH aD aP (upd rk k (nI (cnt dg n (i + 1) k))) (upd vb (cnt dg n (i + 1) k) (nI k)) (nI (cnt dg n (i + 1) k + 1)) hs D Pp ++ (GW cJ g gA (nI n) (nI ec) ns ++ X)) H := hP
                have hD : va_D A (LW cI cJ lb aR aV aH aD aP (upd rk k (nI (cnt dg n (i + 1) k))) (upd vb (cnt dg n (i + 1) k) (nI k)) (nI (cnt dg n (i + 1) k + 1)) hs D Pp ++ (GW cJ g gA (nI n) (nI ec) ns ++ X)) := hD
                refine x_iincN (lv' := [(3, .int (nI (k + 1))), (0, .ref lb), (1, .ref g), (2, .int (nI i))]) hx hb dX1_rankAll_31 hl (k := 3) rfl (by decide) rfl (fun ls hl => ?_)
                refine lv_goto (tgt := 9) hx hb dX1_rankAll_34 (by decide) ?_
                rw [← cnt_put c23 hk] at hP hD
                exact ih (k + 1) (upd rk k (nI (cnt dg n (i + 1) k))) (upd vb (cnt dg n (i + 1) k) (nI k)) (by omega) (by omega) (RI.put h3 hk c23) kx H locs hP hD hS ls (lv_sub hl [1, 2, 3, 0] rfl)
        refine inner _ 49 0 rk vb (by omega) (by omega) (h3) (fun rk vb h4 H locs hP hD hS ls hl => ?_) H locs hP hD hS ls (lv_sub hl [1, 2, 3, 0] rfl)
        refine lv_iinc (v := (dI i)) (lv' := [(2, .int (dI i)), (0, .ref lb), (1, .ref g), (3, .int (nI n))]) hx hb dX1_rankAll_37 hl (k := 2) rfl (dI_i i) (by decide) rfl (fun ls hl => ?_)
        refine lv_goto (tgt := 3) hx hb dX1_rankAll_40 (by decide) ?_
        rw [cnt_down] at hP hD
        exact ih i rk vb (by omega) (by omega) (h4.down) kx H locs hP hD hS ls (lv_sub hl [1, 2, 0] rfl)
  refine outer _ 49 48 rk vb (by omega) (by omega) (h0) (fun rk vb h4 H locs hP hD hS ls hl => ?_) s.heap [] hP hD hS ls (lv_sub hl [1, 2, 0] rfl)
  exact W.vret hx hb hr (fun t ht hW => ⟨⟨(rk, vb), rfl, h4, by rw [ht]; exact hP, hD⟩, hS.F ht⟩) hS.2.2 dX1_rankAll_43
end
section
/-! SEARCHES, as numbers: the queue (vertices, distances, parents, length, the set of what has been in it), the labels, the three counts -/
abbrev SQ : Type := (Nat → Nat) × (Nat → Nat) × (Nat → Option Nat) × Nat × Int64
abbrev ST : Type := (Nat → Nat → Option Nat) × (Nat → Nat → Option Nat) × SQ × Nat × Nat × Nat
abbrev qn (Q : SQ) : Nat := Q.2.2.2.1
abbrev qb9 (Q : SQ) : Int64 := Q.2.2.2.2
def qpush (T : SQ) (v d : Nat) (p : Option Nat) : SQ := (va_up T.1 (qn T) v, va_up T.2.1 (qn T) d, va_up T.2.2.1 (qn T) p, qn T + 1, qb9 T ||| ((1 : Int64) <<< ((nI v).toInt64 &&& 63)))
def enq (ns : Nat → Int64) (v d : Nat) (T : SQ) : Nat → SQ
  | 0 => T
  | k + 1 => if (gb (ns v) k && !gb (qb9 (enq ns v d T k)) k) = true then qpush (enq ns v d T k) k (d + 1) (some v) else enq ns v d T k
def vst (ns : Nat → Int64) (n h r v d : Nat) (p : Option Nat) (S : ST) : ST :=
  if rch S.1 h v d (r + 1) = true then (S.1, S.2.1, S.2.2.1, S.2.2.2.1 + 1, S.2.2.2.2.1 + 1, S.2.2.2.2.2)
  else (up2 S.1 v r (some d), up2 S.2.1 v r p, enq ns v d S.2.2.1 n, S.2.2.2.1 + 1, S.2.2.2.2.1, S.2.2.2.2.2 + 1)
def srun (ns : Nat → Int64) (n h r : Nat) : Nat → Nat → ST → ST
  | 0, _, S => S
  | f + 1, t, S => if t < qn S.2.2.1 then srun ns n h r f (t + 1) (vst ns n h r (S.2.2.1.1 t) (S.2.2.1.2.1 t) (S.2.2.1.2.2.1 t) S) else S
def q00 : SQ := (fun _ => 0, fun _ => 0, fun _ => none, 0, 0)
/-- a whole search, from the labels and counts before it -/
def srch (ns : Nat → Int64) (n h r s d : Nat) (p : Option Nat) (L P : Nat → Nat → Option Nat) (vi cu pu : Nat) : ST := srun ns n h r 48 0 (L, P, qpush q00 s d p, vi, cu, pu)
theorem gb_put (x : Int64) {k : Nat} (hk : k < 64) {j : Nat} (hj : j < 64) (w : Int64) (hw : w = x ||| ((1 : Int64) <<< ((nI k).toInt64 &&& 63))) : gb w j = if j = k then true else gb x j := by
  rw [hw, gb_set x hk hj]
  by_cases e : j = k
  · rw [if_pos e, decide_eq_true e]; simp
  · rw [if_neg e, decide_eq_false e]; simp
/-- the queue holds as many as its set has, all of them vertices -/
def QI (n : Nat) (T : SQ) : Prop := qn T = fb_ct (gb (qb9 T)) n ∧ ∀ i, i < qn T → T.1 i < n
theorem QI.le {n : Nat} {T : SQ} (h : QI n T) : qn T ≤ n := by rw [h.1]; exact fb_ct_le _ _
theorem QI.lt {n k : Nat} {T : SQ} (h : QI n T) (hk : k < n) (hb : gb (qb9 T) k = false) : qn T < n := by
  rcases Nat.lt_or_ge (qn T) n with g | g
  · exact g
  · have e : fb_ct (gb (qb9 T)) n = n := by rw [← h.1]; exact Nat.le_antisymm h.le g
    rw [fb_ct_all.mp e k hk] at hb
    cases hb
theorem QI.push {n k d : Nat} {p : Option Nat} {T : SQ} (h : QI n T) (hn : n ≤ 48) (hk : k < n) (hb : gb (qb9 T) k = false) : QI n (qpush T k d p) := by
  refine ⟨?_, fun i hi => ?_⟩
  · have e := fb_ct_upd (gb (qb9 T)) true hk
    rw [hb] at e
    have e2 : fb_ct (gb (qb9 (qpush T k d p))) n = fb_ct (fun w => if w = k then true else gb (qb9 T) w) n := fb_ct_cong fun w hw => gb_put (qb9 T) (k := k) (by omega) (by omega) _ rfl
    show qn T + 1 = fb_ct (gb (qb9 (qpush T k d p))) n
    rw [e2, h.1]
    simpa using e.symm
  · have hi : i < qn T + 1 := hi
    show va_up T.1 (qn T) k i < n
    by_cases e : i = qn T
    · rw [show va_up T.1 (qn T) k i = k from if_pos e]; exact hk
    · rw [show va_up T.1 (qn T) k i = T.1 i from if_neg e]; exact h.2 i (by omega)
theorem enq_been {ns : Nat → Int64} {v d : Nat} {T : SQ} : ∀ (k : Nat), k ≤ 48 → ∀ j, k ≤ j → j < 64 → gb (qb9 (enq ns v d T k)) j = gb (qb9 T) j
  | 0, _, _, _, _ => rfl
  | k + 1, hk, j, h1, h2 => by
    have ih := enq_been (ns := ns) (v := v) (d := d) (T := T) k (by omega) j (by omega) h2
    show gb (qb9 (if _ then _ else _)) j = _
    split
    · rw [← ih, gb_put (qb9 (enq ns v d T k)) (k := k) (by omega) h2 (qb9 (qpush (enq ns v d T k) k (d + 1) (some v))) rfl, if_neg (by omega)]
    · exact ih
theorem enq_yes {ns : Nat → Int64} {v d k : Nat} {T : SQ} (hk : k < 48) (h : (gb (ns v) k && !gb (qb9 T) k) = true) : enq ns v d T (k + 1) = qpush (enq ns v d T k) k (d + 1) (some v) := by
  show (if _ then _ else _) = _
  rw [enq_been k (by omega) k (Nat.le_refl _) (by omega)]
  exact if_pos h
theorem enq_no {ns : Nat → Int64} {v d k : Nat} {T : SQ} (hk : k < 48) (h : (gb (ns v) k && !gb (qb9 T) k) = false) : enq ns v d T (k + 1) = enq ns v d T k := by
  show (if _ then _ else _) = _
  rw [enq_been k (by omega) k (Nat.le_refl _) (by omega), h]
  rfl
theorem enq_free {ns : Nat → Int64} {v d k : Nat} {T : SQ} (hk : k < 48) (h : (gb (ns v) k && !gb (qb9 T) k) = true) : gb (qb9 (enq ns v d T k)) k = false := by
  rw [enq_been k (by omega) k (Nat.le_refl _) (by omega)]
  simpa using (Bool.and_eq_true_iff.mp h).2
theorem QI_enq {ns : Nat → Int64} {n v d : Nat} {T : SQ} (h : QI n T) (hn : n ≤ 48) : ∀ (k : Nat), k ≤ n → QI n (enq ns v d T k)
  | 0, _ => h
  | k + 1, hk => by
    have ih := QI_enq (ns := ns) (v := v) (d := d) h hn k (by omega)
    cases e : (gb (ns v) k && !gb (qb9 T) k) with
    | true => rw [enq_yes (by omega) e]; exact ih.push hn (by omega) (enq_free (by omega) e)
    | false => rw [enq_no (by omega) e]; exact ih
/-- what the queue had stays; what comes has the distance d + 1 -/
theorem enq_old {ns : Nat → Int64} {v d : Nat} {T : SQ} : ∀ (k : Nat), qn T ≤ qn (enq ns v d T k) ∧ ∀ i, i < qn (enq ns v d T k) → (i < qn T → (enq ns v d T k).1 i = T.1 i ∧ (enq ns v d T k).2.1 i = T.2.1 i ∧ (enq ns v d T k).2.2.1 i = T.2.2.1 i) ∧ (qn T ≤ i → (enq ns v d T k).2.1 i = d + 1 ∧ (enq ns v d T k).2.2.1 i = some v)
  | 0 => ⟨Nat.le_refl _, fun i hi => ⟨fun _ => ⟨rfl, rfl, rfl⟩, fun h => absurd hi (Nat.not_lt.mpr h)⟩⟩
  | k + 1 => by
    obtain ⟨i1, i2⟩ := enq_old (ns := ns) (v := v) (d := d) (T := T) k
    by_cases e : (gb (ns v) k && !gb (qb9 (enq ns v d T k)) k) = true
    · rw [show enq ns v d T (k + 1) = qpush (enq ns v d T k) k (d + 1) (some v) from if_pos e]
      refine ⟨Nat.le_succ_of_le i1, fun i hi => ?_⟩
      have hi : i < qn (enq ns v d T k) + 1 := hi
      by_cases e2 : i = qn (enq ns v d T k)
      · exact ⟨fun h => absurd h (by omega), fun _ => ⟨if_pos e2, if_pos e2⟩⟩
      · have q := i2 i (by omega)
        exact ⟨fun h => ⟨(if_neg e2 : va_up _ _ _ i = _).trans (q.1 h).1, (if_neg e2 : va_up _ _ _ i = _).trans (q.1 h).2.1, (if_neg e2 : va_up _ _ _ i = _).trans (q.1 h).2.2⟩, fun h => ⟨(if_neg e2 : va_up _ _ _ i = _).trans (q.2 h).1, (if_neg e2 : va_up _ _ _ i = _).trans (q.2 h).2⟩⟩
    · rw [show enq ns v d T (k + 1) = enq ns v d T k from if_neg e]
      exact ⟨i1, i2⟩
/-- the arrays hold the queue -/
def QR (a b c : Nat → Int32) (T : SQ) : Prop := ∀ i, i < qn T → a i = nI (T.1 i) ∧ b i = nI (T.2.1 i) ∧ c i = eN (T.2.2.1 i)
theorem QR.push {a b c : Nat → Int32} {T : SQ} (h : QR a b c T) (v d : Nat) (p : Option Nat) : QR (upd a (qn T) (nI v)) (upd b (qn T) (nI d)) (upd c (qn T) (eN p)) (qpush T v d p) := by
  intro i hi
  have hi : i < qn T + 1 := hi
  by_cases e : i = qn T
  · refine ⟨?_, ?_, ?_⟩
    · rw [show upd a (qn T) (nI v) i = nI v from if_pos e]; exact congrArg nI (if_pos e : va_up T.1 (qn T) v i = v).symm
    · rw [show upd b (qn T) (nI d) i = nI d from if_pos e]; exact congrArg nI (if_pos e : va_up T.2.1 (qn T) d i = d).symm
    · rw [show upd c (qn T) (eN p) i = eN p from if_pos e]; exact congrArg eN (if_pos e : va_up T.2.2.1 (qn T) p i = p).symm
  · have q := h i (by omega)
    refine ⟨?_, ?_, ?_⟩
    · rw [show upd a (qn T) (nI v) i = a i from if_neg e, q.1]; exact congrArg nI (if_neg e : va_up T.1 (qn T) v i = T.1 i).symm
    · rw [show upd b (qn T) (nI d) i = b i from if_neg e, q.2.1]; exact congrArg nI (if_neg e : va_up T.2.1 (qn T) d i = T.2.1 i).symm
    · rw [show upd c (qn T) (eN p) i = c i from if_neg e, q.2.2]; exact congrArg eN (if_neg e : va_up T.2.2.1 (qn T) p i = T.2.2.1 i).symm
/-- what a search keeps: the queue's count, its distances, the labels' bound -/
def SI (n d0 B : Nat) (S : ST) : Prop := QI n S.2.2.1 ∧ (∀ i, i < qn S.2.2.1 → S.2.2.1.2.1 i ≤ d0 + i) ∧ LBd S.1 B
theorem LBd.up {L : Nat → Nat → Option Nat} {B v r d : Nat} (h : LBd L B) (hd : d < B) : LBd (up2 L v r (some d)) B := by
  intro v' r' d' e
  by_cases e1 : v' = v ∧ r' = r
  · have : d = d' := by simpa [up2, e1] using e
    omega
  · exact h v' r' d' (by simpa [up2, e1] using e)
theorem LBd.mono {L : Nat → Nat → Option Nat} {B C : Nat} (h : LBd L B) (hd : B ≤ C) : LBd L C := fun v r d e => Nat.lt_of_lt_of_le (h v r d e) hd
theorem SI_vst {ns : Nat → Int64} {n h r d0 B t : Nat} {S : ST} (q : SI n d0 B S) (hn : n ≤ 48) (ht : t < qn S.2.2.1) (hB : d0 + 48 ≤ B) : SI n d0 B (vst ns n h r (S.2.2.1.1 t) (S.2.2.1.2.1 t) (S.2.2.1.2.2.1 t) S) := by
  obtain ⟨q1, q2, q3⟩ := q
  have hd := q2 t ht
  have hl := q1.le
  by_cases e : rch S.1 h (S.2.2.1.1 t) (S.2.2.1.2.1 t) (r + 1) = true
  · rw [show vst ns n h r (S.2.2.1.1 t) (S.2.2.1.2.1 t) (S.2.2.1.2.2.1 t) S = _ from if_pos e]
    exact ⟨q1, q2, q3⟩
  · rw [show vst ns n h r (S.2.2.1.1 t) (S.2.2.1.2.1 t) (S.2.2.1.2.2.1 t) S = _ from if_neg e]
    refine ⟨QI_enq q1 hn n (Nat.le_refl _), fun i hi => ?_, q3.up (by omega)⟩
    have o := (enq_old (ns := ns) (v := S.2.2.1.1 t) (d := S.2.2.1.2.1 t) (T := S.2.2.1) n).2 i hi
    rcases Nat.lt_or_ge i (qn S.2.2.1) with g | g
    · rw [show (enq ns (S.2.2.1.1 t) (S.2.2.1.2.1 t) S.2.2.1 n).2.1 i = _ from (o.1 g).2.1]; exact q2 i g
    · rw [show (enq ns (S.2.2.1.1 t) (S.2.2.1.2.1 t) S.2.2.1 n).2.1 i = _ from (o.2 g).1]; omega
theorem SI.start {L P : Nat → Nat → Option Nat} {n s d B vi cu pu : Nat} {p : Option Nat} (hs : s < n) (hn : n ≤ 48) (hB : LBd L B) : SI n d B (L, P, qpush q00 s d p, vi, cu, pu) := by
  have z : QI n q00 := ⟨(fb_ct_zero.mpr fun k _ => gb_0 k).symm, fun i hi => absurd hi (Nat.not_lt_zero i)⟩
  refine ⟨z.push hn hs (gb_0 s), fun i hi => ?_, hB⟩
  have hi : i < 0 + 1 := hi
  have e : i = 0 := by omega
  subst e
  show va_up q00.2.1 (qn q00) d 0 ≤ d + 0
  exact Nat.le_of_eq (if_pos rfl)
theorem srun_go {ns : Nat → Int64} {n h r k : Nat} {S F : ST} (hk : k < 48) (hq : k < qn S.2.2.1) (e : srun ns n h r (48 - k) k S = F) : srun ns n h r (48 - (k + 1)) (k + 1) (vst ns n h r (S.2.2.1.1 k) (S.2.2.1.2.1 k) (S.2.2.1.2.2.1 k) S) = F := by
  rw [show 48 - k = (48 - (k + 1)) + 1 by omega] at e
  rw [← e]
  exact (if_pos hq).symm
theorem srun_end {ns : Nat → Int64} {n h r k : Nat} {S F : ST} (hq : qn S.2.2.1 ≤ k) (e : srun ns n h r (48 - k) k S = F) : F = S := by
  cases f : 48 - k with
  | zero => rw [f] at e; exact e.symm
  | succ f2 =>
    rw [f] at e
    rw [← e]
    exact if_neg (Nat.not_lt.mpr hq)
end
section
/-! Searches: one visit -/
set_option maxHeartbeats 4000000 in
set_option maxRecDepth 100000 in
/-- Searches.forgetCounts -/
theorem c_forgetCounts (l : Launch) (dG : va_G) (cI cJ : ClassId) (A : Nat → Prop) (g lb se qa qb qc : Nat) (qv qd qp : Nat → Int32) (ql : Int32) (qs : Int64) (vi pr wr : Int32) (X : va_W) : Met l yX2_forgetCounts wsX2_forgetCounts ({ frames := 0, cells := 0, slots := 0, locals := 0 } : Room) (WPc dG cI cJ [.ref se] (SW cI g lb se qa qb qc qv qd qp ql qs vi pr wr ++ X) A) (va_Qv (S := Unit) (fun _ => True) (fun _ => WB dG A (SW cI g lb se qa qb qc qv qd qp ql qs (nI 0) (nI 0) (nI 0) ++ X)) A) 0 0 A := by
  refine Met.ofW (cc := cX2_forgetCounts) (maxL := 1) (ret := none) (by decide) rfl ?_
  intro p e s m args below meth c s₁ B9 hml hv
  obtain ⟨rfl, hP, hK, hD⟩ := hv
  have hx := B9.exec
  have hb := B9.bytes
  have hr := B9.returns
  have hts := atoms_spec (ws := wsX2_forgetCounts) B9.pre
  have hown : s.vm.findClass RX2 = some m.cls := findClass_of_methodNamed B9.named
  have hlocks := B9.notSynchronized
  have hS : va_S A s.heap s.heap [] := va_S.rf
  have hl := lv_entry ([.ref se]) (n := 1) (Nat.le_of_ble_eq_true rfl)
  rw [lg_entry_eq]
  generalize (lg_sl ([.ref se]) ++ List.replicate (1 - (lg_sl ([.ref se])).length) Slot.unset).toArray = ls at hl ⊢
  have hl : lv_has ls 1 [(0, .ref se)] := hl
  have hiX2 : ∀ w ∈ wsX20, w ∈ wsX2_forgetCounts := by decide +kernel
  have hf37 := hts (.fieldLink RX2 37 "LandmarkLea$Searches" "visitCount" "I") (by decide +kernel)
  have hf40 := hts (.fieldLink RX2 40 "LandmarkLea$Searches" "prunedCount" "I") (by decide +kernel)
  have hf43 := hts (.fieldLink RX2 43 "LandmarkLea$Searches" "writtenCount" "I") (by decide +kernel)
  refine lv_aload_n hx hb dX2_forgetCounts_0 rfl (lv_at hl 0 rfl) ?_
  refine lv_iconst (v := (nI 0)) hx hb dX2_forgetCounts_1 (by decide) ?_
  refine va_put (D := dG) (ci := 2) (v := .int (nI 0)) (ty := .int) (C := RX2) (T := TX2) (N := 10) hx hb hts hiX2 tyX2 tyX2_ok nmX2 hown hK.1 hP hD hS 0 rfl rfl 7 (by decide) hf37 (fun _ h9 => h9) rfl (by decide +kernel) rfl rfl (Nat.le_of_ble_eq_true rfl) dX2_forgetCounts_2 (fun H locs hP hD hS => ?_)
  have hP : va_P dG vwCl (SW cI g lb se qa qb qc qv qd qp ql qs (nI 0) pr wr ++ X) H := hP
  have hD : va_D A (SW cI g lb se qa qb qc qv qd qp ql qs (nI 0) pr wr ++ X) := hD
  refine lv_aload_n hx hb dX2_forgetCounts_5 rfl (lv_at hl 0 rfl) ?_
  refine lv_iconst (v := (nI 0)) hx hb dX2_forgetCounts_6 (by decide) ?_
  refine va_put (D := dG) (ci := 2) (v := .int (nI 0)) (ty := .int) (C := RX2) (T := TX2) (N := 10) hx hb hts hiX2 tyX2 tyX2_ok nmX2 hown hK.1 hP hD hS 0 rfl rfl 8 (by decide) hf40 (fun _ h9 => h9) rfl (by decide +kernel) rfl rfl (Nat.le_of_ble_eq_true rfl) dX2_forgetCounts_7 (fun H locs hP hD hS => ?_)
  have hP : va_P dG vwCl (SW cI g lb se qa qb qc qv qd qp ql qs (nI 0) (nI 0) wr ++ X) H := hP
  have hD : va_D A (SW cI g lb se qa qb qc qv qd qp ql qs (nI 0) (nI 0) wr ++ X) := hD
  refine lv_aload_n hx hb dX2_forgetCounts_10 rfl (lv_at hl 0 rfl) ?_
  refine lv_iconst (v := (nI 0)) hx hb dX2_forgetCounts_11 (by decide) ?_
  refine va_put (D := dG) (ci := 2) (v := .int (nI 0)) (ty := .int) (C := RX2) (T := TX2) (N := 10) hx hb hts hiX2 tyX2 tyX2_ok nmX2 hown hK.1 hP hD hS 0 rfl rfl 9 (by decide) hf43 (fun _ h9 => h9) rfl (by decide +kernel) rfl rfl (Nat.le_of_ble_eq_true rfl) dX2_forgetCounts_12 (fun H locs hP hD hS => ?_)
  have hP : va_P dG vwCl (SW cI g lb se qa qb qc qv qd qp ql qs (nI 0) (nI 0) (nI 0) ++ X) H := hP
  have hD : va_D A (SW cI g lb se qa qb qc qv qd qp ql qs (nI 0) (nI 0) (nI 0) ++ X) := hD
  exact W.vret hx hb hr (fun t ht hW => ⟨⟨(), rfl, trivial, by rw [ht]; exact hP, hD⟩, hS.F ht⟩) hS.2.2 dX2_forgetCounts_15

set_option maxHeartbeats 4000000 in
set_option maxRecDepth 100000 in
/-- Searches.countOfPruned -/
theorem c_countOfPruned (l : Launch) (dG : va_G) (cI cJ : ClassId) (g lb se qa qb qc : Nat) (qv qd qp : Nat → Int32) (ql : Int32) (qs : Int64) (vi pr wr : Int32) : Met l yX2_countOfPruned wsX2_countOfPruned ({ frames := 0, cells := 0, slots := 0, locals := 0 } : Room) (RPc dG cI cJ [.ref se] (SW cI g lb se qa qb qc qv qd qp ql qs vi pr wr)) (vp_Si (fun r9 => r9 = pr)) 0 0 (fun _ => False) := by
  refine Met.ofW (cc := cX2_countOfPruned) (maxL := 1) (ret := (some .int)) (by decide) rfl ?_
  intro p e s m args below meth c s₁ B9 hml hv
  obtain ⟨rfl, hP, hK⟩ := hv
  have hx := B9.exec
  have hb := B9.bytes
  have hr := B9.returns
  have hts := atoms_spec (ws := wsX2_countOfPruned) B9.pre
  have hown : s.vm.findClass RX2 = some m.cls := findClass_of_methodNamed B9.named
  have hlocks := B9.notSynchronized
  have hl := lv_entry ([.ref se]) (n := 1) (Nat.le_of_ble_eq_true rfl)
  rw [lg_entry_eq]
  generalize (lg_sl ([.ref se]) ++ List.replicate (1 - (lg_sl ([.ref se])).length) Slot.unset).toArray = ls at hl ⊢
  have hl : lv_has ls 1 [(0, .ref se)] := hl
  have hiX2 : ∀ w ∈ wsX20, w ∈ wsX2_countOfPruned := by decide +kernel
  have hf40 := hts (.fieldLink RX2 40 "LandmarkLea$Searches" "prunedCount" "I") (by decide +kernel)
  refine lv_aload_n hx hb dX2_countOfPruned_0 rfl (lv_at hl 0 rfl) ?_
  refine va_get (D := dG) (ci := 2) (v := .int pr) (C := RX2) (T := TX2) (N := 10) hx hb hts hiX2 hown hK.1 hP 0 rfl rfl 8 (by decide) hf40 (fun _ h9 => h9) rfl dX2_countOfPruned_1 ?_
  exact W.iret (v := pr) hx hb hr (fun t ht hW => ⟨_, rfl, rfl, ht⟩) (fun _ h => nomatch h) dX2_countOfPruned_4

set_option maxHeartbeats 4000000 in
set_option maxRecDepth 100000 in
/-- Searches.countOfWritten -/
theorem c_countOfWritten (l : Launch) (dG : va_G) (cI cJ : ClassId) (g lb se qa qb qc : Nat) (qv qd qp : Nat → Int32) (ql : Int32) (qs : Int64) (vi pr wr : Int32) : Met l yX2_countOfWritten wsX2_countOfWritten ({ frames := 0, cells := 0, slots := 0, locals := 0 } : Room) (RPc dG cI cJ [.ref se] (SW cI g lb se qa qb qc qv qd qp ql qs vi pr wr)) (vp_Si (fun r9 => r9 = wr)) 0 0 (fun _ => False) := by
  refine Met.ofW (cc := cX2_countOfWritten) (maxL := 1) (ret := (some .int)) (by decide) rfl ?_
  intro p e s m args below meth c s₁ B9 hml hv
  obtain ⟨rfl, hP, hK⟩ := hv
  have hx := B9.exec
  have hb := B9.bytes
  have hr := B9.returns
  have hts := atoms_spec (ws := wsX2_countOfWritten) B9.pre
  have hown : s.vm.findClass RX2 = some m.cls := findClass_of_methodNamed B9.named
  have hlocks := B9.notSynchronized
  have hl := lv_entry ([.ref se]) (n := 1) (Nat.le_of_ble_eq_true rfl)
  rw [lg_entry_eq]
  generalize (lg_sl ([.ref se]) ++ List.replicate (1 - (lg_sl ([.ref se])).length) Slot.unset).toArray = ls at hl ⊢
  have hl : lv_has ls 1 [(0, .ref se)] := hl
  have hiX2 : ∀ w ∈ wsX20, w ∈ wsX2_countOfWritten := by decide +kernel
  have hf43 := hts (.fieldLink RX2 43 "LandmarkLea$Searches" "writtenCount" "I") (by decide +kernel)
  refine lv_aload_n hx hb dX2_countOfWritten_0 rfl (lv_at hl 0 rfl) ?_
  refine va_get (D := dG) (ci := 2) (v := .int wr) (C := RX2) (T := TX2) (N := 10) hx hb hts hiX2 hown hK.1 hP 0 rfl rfl 9 (by decide) hf43 (fun _ h9 => h9) rfl dX2_countOfWritten_1 ?_
  exact W.iret (v := wr) hx hb hr (fun t ht hW => ⟨_, rfl, rfl, ht⟩) (fun _ h => nomatch h) dX2_countOfWritten_4

set_option maxHeartbeats 4000000 in
set_option maxRecDepth 100000 in
/-- Searches.enqueue -/
theorem c_enqueue (l : Launch) (dG : va_G) (cI cJ : ClassId) (A : Nat → Prop) (g lb se qa qb qc : Nat) (qv qd qp : Nat → Int32) (q0 : Nat) (qs : Int64) (vi pr wr : Int32) (v d : Nat) (p0 : Option Nat) (hv : v < 48) (hq0 : q0 < 48) (X : va_W) : Met l yX2_enqueue wsX2_enqueue ({ frames := 1, cells := 0, slots := 0, locals := 20 } : Room) (WPc dG cI cJ [.ref se, .int (nI v), .int (nI d), .int (eN p0)] (SW cI g lb se qa qb qc qv qd qp (nI q0) qs vi pr wr ++ X) A) (va_Qv (S := Unit) (fun _ => True) (fun _ => WB dG A (SW cI g lb se qa qb qc (upd qv q0 (nI v)) (upd qd q0 (nI d)) (upd qp q0 (eN p0)) (nI (q0 + 1)) (qs ||| ((1 : Int64) <<< ((nI v).toInt64 &&& 63))) vi pr wr ++ X)) A) 0 0 A := by
  refine Met.ofW (cc := cX2_enqueue) (maxL := 4) (ret := none) (by decide) rfl ?_
  intro p e s m args below meth c s₁ B9 hml hv
  obtain ⟨rfl, hP, hK, hD⟩ := hv
  have hx := B9.exec
  have hb := B9.bytes
  have hr := B9.returns
  have hts := atoms_spec (ws := wsX2_enqueue) B9.pre
  have hown : s.vm.findClass RX2 = some m.cls := findClass_of_methodNamed B9.named
  have hlocks := B9.notSynchronized
  have hS : va_S A s.heap s.heap [] := va_S.rf
  have hl := lv_entry ([.ref se, .int (nI v), .int (nI d), .int (eN p0)]) (n := 4) (Nat.le_of_ble_eq_true rfl)
  rw [lg_entry_eq]
  generalize (lg_sl ([.ref se, .int (nI v), .int (nI d), .int (eN p0)]) ++ List.replicate (4 - (lg_sl ([.ref se, .int (nI v), .int (nI d), .int (eN p0)])).length) Slot.unset).toArray = ls at hl ⊢
  have hl : lv_has ls 4 [(0, .ref se), (1, .int (nI v)), (2, .int (nI d)), (3, .int (eN p0))] := hl
  have hiX2 : ∀ w ∈ wsX20, w ∈ wsX2_enqueue := by decide +kernel
  have hf19 := hts (.fieldLink RX2 19 "LandmarkLea$Searches" "queueVertices" "[I") (by decide +kernel)
  have hf23 := hts (.fieldLink RX2 23 "LandmarkLea$Searches" "queueDistances" "[I") (by decide +kernel)
  have hf26 := hts (.fieldLink RX2 26 "LandmarkLea$Searches" "queueParents" "[I") (by decide +kernel)
  have hf29 := hts (.fieldLink RX2 29 "LandmarkLea$Searches" "queueLength" "I") (by decide +kernel)
  have hf33 := hts (.fieldLink RX2 33 "LandmarkLea$Searches" "queuedSet" "J") (by decide +kernel)
  refine lv_iload_n hx hb dX2_enqueue_0 rfl (lv_at hl 1 rfl) ?_
  have hPc : va_P dG vwCl [] s.heap := fun k q h => by simp at h
  refine x_ri (va_runSN (As := [.int (nI v)]) (rest := []) ⟨hx, hb, hml, hown, hts⟩ (c_isRow l dG cI cJ v (by omega)) ⟨va_cnB 1 hts gX2_enqueue_X3_isRow_n83 rfl rfl rfl hK.2.2.2.2.2.1 (hts (.initialized RX3) (by decide +kernel)) (by decide +kernel) ⟨Nat.le_of_ble_eq_true rfl, Nat.le_of_ble_eq_true rfl⟩, hts (.static yX3_isRow) (by decide +kernel), trivial⟩ (RPc.preS hPc hK) rfl rfl hl.1 rfl (lv_room (Nat.le_of_ble_eq_true rfl)) dX2_enqueue_1 ⟨Nat.zero_le _, Nat.zero_le _⟩).run ?_
  refine x_ifeqB (tgt := 69) hx hb dX2_enqueue_4 (by decide) (fun c4 => ?_) (fun c4 => ?_)
  · skip
    exact absurd hv (of_decide_eq_false c4)
  · skip
    refine lv_aload_n hx hb dX2_enqueue_7 rfl (lv_at hl 0 rfl) ?_
    refine va_get (D := dG) (ci := 2) (v := .int (nI q0)) (C := RX2) (T := TX2) (N := 10) hx hb hts hiX2 hown hK.1 hP 0 rfl rfl 5 (by decide) hf29 (fun _ h9 => h9) rfl dX2_enqueue_8 ?_
    have hPc : va_P dG vwCl [] s.heap := fun k q h => by simp at h
    refine x_ri (va_runSN (As := [.int (nI q0)]) (rest := []) ⟨hx, hb, hml, hown, hts⟩ (c_isRow l dG cI cJ q0 (by omega)) ⟨va_cnB 1 hts gX2_enqueue_X3_isRow_n83 rfl rfl rfl hK.2.2.2.2.2.1 (hts (.initialized RX3) (by decide +kernel)) (by decide +kernel) ⟨Nat.le_of_ble_eq_true rfl, Nat.le_of_ble_eq_true rfl⟩, hts (.static yX3_isRow) (by decide +kernel), trivial⟩ (RPc.preS hPc hK) rfl rfl hl.1 rfl (lv_room (Nat.le_of_ble_eq_true rfl)) dX2_enqueue_11 ⟨Nat.zero_le _, Nat.zero_le _⟩).run ?_
    refine x_ifeqB (tgt := 69) hx hb dX2_enqueue_14 (by decide) (fun c14 => ?_) (fun c14 => ?_)
    · skip
      exact absurd hq0 (of_decide_eq_false c14)
    · skip
      refine lv_aload_n hx hb dX2_enqueue_17 rfl (lv_at hl 0 rfl) ?_
      refine lv_dup hx hb dX2_enqueue_18 rfl ?_
      refine va_get (D := dG) (ci := 2) (v := .long qs) (C := RX2) (T := TX2) (N := 10) hx hb hts hiX2 hown hK.1 hP 0 rfl rfl 6 (by decide) hf33 (fun _ h9 => h9) rfl dX2_enqueue_19 ?_
      refine lv_lconst (v := 1) hx hb dX2_enqueue_22 rfl ?_
      refine lv_iload_n hx hb dX2_enqueue_23 rfl (lv_at hl 1 rfl) ?_
      refine lv_lshl (v := (1 <<< ((nI v).toInt64 &&& 63))) hx hb dX2_enqueue_24 rfl ?_
      refine lv_lor hx hb dX2_enqueue_25 ?_
      refine va_put (D := dG) (ci := 2) (v := .long (qs ||| (1 <<< ((nI v).toInt64 &&& 63)))) (ty := .long) (C := RX2) (T := TX2) (N := 10) hx hb hts hiX2 tyX2 tyX2_ok nmX2 hown hK.1 hP hD hS 0 rfl rfl 6 (by decide) hf33 (fun _ h9 => h9) rfl (by decide +kernel) rfl rfl (Nat.le_of_ble_eq_true rfl) dX2_enqueue_26 (fun H locs hP hD hS => ?_)
      have hP : va_P dG vwCl (SW cI g lb se qa qb qc qv qd qp (nI q0) (qs ||| (1 <<< ((nI v).toInt64 &&& 63))) vi pr wr ++ X) H := hP
      have hD : va_D A (SW cI g lb se qa qb qc qv qd qp (nI q0) (qs ||| (1 <<< ((nI v).toInt64 &&& 63))) vi pr wr ++ X) := hD
      refine lv_aload_n hx hb dX2_enqueue_29 rfl (lv_at hl 0 rfl) ?_
      refine va_get (D := dG) (ci := 2) (v := .ref qa) (C := RX2) (T := TX2) (N := 10) hx hb hts hiX2 hown hK.1 hP 0 rfl rfl 2 (by decide) hf19 (fun _ h9 => h9) rfl dX2_enqueue_30 ?_
      refine lv_aload_n hx hb dX2_enqueue_33 rfl (lv_at hl 0 rfl) ?_
      refine va_get (D := dG) (ci := 2) (v := .int (nI q0)) (C := RX2) (T := TX2) (N := 10) hx hb hts hiX2 hown hK.1 hP 0 rfl rfl 5 (by decide) hf29 (fun _ h9 => h9) rfl dX2_enqueue_34 ?_
      refine lv_iload_n hx hb dX2_enqueue_37 rfl (lv_at hl 1 rfl) ?_
      refine x_iast (f := qv) hx hb hK hP hD hS 1 rfl (by omega) (by decide) dX2_enqueue_38 (fun H locs hP hD hS => ?_)
      have hP : va_P dG vwCl (SW cI g lb se qa qb qc (upd qv q0 (nI v)) qd qp (nI q0) (qs ||| (1 <<< ((nI v).toInt64 &&& 63))) vi pr wr ++ X) H := hP
      have hD : va_D A (SW cI g lb se qa qb qc (upd qv q0 (nI v)) qd qp (nI q0) (qs ||| (1 <<< ((nI v).toInt64 &&& 63))) vi pr wr ++ X) := hD
      refine lv_aload_n hx hb dX2_enqueue_39 rfl (lv_at hl 0 rfl) ?_
      refine va_get (D := dG) (ci := 2) (v := .ref qb) (C := RX2) (T := TX2) (N := 10) hx hb hts hiX2 hown hK.1 hP 0 rfl rfl 3 (by decide) hf23 (fun _ h9 => h9) rfl dX2_enqueue_40 ?_
      refine lv_aload_n hx hb dX2_enqueue_43 rfl (lv_at hl 0 rfl) ?_
      refine va_get (D := dG) (ci := 2) (v := .int (nI q0)) (C := RX2) (T := TX2) (N := 10) hx hb hts hiX2 hown hK.1 hP 0 rfl rfl 5 (by decide) hf29 (fun _ h9 => h9) rfl dX2_enqueue_44 ?_
      refine lv_iload_n hx hb dX2_enqueue_47 rfl (lv_at hl 2 rfl) ?_
      refine x_iast (f := qd) hx hb hK hP hD hS 2 rfl (by omega) (by decide) dX2_enqueue_48 (fun H locs hP hD hS => ?_)
      have hP : va_P dG vwCl (SW cI g lb se qa qb qc (upd qv q0 (nI v)) (upd qd q0 (nI d)) qp (nI q0) (qs ||| (1 <<< ((nI v).toInt64 &&& 63))) vi pr wr ++ X) H := hP
      have hD : va_D A (SW cI g lb se qa qb qc (upd qv q0 (nI v)) (upd qd q0 (nI d)) qp (nI q0) (qs ||| (1 <<< ((nI v).toInt64 &&& 63))) vi pr wr ++ X) := hD
      refine lv_aload_n hx hb dX2_enqueue_49 rfl (lv_at hl 0 rfl) ?_
      refine va_get (D := dG) (ci := 2) (v := .ref qc) (C := RX2) (T := TX2) (N := 10) hx hb hts hiX2 hown hK.1 hP 0 rfl rfl 4 (by decide) hf26 (fun _ h9 => h9) rfl dX2_enqueue_50 ?_
      refine lv_aload_n hx hb dX2_enqueue_53 rfl (lv_at hl 0 rfl) ?_
      refine va_get (D := dG) (ci := 2) (v := .int (nI q0)) (C := RX2) (T := TX2) (N := 10) hx hb hts hiX2 hown hK.1 hP 0 rfl rfl 5 (by decide) hf29 (fun _ h9 => h9) rfl dX2_enqueue_54 ?_
      refine lv_iload_n hx hb dX2_enqueue_57 rfl (lv_at hl 3 rfl) ?_
      refine x_iast (f := qp) hx hb hK hP hD hS 3 rfl (by omega) (by decide) dX2_enqueue_58 (fun H locs hP hD hS => ?_)
      have hP : va_P dG vwCl (SW cI g lb se qa qb qc (upd qv q0 (nI v)) (upd qd q0 (nI d)) (upd qp q0 (eN p0)) (nI q0) (qs ||| (1 <<< ((nI v).toInt64 &&& 63))) vi pr wr ++ X) H := hP
      have hD : va_D A (SW cI g lb se qa qb qc (upd qv q0 (nI v)) (upd qd q0 (nI d)) (upd qp q0 (eN p0)) (nI q0) (qs ||| (1 <<< ((nI v).toInt64 &&& 63))) vi pr wr ++ X) := hD
      refine lv_aload_n hx hb dX2_enqueue_59 rfl (lv_at hl 0 rfl) ?_
      refine lv_dup hx hb dX2_enqueue_60 rfl ?_
      refine va_get (D := dG) (ci := 2) (v := .int (nI q0)) (C := RX2) (T := TX2) (N := 10) hx hb hts hiX2 hown hK.1 hP 0 rfl rfl 5 (by decide) hf29 (fun _ h9 => h9) rfl dX2_enqueue_61 ?_
      refine lv_iconst (v := (nI 1)) hx hb dX2_enqueue_64 (by decide) ?_
      refine x_addN (i := q0) (j := 1) hx hb dX2_enqueue_65 ?_
      refine va_put (D := dG) (ci := 2) (v := .int (nI (q0 + 1))) (ty := .int) (C := RX2) (T := TX2) (N := 10) hx hb hts hiX2 tyX2 tyX2_ok nmX2 hown hK.1 hP hD hS 0 rfl rfl 5 (by decide) hf29 (fun _ h9 => h9) rfl (by decide +kernel) rfl rfl (Nat.le_of_ble_eq_true rfl) dX2_enqueue_66 (fun H locs hP hD hS => ?_)
      have hP : va_P dG vwCl (SW cI g lb se qa qb qc (upd qv q0 (nI v)) (upd qd q0 (nI d)) (upd qp q0 (eN p0)) (nI (q0 + 1)) (qs ||| (1 <<< ((nI v).toInt64 &&& 63))) vi pr wr ++ X) H := hP
      have hD : va_D A (SW cI g lb se qa qb qc (upd qv q0 (nI v)) (upd qd q0 (nI d)) (upd qp q0 (eN p0)) (nI (q0 + 1)) (qs ||| (1 <<< ((nI v).toInt64 &&& 63))) vi pr wr ++ X) := hD
      exact W.vret hx hb hr (fun t ht hW => ⟨⟨(), rfl, trivial, by rw [ht]; exact hP, hD⟩, hS.F ht⟩) hS.2.2 dX2_enqueue_69

set_option maxHeartbeats 4000000 in
set_option maxRecDepth 100000 in
/-- Searches.visit -/
theorem c_visit (l : Launch) (dG : va_G) (cI cJ : ClassId) (A : Nat → Prop) (g gA lb aR aV aH aD aP se qa qb qc : Nat) (rk vb : Nat → Int32) (rc : Int32) (n ec : Nat) (ns : Nat → Int64) (hn : n ≤ 48) (qv qd qp : Nat → Int32) (hs : Nat → Int64) (D Pp : Nat → Int32) (L P : Nat → Nat → Option Nat) (Q : SQ) (vi cu pu : Nat) (hR : RepL L P hs D Pp) (hQ : QR qv qd qp Q) (hI : QI n Q) (hB : LBd L (2 ^ 30)) (r v d h : Nat) (p0 : Option Nat) (hr0 : r < 48) (hv : v < n) (hd : d < 2 ^ 30) (hh : h < 48) (eh : vb r = nI h) (F : ST) (hF : vst ns n h r v d p0 (L, P, Q, vi, cu, pu) = F) (X : va_W) : Met l yX2_visit wsX2_visit ({ frames := 3, cells := 0, slots := 0, locals := 70 } : Room) (WPc dG cI cJ [.ref se, .int (nI r), .int (nI v), .int (nI d), .int (eN p0)] (SW cI g lb se qa qb qc qv qd qp (nI (qn Q)) (qb9 Q) (nI vi) (nI cu) (nI pu) ++ (GW cJ g gA (nI n) (nI ec) ns ++ (LW cI cJ lb aR aV aH aD aP rk vb rc hs D Pp ++ X))) A) (va_Qv (S := (Nat → Int32) × (Nat → Int32) × (Nat → Int32) × (Nat → Int64) × (Nat → Int32) × (Nat → Int32)) (fun u => RepL F.1 F.2.1 u.2.2.2.1 u.2.2.2.2.1 u.2.2.2.2.2 ∧ QR u.1 u.2.1 u.2.2.1 F.2.2.1) (fun u => WB dG A (SW cI g lb se qa qb qc u.1 u.2.1 u.2.2.1 (nI (qn F.2.2.1)) (qb9 F.2.2.1) (nI F.2.2.2.1) (nI F.2.2.2.2.1) (nI F.2.2.2.2.2) ++ (GW cJ g gA (nI n) (nI ec) ns ++ (LW cI cJ lb aR aV aH aD aP rk vb rc u.2.2.2.1 u.2.2.2.2.1 u.2.2.2.2.2 ++ X)))) A) 0 0 A := by
  refine Met.ofW (cc := cX2_visit) (maxL := 8) (ret := none) (by decide) rfl ?_
  intro p e s m args below meth c s₁ B9 hml hv
  obtain ⟨rfl, hP, hK, hD⟩ := hv
  have hx := B9.exec
  have hb := B9.bytes
  have hr := B9.returns
  have hts := atoms_spec (ws := wsX2_visit) B9.pre
  have hown : s.vm.findClass RX2 = some m.cls := findClass_of_methodNamed B9.named
  have hlocks := B9.notSynchronized
  have hS : va_S A s.heap s.heap [] := va_S.rf
  have hl := lv_entry ([.ref se, .int (nI r), .int (nI v), .int (nI d), .int (eN p0)]) (n := 8) (Nat.le_of_ble_eq_true rfl)
  rw [lg_entry_eq]
  generalize (lg_sl ([.ref se, .int (nI r), .int (nI v), .int (nI d), .int (eN p0)]) ++ List.replicate (8 - (lg_sl ([.ref se, .int (nI r), .int (nI v), .int (nI d), .int (eN p0)])).length) Slot.unset).toArray = ls at hl ⊢
  have hl : lv_has ls 8 [(0, .ref se), (1, .int (nI r)), (2, .int (nI v)), (3, .int (nI d)), (4, .int (eN p0))] := hl
  have hiX2 : ∀ w ∈ wsX20, w ∈ wsX2_visit := by decide +kernel
  have hf9 := hts (.fieldLink RX2 9 "LandmarkLea$Searches" "graph" "LLandmarkLea$Graph;") (by decide +kernel)
  have hf15 := hts (.fieldLink RX2 15 "LandmarkLea$Searches" "labels" "LLandmarkLea$Labels;") (by decide +kernel)
  have hf33 := hts (.fieldLink RX2 33 "LandmarkLea$Searches" "queuedSet" "J") (by decide +kernel)
  have hf37 := hts (.fieldLink RX2 37 "LandmarkLea$Searches" "visitCount" "I") (by decide +kernel)
  have hf40 := hts (.fieldLink RX2 40 "LandmarkLea$Searches" "prunedCount" "I") (by decide +kernel)
  have hf43 := hts (.fieldLink RX2 43 "LandmarkLea$Searches" "writtenCount" "I") (by decide +kernel)
  refine lv_aload_n hx hb dX2_visit_0 rfl (lv_at hl 0 rfl) ?_
  refine lv_dup hx hb dX2_visit_1 rfl ?_
  refine va_get (D := dG) (ci := 2) (v := .int (nI vi)) (C := RX2) (T := TX2) (N := 10) hx hb hts hiX2 hown hK.1 hP 0 rfl rfl 7 (by decide) hf37 (fun _ h9 => h9) rfl dX2_visit_2 ?_
  refine lv_iconst (v := (nI 1)) hx hb dX2_visit_5 (by decide) ?_
  refine x_addN (i := vi) (j := 1) hx hb dX2_visit_6 ?_
  refine va_put (D := dG) (ci := 2) (v := .int (nI (vi + 1))) (ty := .int) (C := RX2) (T := TX2) (N := 10) hx hb hts hiX2 tyX2 tyX2_ok nmX2 hown hK.1 hP hD hS 0 rfl rfl 7 (by decide) hf37 (fun _ h9 => h9) rfl (by decide +kernel) rfl rfl (Nat.le_of_ble_eq_true rfl) dX2_visit_7 (fun H locs hP hD hS => ?_)
  have hP : va_P dG vwCl (SW cI g lb se qa qb qc qv qd qp (nI (qn Q)) (qb9 Q) (nI (vi + 1)) (nI cu) (nI pu) ++ (GW cJ g gA (nI n) (nI ec) ns ++ (LW cI cJ lb aR aV aH aD aP rk vb rc hs D Pp ++ X))) H := hP
  have hD : va_D A (SW cI g lb se qa qb qc qv qd qp (nI (qn Q)) (qb9 Q) (nI (vi + 1)) (nI cu) (nI pu) ++ (GW cJ g gA (nI n) (nI ec) ns ++ (LW cI cJ lb aR aV aH aD aP rk vb rc hs D Pp ++ X))) := hD
  refine lv_aload_n hx hb dX2_visit_10 rfl (lv_at hl 0 rfl) ?_
  refine va_get (D := dG) (ci := 2) (v := .ref lb) (C := RX2) (T := TX2) (N := 10) hx hb hts hiX2 hown hK.1 hP 0 rfl rfl 1 (by decide) hf15 (fun _ h9 => h9) rfl dX2_visit_11 ?_
  refine lv_iload_n hx hb dX2_visit_14 rfl (lv_at hl 1 rfl) ?_
  refine lv_iload_n hx hb dX2_visit_15 rfl (lv_at hl 2 rfl) ?_
  refine lv_iload_n hx hb dX2_visit_16 rfl (lv_at hl 3 rfl) ?_
  have hPc := hP.sub (ws' := (LW cI cJ lb aR aV aH aD aP rk vb rc hs D Pp)) [6, 7, 8, 9, 10, 11] rfl
  refine x_ri (W.runV (As := [.int (nI r), .int (nI v), .int (nI d)]) (rest := []) ⟨hx, hb, hml, hown, hts⟩ (c_reaches l dG cI cJ lb aR aV aH aD aP rk vb rc hs D Pp L P hR hB r v d h hr0 (by omega) (by omega) hh eh) (cwV 3 hts gX2_visit_X1_reaches rfl rfl rfl (by decide +kernel) ⟨Nat.le_of_ble_eq_true rfl, Nat.le_of_ble_eq_true rfl⟩) (RPc.pre hPc hK (va_recv hK.1 hPc (ci := 1) (q0 := 0) rfl rfl)) rfl rfl hl.1 rfl (lv_room (Nat.le_of_ble_eq_true rfl)) dX2_visit_17 ⟨Nat.zero_le _, Nat.zero_le _⟩) ?_
  refine x_ifeqB (tgt := 34) hx hb dX2_visit_20 (by decide) (fun c20 => ?_) (fun c20 => ?_)
  · skip
    have eF : F = (up2 L v r (some d), up2 P v r p0, enq ns v d Q n, vi + 1, cu, pu + 1) := hF.symm.trans (if_neg (by rw [c20]; decide))
    subst eF
    have hR2 := hR.put (d := d) (p := p0) (show v < 48 by omega) hr0
    refine lv_aload_n hx hb dX2_visit_34 rfl (lv_at hl 0 rfl) ?_
    refine va_get (D := dG) (ci := 2) (v := .ref lb) (C := RX2) (T := TX2) (N := 10) hx hb hts hiX2 hown hK.1 hP 0 rfl rfl 1 (by decide) hf15 (fun _ h9 => h9) rfl dX2_visit_35 ?_
    refine lv_iload_n hx hb dX2_visit_38 rfl (lv_at hl 1 rfl) ?_
    refine lv_iload_n hx hb dX2_visit_39 rfl (lv_at hl 2 rfl) ?_
    refine lv_iload_n hx hb dX2_visit_40 rfl (lv_at hl 3 rfl) ?_
    refine lv_iload hx hb dX2_visit_41 (lv_at hl 4 rfl) ?_
    have hPc : va_P dG vwCl (LW cI cJ lb aR aV aH aD aP rk vb rc hs D Pp ++ (SW cI g lb se qa qb qc qv qd qp (nI (qn Q)) (qb9 Q) (nI (vi + 1)) (nI cu) (nI pu) ++ (GW cJ g gA (nI n) (nI ec) ns ++ X))) H := va_P.perm hP (List.Perm.trans (List.Perm.append_left _ (List.perm_append_comm_assoc _ _ _)) (List.perm_append_comm_assoc _ _ _))
    have hDc : va_D A (LW cI cJ lb aR aV aH aD aP rk vb rc hs D Pp ++ (SW cI g lb se qa qb qc qv qd qp (nI (qn Q)) (qb9 Q) (nI (vi + 1)) (nI cu) (nI pu) ++ (GW cJ g gA (nI n) (nI ec) ns ++ X))) := va_D.perm hD (List.Perm.trans (List.Perm.append_left _ (List.perm_append_comm_assoc _ _ _)) (List.perm_append_comm_assoc _ _ _))
    refine va_callv (va_runV (As := [.int (nI r), .int (nI v), .int (nI d), .int (eN p0)]) (rest := []) ⟨hx, hb, hml, hown, hts⟩ (c_put l dG cI cJ A lb aR aV aH aD aP rk vb rc hs D Pp r v d p0 hr0 (by omega) _) (cwV 4 hts gX2_visit_X1_put rfl rfl rfl (by decide +kernel) ⟨Nat.le_of_ble_eq_true rfl, Nat.le_of_ble_eq_true rfl⟩) (WPc.pre hPc hDc hK (va_recv hK.1 hPc (ci := 1) (q0 := 0) rfl rfl)) rfl rfl hl.1 rfl (lv_room (Nat.le_of_ble_eq_true rfl)) dX2_visit_43 ⟨Nat.zero_le _, Nat.zero_le _⟩) hS (fun q _ h => h) (fun q h => h) (fun u t H locs ht hvm hw hB hz1 hk1 hS => ?_)
    obtain ⟨hP, hD⟩ := hB
    rw [ht] at hP
    have hP : va_P dG vwCl (LW cI cJ lb aR aV aH aD aP rk vb rc (vp_updL hs v (hs v ||| ((1 : Int64) <<< ((nI r).toInt64 &&& 63)))) (upd D (v * 48 + r) (nI d)) (upd Pp (v * 48 + r) (eN p0)) ++ (SW cI g lb se qa qb qc qv qd qp (nI (qn Q)) (qb9 Q) (nI (vi + 1)) (nI cu) (nI pu) ++ (GW cJ g gA (nI n) (nI ec) ns ++ X))) H := hP
    have hD : va_D A (LW cI cJ lb aR aV aH aD aP rk vb rc (vp_updL hs v (hs v ||| ((1 : Int64) <<< ((nI r).toInt64 &&& 63)))) (upd D (v * 48 + r) (nI d)) (upd Pp (v * 48 + r) (eN p0)) ++ (SW cI g lb se qa qb qc qv qd qp (nI (qn Q)) (qb9 Q) (nI (vi + 1)) (nI cu) (nI pu) ++ (GW cJ g gA (nI n) (nI ec) ns ++ X))) := hD
    have hP : va_P dG vwCl (SW cI g lb se qa qb qc qv qd qp (nI (qn Q)) (qb9 Q) (nI (vi + 1)) (nI cu) (nI pu) ++ (GW cJ g gA (nI n) (nI ec) ns ++ (LW cI cJ lb aR aV aH aD aP rk vb rc (vp_updL hs v (hs v ||| ((1 : Int64) <<< ((nI r).toInt64 &&& 63)))) (upd D (v * 48 + r) (nI d)) (upd Pp (v * 48 + r) (eN p0)) ++ X))) H := va_P.perm hP (List.Perm.trans (List.perm_append_comm_assoc _ _ _) (List.Perm.append_left _ (List.perm_append_comm_assoc _ _ _)))
    have hD : va_D A (SW cI g lb se qa qb qc qv qd qp (nI (qn Q)) (qb9 Q) (nI (vi + 1)) (nI cu) (nI pu) ++ (GW cJ g gA (nI n) (nI ec) ns ++ (LW cI cJ lb aR aV aH aD aP rk vb rc (vp_updL hs v (hs v ||| ((1 : Int64) <<< ((nI r).toInt64 &&& 63)))) (upd D (v * 48 + r) (nI d)) (upd Pp (v * 48 + r) (eN p0)) ++ X))) := va_D.perm hD (List.Perm.trans (List.perm_append_comm_assoc _ _ _) (List.Perm.append_left _ (List.perm_append_comm_assoc _ _ _)))
    refine lv_aload_n hx hb dX2_visit_46 rfl (lv_at hl 0 rfl) ?_
    refine lv_dup hx hb dX2_visit_47 rfl ?_
    refine va_get (D := dG) (ci := 2) (v := .int (nI pu)) (C := RX2) (T := TX2) (N := 10) hx hb hts hiX2 hown hK.1 hP 0 rfl rfl 9 (by decide) hf43 (fun _ h9 => h9) rfl dX2_visit_48 ?_
    refine lv_iconst (v := (nI 1)) hx hb dX2_visit_51 (by decide) ?_
    refine x_addN (i := pu) (j := 1) hx hb dX2_visit_52 ?_
    refine va_put (D := dG) (ci := 2) (v := .int (nI (pu + 1))) (ty := .int) (C := RX2) (T := TX2) (N := 10) hx hb hts hiX2 tyX2 tyX2_ok nmX2 hown hK.1 hP hD hS 0 rfl rfl 9 (by decide) hf43 (fun _ h9 => h9) rfl (by decide +kernel) rfl rfl (Nat.le_of_ble_eq_true rfl) dX2_visit_53 (fun H locs hP hD hS => ?_)
    have hP : va_P dG vwCl (SW cI g lb se qa qb qc qv qd qp (nI (qn Q)) (qb9 Q) (nI (vi + 1)) (nI cu) (nI (pu + 1)) ++ (GW cJ g gA (nI n) (nI ec) ns ++ (LW cI cJ lb aR aV aH aD aP rk vb rc (vp_updL hs v (hs v ||| ((1 : Int64) <<< ((nI r).toInt64 &&& 63)))) (upd D (v * 48 + r) (nI d)) (upd Pp (v * 48 + r) (eN p0)) ++ X))) H := hP
    have hD : va_D A (SW cI g lb se qa qb qc qv qd qp (nI (qn Q)) (qb9 Q) (nI (vi + 1)) (nI cu) (nI (pu + 1)) ++ (GW cJ g gA (nI n) (nI ec) ns ++ (LW cI cJ lb aR aV aH aD aP rk vb rc (vp_updL hs v (hs v ||| ((1 : Int64) <<< ((nI r).toInt64 &&& 63)))) (upd D (v * 48 + r) (nI d)) (upd Pp (v * 48 + r) (eN p0)) ++ X))) := hD
    refine lv_aload_n hx hb dX2_visit_56 rfl (lv_at hl 0 rfl) ?_
    refine va_get (D := dG) (ci := 2) (v := .ref g) (C := RX2) (T := TX2) (N := 10) hx hb hts hiX2 hown hK.1 hP 0 rfl rfl 0 (by decide) hf9 (fun _ h9 => h9) rfl dX2_visit_57 ?_
    refine lv_iload_n hx hb dX2_visit_60 rfl (lv_at hl 2 rfl) ?_
    have hPc := hP.sub (ws' := (GW cJ g gA (nI n) (nI ec) ns)) [4, 5] rfl
    refine x_rl (W.runV (As := [.int (nI v)]) (rest := []) ⟨hx, hb, hml, hown, hts⟩ (c_adjacent l dG cI cJ g gA n ec ns v (by omega)) (cwV 1 hts gX2_visit_X0_adjacent rfl rfl rfl (by decide +kernel) ⟨Nat.le_of_ble_eq_true rfl, Nat.le_of_ble_eq_true rfl⟩) (RPc.pre hPc hK (va_recv hK.1 hPc (ci := 0) (q0 := 0) rfl rfl)) rfl rfl hl.1 rfl (lv_room (Nat.le_of_ble_eq_true rfl)) dX2_visit_61 ⟨Nat.zero_le _, Nat.zero_le _⟩) ?_
    refine lv_aload_n hx hb dX2_visit_64 rfl (lv_at hl 0 rfl) ?_
    refine va_get (D := dG) (ci := 2) (v := .long (qb9 Q)) (C := RX2) (T := TX2) (N := 10) hx hb hts hiX2 hown hK.1 hP 0 rfl rfl 6 (by decide) hf33 (fun _ h9 => h9) rfl dX2_visit_65 ?_
    refine lv_ldc2 hx hb hown (hts (.constantLong RX2 98 (-1)) (by decide +kernel)) dX2_visit_68 ?_
    refine lv_lxor hx hb dX2_visit_71 ?_
    refine lv_land hx hb dX2_visit_72 ?_
    refine lv_lstore (lv' := [(5, .long ((ns v) &&& ((qb9 Q) ^^^ (-1)))), (0, .ref se), (1, .int (nI r)), (2, .int (nI v)), (3, .int (nI d)), (4, .int (eN p0))]) hx hb dX2_visit_73 hl (by decide) rfl (fun ls hl => ?_)
    refine lv_iconst (v := (nI 0)) hx hb dX2_visit_75 (by decide) ?_
    refine lv_istore (lv' := [(7, .int (nI 0)), (5, .long ((ns v) &&& ((qb9 Q) ^^^ (-1)))), (0, .ref se), (1, .int (nI r)), (2, .int (nI v)), (3, .int (nI d)), (4, .int (eN p0))]) hx hb dX2_visit_76 hl (by decide) rfl (fun ls hl => ?_)
    have loop : ∀ (QQ : State → Prop) (n1 : Nat) (k : Nat) (qv qd qp : Nat → Int32), n < k + n1 → k ≤ n → QR qv qd qp (enq ns v d Q k) → (∀ (qv qd qp : Nat → Int32) (_ : QR qv qd qp (enq ns v d Q n)), ∀ (H : Heap) (locs : List Loc), va_P dG vwCl (SW cI g lb se qa qb qc qv qd qp (nI (qn (enq ns v d Q n))) (qb9 (enq ns v d Q n)) (nI (vi + 1)) (nI cu) (nI (pu + 1)) ++ (GW cJ g gA (nI n) (nI ec) ns ++ (LW cI cJ lb aR aV aH aD aP rk vb rc (vp_updL hs v (hs v ||| ((1 : Int64) <<< ((nI r).toInt64 &&& 63)))) (upd D (v * 48 + r) (nI d)) (upd Pp (v * 48 + r) (eN p0)) ++ X))) H → va_D A (SW cI g lb se qa qb qc qv qd qp (nI (qn (enq ns v d Q n))) (qb9 (enq ns v d Q n)) (nI (vi + 1)) (nI cu) (nI (pu + 1)) ++ (GW cJ g gA (nI n) (nI ec) ns ++ (LW cI cJ lb aR aV aH aD aP rk vb rc (vp_updL hs v (hs v ||| ((1 : Int64) <<< ((nI r).toInt64 &&& 63)))) (upd D (v * 48 + r) (nI d)) (upd Pp (v * 48 + r) (eN p0)) ++ X))) → va_S A s.heap H locs → ∀ ls : Array Slot, lv_has ls 8 [(0, .ref se), (1, .int (nI r)), (2, .int (nI v)), (3, .int (nI d)), (4, .int (eN p0)), (5, .long (ns v &&& (qb9 Q ^^^ (-1)))), (7, .int (nI n))] → W p l e ({ frames := 3, cells := 0, slots := 0, locals := 70 } : Room) s m ([.ref se, .int (nI r), .int (nI v), .int (nI d), .int (eN p0)] : List Value).toArray below meth c H locs 0 0 QQ (F0 m 116 ls [])) → ∀ (H : Heap) (locs : List Loc), va_P dG vwCl (SW cI g lb se qa qb qc qv qd qp (nI (qn (enq ns v d Q k))) (qb9 (enq ns v d Q k)) (nI (vi + 1)) (nI cu) (nI (pu + 1)) ++ (GW cJ g gA (nI n) (nI ec) ns ++ (LW cI cJ lb aR aV aH aD aP rk vb rc (vp_updL hs v (hs v ||| ((1 : Int64) <<< ((nI r).toInt64 &&& 63)))) (upd D (v * 48 + r) (nI d)) (upd Pp (v * 48 + r) (eN p0)) ++ X))) H → va_D A (SW cI g lb se qa qb qc qv qd qp (nI (qn (enq ns v d Q k))) (qb9 (enq ns v d Q k)) (nI (vi + 1)) (nI cu) (nI (pu + 1)) ++ (GW cJ g gA (nI n) (nI ec) ns ++ (LW cI cJ lb aR aV aH aD aP rk vb rc (vp_updL hs v (hs v ||| ((1 : Int64) <<< ((nI r).toInt64 &&& 63)))) (upd D (v * 48 + r) (nI d)) (upd Pp (v * 48 + r) (eN p0)) ++ X))) → va_S A s.heap H locs → ∀ ls : Array Slot, lv_has ls 8 [(0, .ref se), (1, .int (nI r)), (2, .int (nI v)), (3, .int (nI d)), (4, .int (eN p0)), (5, .long (ns v &&& (qb9 Q ^^^ (-1)))), (7, .int (nI k))] → W p l e ({ frames := 3, cells := 0, slots := 0, locals := 70 } : Room) s m ([.ref se, .int (nI r), .int (nI v), .int (nI d), .int (eN p0)] : List Value).toArray below meth c H locs 0 0 QQ (F0 m 78 ls []) := by
      intro QQ n1
      induction n1 with
      | zero => intro k qv qd qp h1 h2 h3; exact absurd h1 (by omega)
      | succ n1 ih =>
        intro k qv qd qp h1 h2 h3 kx H locs hP hD hS ls hl
        refine lv_iload hx hb dX2_visit_78 (lv_at hl 6 rfl) ?_
        refine lv_aload_n hx hb dX2_visit_80 rfl (lv_at hl 0 rfl) ?_
        refine va_get (D := dG) (ci := 2) (v := .ref g) (C := RX2) (T := TX2) (N := 10) hx hb hts hiX2 hown hK.1 hP 0 rfl rfl 0 (by decide) hf9 (fun _ h9 => h9) rfl dX2_visit_81 ?_
        have hPc := hP.sub (ws' := (GW cJ g gA (nI n) (nI ec) ns)) [4, 5] rfl
        refine x_ri (W.runV (As := []) (rest := [.int (nI k)]) ⟨hx, hb, hml, hown, hts⟩ (c_size l dG cI cJ g gA n ec ns) (cwV 0 hts gX2_visit_X0_size rfl rfl rfl (by decide +kernel) ⟨Nat.le_of_ble_eq_true rfl, Nat.le_of_ble_eq_true rfl⟩) (RPc.pre hPc hK (va_recv hK.1 hPc (ci := 0) (q0 := 0) rfl rfl)) rfl rfl hl.1 rfl (lv_room (Nat.le_of_ble_eq_true rfl)) dX2_visit_84 ⟨Nat.zero_le _, Nat.zero_le _⟩) ?_
        refine x_icmp_geN (i := k) (j := n) (tgt := 116) hx hb (by omega) (by omega) dX2_visit_87 (by decide) (fun c87 => ?_) (fun c87 => ?_)
        · skip
          have ek : k = n := by omega
          subst ek
          exact kx (qv) (qd) (qp) (h3) H locs hP hD hS ls (lv_sub hl [0, 1, 2, 3, 4, 5, 6] rfl)
        · skip
          refine lv_lload hx hb dX2_visit_90 (lv_at hl 5 rfl) ?_
          refine lv_iload hx hb dX2_visit_92 (lv_at hl 6 rfl) ?_
          have hPc : va_P dG vwCl [] H := fun k q h => by simp at h
          refine x_ri (va_runSN (As := [.long (ns v &&& (qb9 Q ^^^ (-1))), .int (nI k)]) (rest := []) ⟨hx, hb, hml, hown, hts⟩ (c_hasBit l dG cI cJ (ns v &&& (qb9 Q ^^^ (-1))) k (by omega)) ⟨va_cnB 2 hts gX2_visit_X3_hasBit_n100 rfl rfl rfl hK.2.2.2.2.2.2 (hts (.initialized RX3) (by decide +kernel)) (by decide +kernel) ⟨Nat.le_of_ble_eq_true rfl, Nat.le_of_ble_eq_true rfl⟩, hts (.static yX3_hasBit) (by decide +kernel), trivial⟩ (RPc.preS hPc hK) rfl rfl hl.1 rfl (lv_room (Nat.le_of_ble_eq_true rfl)) dX2_visit_94 ⟨Nat.zero_le _, Nat.zero_le _⟩).run ?_
          rw [show gb (ns v &&& (qb9 Q ^^^ (-1))) k = (gb (ns v) k && !gb (qb9 Q) k) by rw [gb_and, gb_not _ (by omega)]]
          refine x_ifeqB (tgt := 110) hx hb dX2_visit_97 (by decide) (fun c97 => ?_) (fun c97 => ?_)
          · skip
            refine x_iincN (lv' := [(7, .int (nI (k + 1))), (0, .ref se), (1, .int (nI r)), (2, .int (nI v)), (3, .int (nI d)), (4, .int (eN p0)), (5, .long (ns v &&& (qb9 Q ^^^ (-1))))]) hx hb dX2_visit_110 hl (k := 6) rfl (by decide) rfl (fun ls hl => ?_)
            refine lv_goto (tgt := 78) hx hb dX2_visit_113 (by decide) ?_
            have hE := enq_no (d := d) (show k < 48 by omega) c97
            rw [← hE] at hP hD
            exact ih (k + 1) qv qd qp (by omega) (by omega) (by rw [hE]; exact h3) kx H locs hP hD hS ls (lv_sub hl [1, 2, 3, 4, 5, 6, 0] rfl)
          · skip
            refine lv_aload_n hx hb dX2_visit_100 rfl (lv_at hl 0 rfl) ?_
            refine lv_iload hx hb dX2_visit_101 (lv_at hl 6 rfl) ?_
            refine lv_iload_n hx hb dX2_visit_103 rfl (lv_at hl 3 rfl) ?_
            refine lv_iconst (v := (nI 1)) hx hb dX2_visit_104 (by decide) ?_
            refine x_addN (i := d) (j := 1) hx hb dX2_visit_105 ?_
            refine lv_iload_n hx hb dX2_visit_106 rfl (lv_at hl 2 rfl) ?_
            have hPc : va_P dG vwCl (SW cI g lb se qa qb qc qv qd qp (nI (qn (enq ns v d Q k))) (qb9 (enq ns v d Q k)) (nI (vi + 1)) (nI cu) (nI (pu + 1)) ++ (GW cJ g gA (nI n) (nI ec) ns ++ (LW cI cJ lb aR aV aH aD aP rk vb rc (vp_updL hs v (hs v ||| ((1 : Int64) <<< ((nI r).toInt64 &&& 63)))) (upd D (v * 48 + r) (nI d)) (upd Pp (v * 48 + r) (eN p0)) ++ X))) H := hP
            have hDc : va_D A (SW cI g lb se qa qb qc qv qd qp (nI (qn (enq ns v d Q k))) (qb9 (enq ns v d Q k)) (nI (vi + 1)) (nI cu) (nI (pu + 1)) ++ (GW cJ g gA (nI n) (nI ec) ns ++ (LW cI cJ lb aR aV aH aD aP rk vb rc (vp_updL hs v (hs v ||| ((1 : Int64) <<< ((nI r).toInt64 &&& 63)))) (upd D (v * 48 + r) (nI d)) (upd Pp (v * 48 + r) (eN p0)) ++ X))) := hD
            refine va_callv (va_runV (As := [.int (nI k), .int (nI (d + 1)), .int (nI v)]) (rest := []) ⟨hx, hb, hml, hown, hts⟩ (c_enqueue l dG cI cJ A g lb se qa qb qc qv qd qp (qn (enq ns v d Q k)) (qb9 (enq ns v d Q k)) (nI (vi + 1)) (nI cu) (nI (pu + 1)) k (d + 1) (some v) (by omega) (Nat.lt_of_lt_of_le (QI.lt (QI_enq hI hn k (by omega)) c87 (enq_free (by omega) c97)) hn) _) (cwV 3 hts gX2_visit_X2_enqueue rfl rfl rfl (by decide +kernel) ⟨Nat.le_of_ble_eq_true rfl, Nat.le_of_ble_eq_true rfl⟩) (WPc.pre hPc hDc hK (va_recv hK.1 hPc (ci := 2) (q0 := 0) rfl rfl)) rfl rfl hl.1 rfl (lv_room (Nat.le_of_ble_eq_true rfl)) dX2_visit_107 ⟨Nat.zero_le _, Nat.zero_le _⟩) hS (fun q _ h => h) (fun q h => h) (fun u t H locs ht hvm hw hB hz1 hk1 hS => ?_)
            obtain ⟨hP, hD⟩ := hB
            rw [ht] at hP
            have hP : va_P dG vwCl (SW cI g lb se qa qb qc (upd qv (qn (enq ns v d Q k)) (nI k)) (upd qd (qn (enq ns v d Q k)) (nI (d + 1))) (upd qp (qn (enq ns v d Q k)) (eN (some v))) (nI (qn (enq ns v d Q k) + 1)) (qb9 (enq ns v d Q k) ||| ((1 : Int64) <<< ((nI k).toInt64 &&& 63))) (nI (vi + 1)) (nI cu) (nI (pu + 1)) ++ (GW cJ g gA (nI n) (nI ec) ns ++ (LW cI cJ lb aR aV aH aD aP rk vb rc (vp_updL hs v (hs v ||| ((1 : Int64) <<< ((nI r).toInt64 &&& 63)))) (upd D (v * 48 + r) (nI d)) (upd Pp (v * 48 + r) (eN p0)) ++ X))) H := hP
            have hD : va_D A (SW cI g lb se qa qb qc (upd qv (qn (enq ns v d Q k)) (nI k)) (upd qd (qn (enq ns v d Q k)) (nI (d + 1))) (upd qp (qn (enq ns v d Q k)) (eN (some v))) (nI (qn (enq ns v d Q k) + 1)) (qb9 (enq ns v d Q k) ||| ((1 : Int64) <<< ((nI k).toInt64 &&& 63))) (nI (vi + 1)) (nI cu) (nI (pu + 1)) ++ (GW cJ g gA (nI n) (nI ec) ns ++ (LW cI cJ lb aR aV aH aD aP rk vb rc (vp_updL hs v (hs v ||| ((1 : Int64) <<< ((nI r).toInt64 &&& 63)))) (upd D (v * 48 + r) (nI d)) (upd Pp (v * 48 + r) (eN p0)) ++ X))) := hD
            refine x_iincN (lv' := [(7, .int (nI (k + 1))), (0, .ref se), (1, .int (nI r)), (2, .int (nI v)), (3, .int (nI d)), (4, .int (eN p0)), (5, .long (ns v &&& (qb9 Q ^^^ (-1))))]) hx hb dX2_visit_110 hl (k := 6) rfl (by decide) rfl (fun ls hl => ?_)
            refine lv_goto (tgt := 78) hx hb dX2_visit_113 (by decide) ?_
            have hE := enq_yes (d := d) (show k < 48 by omega) c97
            have hP : va_P dG vwCl (SW cI g lb se qa qb qc (upd qv (qn (enq ns v d Q k)) (nI k)) (upd qd (qn (enq ns v d Q k)) (nI (d + 1))) (upd qp (qn (enq ns v d Q k)) (eN (some v))) (nI (qn (enq ns v d Q (k + 1)))) (qb9 (enq ns v d Q (k + 1))) (nI (vi + 1)) (nI cu) (nI (pu + 1)) ++ (GW cJ g gA (nI n) (nI ec) ns ++ (LW cI cJ lb aR aV aH aD aP rk vb rc (vp_updL hs v (hs v ||| ((1 : Int64) <<< ((nI r).toInt64 &&& 63)))) (upd D (v * 48 + r) (nI d)) (upd Pp (v * 48 + r) (eN p0)) ++ X))) H := by rw [hE]; exact hP
            have hD : va_D A (SW cI g lb se qa qb qc (upd qv (qn (enq ns v d Q k)) (nI k)) (upd qd (qn (enq ns v d Q k)) (nI (d + 1))) (upd qp (qn (enq ns v d Q k)) (eN (some v))) (nI (qn (enq ns v d Q (k + 1)))) (qb9 (enq ns v d Q (k + 1))) (nI (vi + 1)) (nI cu) (nI (pu + 1)) ++ (GW cJ g gA (nI n) (nI ec) ns ++ (LW cI cJ lb aR aV aH aD aP rk vb rc (vp_updL hs v (hs v ||| ((1 : Int64) <<< ((nI r).toInt64 &&& 63)))) (upd D (v * 48 + r) (nI d)) (upd Pp (v * 48 + r) (eN p0)) ++ X))) := by rw [hE]; exact hD
            exact ih (k + 1) (upd qv (qn (enq ns v d Q k)) (nI k)) (upd qd (qn (enq ns v d Q k)) (nI (d + 1))) (upd qp (qn (enq ns v d Q k)) (eN (some v))) (by omega) (by omega) (by rw [hE]; exact QR.push h3 k (d + 1) (some v)) kx H locs hP hD hS ls (lv_sub hl [1, 2, 3, 4, 5, 6, 0] rfl)
    refine loop _ 49 0 qv qd qp (by omega) (by omega) (hQ) (fun qv qd qp h4 H locs hP hD hS ls hl => ?_) H locs hP hD hS ls (lv_sub hl [2, 3, 4, 5, 6, 1, 0] rfl)
    exact W.vret hx hb hr (fun t ht hW => ⟨⟨(qv, qd, qp, (vp_updL hs v (hs v ||| ((1 : Int64) <<< ((nI r).toInt64 &&& 63)))), (upd D (v * 48 + r) (nI d)), (upd Pp (v * 48 + r) (eN p0))), rfl, ⟨hR2, h4⟩, by rw [ht]; exact hP, hD⟩, hS.F ht⟩) hS.2.2 dX2_visit_116
  · skip
    have eF : F = (L, P, Q, vi + 1, cu + 1, pu) := hF.symm.trans (if_pos c20)
    subst eF
    refine lv_aload_n hx hb dX2_visit_23 rfl (lv_at hl 0 rfl) ?_
    refine lv_dup hx hb dX2_visit_24 rfl ?_
    refine va_get (D := dG) (ci := 2) (v := .int (nI cu)) (C := RX2) (T := TX2) (N := 10) hx hb hts hiX2 hown hK.1 hP 0 rfl rfl 8 (by decide) hf40 (fun _ h9 => h9) rfl dX2_visit_25 ?_
    refine lv_iconst (v := (nI 1)) hx hb dX2_visit_28 (by decide) ?_
    refine x_addN (i := cu) (j := 1) hx hb dX2_visit_29 ?_
    refine va_put (D := dG) (ci := 2) (v := .int (nI (cu + 1))) (ty := .int) (C := RX2) (T := TX2) (N := 10) hx hb hts hiX2 tyX2 tyX2_ok nmX2 hown hK.1 hP hD hS 0 rfl rfl 8 (by decide) hf40 (fun _ h9 => h9) rfl (by decide +kernel) rfl rfl (Nat.le_of_ble_eq_true rfl) dX2_visit_30 (fun H locs hP hD hS => ?_)
    have hP : va_P dG vwCl (SW cI g lb se qa qb qc qv qd qp (nI (qn Q)) (qb9 Q) (nI (vi + 1)) (nI (cu + 1)) (nI pu) ++ (GW cJ g gA (nI n) (nI ec) ns ++ (LW cI cJ lb aR aV aH aD aP rk vb rc hs D Pp ++ X))) H := hP
    have hD : va_D A (SW cI g lb se qa qb qc qv qd qp (nI (qn Q)) (qb9 Q) (nI (vi + 1)) (nI (cu + 1)) (nI pu) ++ (GW cJ g gA (nI n) (nI ec) ns ++ (LW cI cJ lb aR aV aH aD aP rk vb rc hs D Pp ++ X))) := hD
    exact W.vret hx hb hr (fun t ht hW => ⟨⟨(qv, qd, qp, hs, D, Pp), rfl, ⟨hR, hQ⟩, by rw [ht]; exact hP, hD⟩, hS.F ht⟩) hS.2.2 dX2_visit_33
end
section
/-! SEARCHES: the whole of one, of a building, of an extension -/
theorem SI_run {ns : Nat → Int64} {n h r d0 B : Nat} (hn : n ≤ 48) (hB : d0 + 48 ≤ B) : ∀ (f t : Nat) (S : ST), SI n d0 B S → SI n d0 B (srun ns n h r f t S)
  | 0, _, _, q => q
  | f + 1, t, S, q => by
    show SI n d0 B (if _ then _ else _)
    by_cases e : t < qn S.2.2.1
    · rw [if_pos e]; exact SI_run hn hB f (t + 1) _ (SI_vst q hn e hB)
    · rw [if_neg e]; exact q
/-- labels and counts -/
abbrev BT : Type := (Nat → Nat → Option Nat) × (Nat → Nat → Option Nat) × Nat × Nat × Nat
def cutq (F : ST) : BT := (F.1, F.2.1, F.2.2.2.1, F.2.2.2.2.1, F.2.2.2.2.2)
def sr0 (ns : Nat → Int64) (n h r s d : Nat) (p : Option Nat) (S : BT) : ST := srch ns n h r s d p S.1 S.2.1 S.2.2.1 S.2.2.2.1 S.2.2.2.2
def sr1 (ns : Nat → Int64) (n h r s d : Nat) (p : Option Nat) (S : BT) : BT := cutq (sr0 ns n h r s d p S)
theorem sr1_lbd {ns : Nat → Int64} {n h r s d B : Nat} {p : Option Nat} {S : BT} (hs : s < n) (hn : n ≤ 48) (hL : LBd S.1 B) (hd : d + 48 ≤ B) : LBd (sr1 ns n h r s d p S).1 B :=
  (SI_run hn hd 48 0 _ (SI.start hs hn hL)).2.2
/-- a building: the searches of the ranks below k -/
def bl (ns : Nat → Int64) (n : Nat) (hb : Nat → Nat) : Nat → BT
  | 0 => (fun _ _ => none, fun _ _ => none, 0, 0, 0)
  | k + 1 => sr1 ns n (hb k) k (hb k) 0 none (bl ns n hb k)
theorem bl_lbd {ns : Nat → Int64} {n : Nat} {hb : Nat → Nat} (hn : n ≤ 48) (hh : ∀ k, k < n → hb k < n) : ∀ k, k ≤ n → LBd (bl ns n hb k).1 48
  | 0, _ => fun v r d e => by cases e
  | k + 1, hk => sr1_lbd (hh k hk) hn (bl_lbd hn hh k (by omega)) (by omega)
/-- an extension by the edge a b: the hubs of the ranks below k -/
def ex1 (ns : Nat → Int64) (n : Nat) (hb : Nat → Nat) (a b k : Nat) (S : BT) : BT := match S.1 a k with
  | some x => sr1 ns n (hb k) k b (x + 1) (some a) S
  | none => S
def ex2 (ns : Nat → Int64) (n : Nat) (hb : Nat → Nat) (a b k : Nat) (o : Option Nat) (S : BT) : BT := match o with
  | some y => sr1 ns n (hb k) k a (y + 1) (some b) S
  | none => S
def ex (ns : Nat → Int64) (n : Nat) (hb : Nat → Nat) (a b : Nat) (L P : Nat → Nat → Option Nat) : Nat → BT
  | 0 => (L, P, 0, 0, 0)
  | k + 1 => ex2 ns n hb a b k ((ex ns n hb a b L P k).1 b k) (ex1 ns n hb a b k (ex ns n hb a b L P k))
theorem ex1_lbd {ns : Nat → Int64} {n a b k B : Nat} {hb : Nat → Nat} {S : BT} (hb0 : b < n) (hn : n ≤ 48) (h : LBd S.1 B) : LBd (ex1 ns n hb a b k S).1 (B + 49) := by
  unfold ex1
  cases e : S.1 a k with
  | none => exact h.mono (by omega)
  | some x => exact sr1_lbd hb0 hn (h.mono (by omega)) (by have := h a k x e; omega)
theorem ex_lbd {ns : Nat → Int64} {n a b B : Nat} {hb : Nat → Nat} {L P : Nat → Nat → Option Nat} (ha : a < n) (hb0 : b < n) (hn : n ≤ 48) (h : LBd L B) : ∀ k, LBd (ex ns n hb a b L P k).1 (B + 98 * k)
  | 0 => h
  | k + 1 => by
    have ih := ex_lbd (ns := ns) (hb := hb) (P := P) ha hb0 hn h k
    have h1 := ex1_lbd (ns := ns) (a := a) (k := k) (hb := hb) hb0 hn ih
    show LBd (ex2 ns n hb a b k ((ex ns n hb a b L P k).1 b k) (ex1 ns n hb a b k (ex ns n hb a b L P k))).1 _
    unfold ex2
    cases e : (ex ns n hb a b L P k).1 b k with
    | none => exact h1.mono (by omega)
    | some y => exact sr1_lbd ha hn (h1.mono (by omega)) (by have := ih b k y e; omega)
/-- the vertex of a rank -/
noncomputable def hbf (dg : Nat → Nat) (n k : Nat) : Nat := if h : ∃ v, v < n ∧ ahd dg n v = k then Classical.choose h else 0
theorem hbf_ok {dg : Nat → Nat} {n k : Nat} (hk : k < n) : hbf dg n k < n ∧ ahd dg n (hbf dg n k) = k := by
  have h : ∃ v, v < n ∧ ahd dg n v = k := by
    obtain ⟨i, h1, h2⟩ := fb_onto (n := n) (f := ahd dg n) (fun i hi => ahd_n hi) (fun i j hij hj e => by
      have := ahd_inj (Nat.lt_trans hij hj) hj e
      omega) hk
    exact ⟨i, h1, h2⟩
  unfold hbf
  rw [dif_pos h]
  exact Classical.choose_spec h
theorem hbf_ahd {dg : Nat → Nat} {n v : Nat} (hv : v < n) : hbf dg n (ahd dg n v) = v :=
  ahd_inj (hbf_ok (ahd_n hv)).1 hv (hbf_ok (ahd_n hv)).2
theorem RI.hub {dg : Nat → Nat} {n : Nat} {rk vb : Nat → Int32} (h : RI dg n 0 0 rk vb) {k : Nat} (hk : k < n) : vb k = nI (hbf dg n k) := by
  have h1 := hbf_ok (dg := dg) hk
  have h2 := (h.all _ h1.1).2
  rw [h1.2] at h2
  exact h2
end
section
/-! Searches: a search, a building, an extension -/
set_option maxHeartbeats 4000000 in
set_option maxRecDepth 100000 in
/-- Searches.search -/
theorem c_search (l : Launch) (dG : va_G) (cI cJ : ClassId) (A : Nat → Prop) (g gA lb aR aV aH aD aP se qa qb qc : Nat) (rk vb : Nat → Int32) (rc : Int32) (n ec : Nat) (ns : Nat → Int64) (hn : n ≤ 48) (qv qd qp : Nat → Int32) (ql : Int32) (qs : Int64) (hs : Nat → Int64) (D Pp : Nat → Int32) (L P : Nat → Nat → Option Nat) (vi cu pu B : Nat) (hR : RepL L P hs D Pp) (hL : LBd L B) (hB3 : B ≤ 2 ^ 30) (r v d h : Nat) (p0 : Option Nat) (hr0 : r < 48) (hv : v < n) (hd : d + 48 ≤ B) (hh : h < 48) (eh : vb r = nI h) (F : ST) (hF : srch ns n h r v d p0 L P vi cu pu = F) (X : va_W) : Met l yX2_search wsX2_search ({ frames := 4, cells := 0, slots := 0, locals := 97 } : Room) (WPc dG cI cJ [.ref se, .int (nI r), .int (nI v), .int (nI d), .int (eN p0)] (SW cI g lb se qa qb qc qv qd qp ql qs (nI vi) (nI cu) (nI pu) ++ (GW cJ g gA (nI n) (nI ec) ns ++ (LW cI cJ lb aR aV aH aD aP rk vb rc hs D Pp ++ X))) A) (va_Qv (S := (Nat → Int32) × (Nat → Int32) × (Nat → Int32) × (Nat → Int64) × (Nat → Int32) × (Nat → Int32)) (fun u => RepL F.1 F.2.1 u.2.2.2.1 u.2.2.2.2.1 u.2.2.2.2.2 ∧ QR u.1 u.2.1 u.2.2.1 F.2.2.1) (fun u => WB dG A (SW cI g lb se qa qb qc u.1 u.2.1 u.2.2.1 (nI (qn F.2.2.1)) (qb9 F.2.2.1) (nI F.2.2.2.1) (nI F.2.2.2.2.1) (nI F.2.2.2.2.2) ++ (GW cJ g gA (nI n) (nI ec) ns ++ (LW cI cJ lb aR aV aH aD aP rk vb rc u.2.2.2.1 u.2.2.2.2.1 u.2.2.2.2.2 ++ X)))) A) 0 0 A := by
  refine Met.ofW (cc := cX2_search) (maxL := 6) (ret := none) (by decide) rfl ?_
  intro p e s m args below meth c s₁ B9 hml hv
  obtain ⟨rfl, hP, hK, hD⟩ := hv
  have hx := B9.exec
  have hb := B9.bytes
  have hr := B9.returns
  have hts := atoms_spec (ws := wsX2_search) B9.pre
  have hown : s.vm.findClass RX2 = some m.cls := findClass_of_methodNamed B9.named
  have hlocks := B9.notSynchronized
  have hS : va_S A s.heap s.heap [] := va_S.rf
  have hl := lv_entry ([.ref se, .int (nI r), .int (nI v), .int (nI d), .int (eN p0)]) (n := 6) (Nat.le_of_ble_eq_true rfl)
  rw [lg_entry_eq]
  generalize (lg_sl ([.ref se, .int (nI r), .int (nI v), .int (nI d), .int (eN p0)]) ++ List.replicate (6 - (lg_sl ([.ref se, .int (nI r), .int (nI v), .int (nI d), .int (eN p0)])).length) Slot.unset).toArray = ls at hl ⊢
  have hl : lv_has ls 6 [(0, .ref se), (1, .int (nI r)), (2, .int (nI v)), (3, .int (nI d)), (4, .int (eN p0))] := hl
  have hiX2 : ∀ w ∈ wsX20, w ∈ wsX2_search := by decide +kernel
  have hf19 := hts (.fieldLink RX2 19 "LandmarkLea$Searches" "queueVertices" "[I") (by decide +kernel)
  have hf23 := hts (.fieldLink RX2 23 "LandmarkLea$Searches" "queueDistances" "[I") (by decide +kernel)
  have hf26 := hts (.fieldLink RX2 26 "LandmarkLea$Searches" "queueParents" "[I") (by decide +kernel)
  have hf29 := hts (.fieldLink RX2 29 "LandmarkLea$Searches" "queueLength" "I") (by decide +kernel)
  have hf33 := hts (.fieldLink RX2 33 "LandmarkLea$Searches" "queuedSet" "J") (by decide +kernel)
  refine lv_aload_n hx hb dX2_search_0 rfl (lv_at hl 0 rfl) ?_
  refine lv_iconst (v := (nI 0)) hx hb dX2_search_1 (by decide) ?_
  refine va_put (D := dG) (ci := 2) (v := .int (nI 0)) (ty := .int) (C := RX2) (T := TX2) (N := 10) hx hb hts hiX2 tyX2 tyX2_ok nmX2 hown hK.1 hP hD hS 0 rfl rfl 5 (by decide) hf29 (fun _ h9 => h9) rfl (by decide +kernel) rfl rfl (Nat.le_of_ble_eq_true rfl) dX2_search_2 (fun H locs hP hD hS => ?_)
  have hP : va_P dG vwCl (SW cI g lb se qa qb qc qv qd qp (nI 0) qs (nI vi) (nI cu) (nI pu) ++ (GW cJ g gA (nI n) (nI ec) ns ++ (LW cI cJ lb aR aV aH aD aP rk vb rc hs D Pp ++ X))) H := hP
  have hD : va_D A (SW cI g lb se qa qb qc qv qd qp (nI 0) qs (nI vi) (nI cu) (nI pu) ++ (GW cJ g gA (nI n) (nI ec) ns ++ (LW cI cJ lb aR aV aH aD aP rk vb rc hs D Pp ++ X))) := hD
  refine lv_aload_n hx hb dX2_search_5 rfl (lv_at hl 0 rfl) ?_
  refine lv_lconst (v := 0) hx hb dX2_search_6 rfl ?_
  refine va_put (D := dG) (ci := 2) (v := .long 0) (ty := .long) (C := RX2) (T := TX2) (N := 10) hx hb hts hiX2 tyX2 tyX2_ok nmX2 hown hK.1 hP hD hS 0 rfl rfl 6 (by decide) hf33 (fun _ h9 => h9) rfl (by decide +kernel) rfl rfl (Nat.le_of_ble_eq_true rfl) dX2_search_7 (fun H locs hP hD hS => ?_)
  have hP : va_P dG vwCl (SW cI g lb se qa qb qc qv qd qp (nI 0) 0 (nI vi) (nI cu) (nI pu) ++ (GW cJ g gA (nI n) (nI ec) ns ++ (LW cI cJ lb aR aV aH aD aP rk vb rc hs D Pp ++ X))) H := hP
  have hD : va_D A (SW cI g lb se qa qb qc qv qd qp (nI 0) 0 (nI vi) (nI cu) (nI pu) ++ (GW cJ g gA (nI n) (nI ec) ns ++ (LW cI cJ lb aR aV aH aD aP rk vb rc hs D Pp ++ X))) := hD
  refine lv_aload_n hx hb dX2_search_10 rfl (lv_at hl 0 rfl) ?_
  refine lv_iload_n hx hb dX2_search_11 rfl (lv_at hl 2 rfl) ?_
  refine lv_iload_n hx hb dX2_search_12 rfl (lv_at hl 3 rfl) ?_
  refine lv_iload hx hb dX2_search_13 (lv_at hl 4 rfl) ?_
  have hPc : va_P dG vwCl (SW cI g lb se qa qb qc qv qd qp (nI 0) 0 (nI vi) (nI cu) (nI pu) ++ (GW cJ g gA (nI n) (nI ec) ns ++ (LW cI cJ lb aR aV aH aD aP rk vb rc hs D Pp ++ X))) H := hP
  have hDc : va_D A (SW cI g lb se qa qb qc qv qd qp (nI 0) 0 (nI vi) (nI cu) (nI pu) ++ (GW cJ g gA (nI n) (nI ec) ns ++ (LW cI cJ lb aR aV aH aD aP rk vb rc hs D Pp ++ X))) := hD
  refine va_callv (va_runV (As := [.int (nI v), .int (nI d), .int (eN p0)]) (rest := []) ⟨hx, hb, hml, hown, hts⟩ (c_enqueue l dG cI cJ A g lb se qa qb qc qv qd qp 0 0 (nI vi) (nI cu) (nI pu) v d p0 (by omega) (by omega) _) (cwV 3 hts gX2_search_X2_enqueue rfl rfl rfl (by decide +kernel) ⟨Nat.le_of_ble_eq_true rfl, Nat.le_of_ble_eq_true rfl⟩) (WPc.pre hPc hDc hK (va_recv hK.1 hPc (ci := 2) (q0 := 0) rfl rfl)) rfl rfl hl.1 rfl (lv_room (Nat.le_of_ble_eq_true rfl)) dX2_search_15 ⟨Nat.zero_le _, Nat.zero_le _⟩) hS (fun q _ h => h) (fun q h => h) (fun u t H locs ht hvm hw hB hz1 hk1 hS => ?_)
  obtain ⟨hP, hD⟩ := hB
  rw [ht] at hP
  have hP : va_P dG vwCl (SW cI g lb se qa qb qc (upd qv 0 (nI v)) (upd qd 0 (nI d)) (upd qp 0 (eN p0)) (nI (qn (qpush q00 v d p0))) (qb9 (qpush q00 v d p0)) (nI vi) (nI cu) (nI pu) ++ (GW cJ g gA (nI n) (nI ec) ns ++ (LW cI cJ lb aR aV aH aD aP rk vb rc hs D Pp ++ X))) H := hP
  have hD : va_D A (SW cI g lb se qa qb qc (upd qv 0 (nI v)) (upd qd 0 (nI d)) (upd qp 0 (eN p0)) (nI (qn (qpush q00 v d p0))) (qb9 (qpush q00 v d p0)) (nI vi) (nI cu) (nI pu) ++ (GW cJ g gA (nI n) (nI ec) ns ++ (LW cI cJ lb aR aV aH aD aP rk vb rc hs D Pp ++ X))) := hD
  refine lv_iconst (v := (nI 0)) hx hb dX2_search_18 (by decide) ?_
  refine lv_istore (lv' := [(5, .int (nI 0)), (0, .ref se), (1, .int (nI r)), (2, .int (nI v)), (3, .int (nI d)), (4, .int (eN p0))]) hx hb dX2_search_19 hl (by decide) rfl (fun ls hl => ?_)
  have hP : va_P dG vwCl (SW cI g lb se qa qb qc (upd qv 0 (nI v)) (upd qd 0 (nI d)) (upd qp 0 (eN p0)) (nI (qn (((L, P, (qpush q00 v d p0), vi, cu, pu) : ST).2.2.1))) (qb9 (((L, P, (qpush q00 v d p0), vi, cu, pu) : ST).2.2.1)) (nI (((L, P, (qpush q00 v d p0), vi, cu, pu) : ST).2.2.2.1)) (nI (((L, P, (qpush q00 v d p0), vi, cu, pu) : ST).2.2.2.2.1)) (nI (((L, P, (qpush q00 v d p0), vi, cu, pu) : ST).2.2.2.2.2)) ++ (GW cJ g gA (nI n) (nI ec) ns ++ (LW cI cJ lb aR aV aH aD aP rk vb rc hs D Pp ++ X))) H := hP
  have hD : va_D A (SW cI g lb se qa qb qc (upd qv 0 (nI v)) (upd qd 0 (nI d)) (upd qp 0 (eN p0)) (nI (qn (((L, P, (qpush q00 v d p0), vi, cu, pu) : ST).2.2.1))) (qb9 (((L, P, (qpush q00 v d p0), vi, cu, pu) : ST).2.2.1)) (nI (((L, P, (qpush q00 v d p0), vi, cu, pu) : ST).2.2.2.1)) (nI (((L, P, (qpush q00 v d p0), vi, cu, pu) : ST).2.2.2.2.1)) (nI (((L, P, (qpush q00 v d p0), vi, cu, pu) : ST).2.2.2.2.2)) ++ (GW cJ g gA (nI n) (nI ec) ns ++ (LW cI cJ lb aR aV aH aD aP rk vb rc hs D Pp ++ X))) := hD
  have hQ0 : QR qv qd qp q00 := fun i hi => absurd hi (Nat.not_lt_zero i)
  have loop : ∀ (QQ : State → Prop) (n1 : Nat) (k : Nat) (qv qd qp : Nat → Int32) (hs : Nat → Int64) (D Pp : Nat → Int32) (S : ST), 48 < k + n1 → k ≤ 48 → srun ns n h r (48 - k) k S = F → SI n d B S → RepL S.1 S.2.1 hs D Pp → QR qv qd qp S.2.2.1 → (∀ (k : Nat) (qv qd qp : Nat → Int32) (hs : Nat → Int64) (D Pp : Nat → Int32) (_ : RepL F.1 F.2.1 hs D Pp) (_ : QR qv qd qp F.2.2.1), ∀ (H : Heap) (locs : List Loc), va_P dG vwCl (SW cI g lb se qa qb qc qv qd qp (nI (qn F.2.2.1)) (qb9 F.2.2.1) (nI F.2.2.2.1) (nI F.2.2.2.2.1) (nI F.2.2.2.2.2) ++ (GW cJ g gA (nI n) (nI ec) ns ++ (LW cI cJ lb aR aV aH aD aP rk vb rc hs D Pp ++ X))) H → va_D A (SW cI g lb se qa qb qc qv qd qp (nI (qn F.2.2.1)) (qb9 F.2.2.1) (nI F.2.2.2.1) (nI F.2.2.2.2.1) (nI F.2.2.2.2.2) ++ (GW cJ g gA (nI n) (nI ec) ns ++ (LW cI cJ lb aR aV aH aD aP rk vb rc hs D Pp ++ X))) → va_S A s.heap H locs → ∀ ls : Array Slot, lv_has ls 6 [(0, .ref se), (1, .int (nI r)), (2, .int (nI v)), (3, .int (nI d)), (4, .int (eN p0)), (5, .int (nI k))] → W p l e ({ frames := 4, cells := 0, slots := 0, locals := 97 } : Room) s m ([.ref se, .int (nI r), .int (nI v), .int (nI d), .int (eN p0)] : List Value).toArray below meth c H locs 0 0 QQ (F0 m 69 ls [])) → ∀ (H : Heap) (locs : List Loc), va_P dG vwCl (SW cI g lb se qa qb qc qv qd qp (nI (qn S.2.2.1)) (qb9 S.2.2.1) (nI S.2.2.2.1) (nI S.2.2.2.2.1) (nI S.2.2.2.2.2) ++ (GW cJ g gA (nI n) (nI ec) ns ++ (LW cI cJ lb aR aV aH aD aP rk vb rc hs D Pp ++ X))) H → va_D A (SW cI g lb se qa qb qc qv qd qp (nI (qn S.2.2.1)) (qb9 S.2.2.1) (nI S.2.2.2.1) (nI S.2.2.2.2.1) (nI S.2.2.2.2.2) ++ (GW cJ g gA (nI n) (nI ec) ns ++ (LW cI cJ lb aR aV aH aD aP rk vb rc hs D Pp ++ X))) → va_S A s.heap H locs → ∀ ls : Array Slot, lv_has ls 6 [(0, .ref se), (1, .int (nI r)), (2, .int (nI v)), (3, .int (nI d)), (4, .int (eN p0)), (5, .int (nI k))] → W p l e ({ frames := 4, cells := 0, slots := 0, locals := 97 } : Room) s m ([.ref se, .int (nI r), .int (nI v), .int (nI d), .int (eN p0)] : List Value).toArray below meth c H locs 0 0 QQ (F0 m 21 ls []) := by
    intro QQ n1
    induction n1 with
    | zero => intro k qv qd qp hs D Pp S h1 h2 h3 hSI hR hQ; exact absurd h1 (by omega)
    | succ n1 ih =>
      intro k qv qd qp hs D Pp S h1 h2 h3 hSI hR hQ kx H locs hP hD hS ls hl
      refine lv_iload hx hb dX2_search_21 (lv_at hl 5 rfl) ?_
      refine lv_aload_n hx hb dX2_search_23 rfl (lv_at hl 0 rfl) ?_
      refine va_get (D := dG) (ci := 2) (v := .int (nI (qn S.2.2.1))) (C := RX2) (T := TX2) (N := 10) hx hb hts hiX2 hown hK.1 hP 0 rfl rfl 5 (by decide) hf29 (fun _ h9 => h9) rfl dX2_search_24 ?_
      refine x_icmp_geN (i := k) (j := (qn S.2.2.1)) (tgt := 69) hx hb (by omega) (by have := hSI.1.le; omega) dX2_search_27 (by decide) (fun c27 => ?_) (fun c27 => ?_)
      · skip
        have eF := srun_end c27 h3
        subst eF
        exact kx (k) (qv) (qd) (qp) (hs) (D) (Pp) (hR) (hQ) H locs hP hD hS ls (lv_sub hl [0, 1, 2, 3, 4, 5] rfl)
      · skip
        refine lv_iload hx hb dX2_search_30 (lv_at hl 5 rfl) ?_
        refine lv_bipush (v := (nI 48)) hx hb dX2_search_32 (by decide) ?_
        refine x_icmp_geN (i := k) (j := 48) (tgt := 69) hx hb (by omega) (by omega) dX2_search_34 (by decide) (fun c34 => ?_) (fun c34 => ?_)
        · skip
          exact absurd c34 (by have := hSI.1.le; omega)
        · skip
          refine lv_aload_n hx hb dX2_search_37 rfl (lv_at hl 0 rfl) ?_
          refine lv_iload_n hx hb dX2_search_38 rfl (lv_at hl 1 rfl) ?_
          refine lv_aload_n hx hb dX2_search_39 rfl (lv_at hl 0 rfl) ?_
          refine va_get (D := dG) (ci := 2) (v := .ref qa) (C := RX2) (T := TX2) (N := 10) hx hb hts hiX2 hown hK.1 hP 0 rfl rfl 2 (by decide) hf19 (fun _ h9 => h9) rfl dX2_search_40 ?_
          refine lv_iload hx hb dX2_search_43 (lv_at hl 5 rfl) ?_
          refine x_iald (f := qv) hx hb hK hP 1 rfl (by omega) (by decide) dX2_search_45 ?_
          rw [show qv k = (nI (S.2.2.1.1 k)) from (hQ k c27).1]
          refine lv_aload_n hx hb dX2_search_46 rfl (lv_at hl 0 rfl) ?_
          refine va_get (D := dG) (ci := 2) (v := .ref qb) (C := RX2) (T := TX2) (N := 10) hx hb hts hiX2 hown hK.1 hP 0 rfl rfl 3 (by decide) hf23 (fun _ h9 => h9) rfl dX2_search_47 ?_
          refine lv_iload hx hb dX2_search_50 (lv_at hl 5 rfl) ?_
          refine x_iald (f := qd) hx hb hK hP 2 rfl (by omega) (by decide) dX2_search_52 ?_
          rw [show qd k = (nI (S.2.2.1.2.1 k)) from (hQ k c27).2.1]
          refine lv_aload_n hx hb dX2_search_53 rfl (lv_at hl 0 rfl) ?_
          refine va_get (D := dG) (ci := 2) (v := .ref qc) (C := RX2) (T := TX2) (N := 10) hx hb hts hiX2 hown hK.1 hP 0 rfl rfl 4 (by decide) hf26 (fun _ h9 => h9) rfl dX2_search_54 ?_
          refine lv_iload hx hb dX2_search_57 (lv_at hl 5 rfl) ?_
          refine x_iald (f := qp) hx hb hK hP 3 rfl (by omega) (by decide) dX2_search_59 ?_
          rw [show qp k = (eN (S.2.2.1.2.2.1 k)) from (hQ k c27).2.2]
          obtain ⟨F2, hF2⟩ : ∃ F2, vst ns n h r (S.2.2.1.1 k) (S.2.2.1.2.1 k) (S.2.2.1.2.2.1 k) S = F2 := ⟨_, rfl⟩
          have hPc : va_P dG vwCl (SW cI g lb se qa qb qc qv qd qp (nI (qn S.2.2.1)) (qb9 S.2.2.1) (nI S.2.2.2.1) (nI S.2.2.2.2.1) (nI S.2.2.2.2.2) ++ (GW cJ g gA (nI n) (nI ec) ns ++ (LW cI cJ lb aR aV aH aD aP rk vb rc hs D Pp ++ X))) H := hP
          have hDc : va_D A (SW cI g lb se qa qb qc qv qd qp (nI (qn S.2.2.1)) (qb9 S.2.2.1) (nI S.2.2.2.1) (nI S.2.2.2.2.1) (nI S.2.2.2.2.2) ++ (GW cJ g gA (nI n) (nI ec) ns ++ (LW cI cJ lb aR aV aH aD aP rk vb rc hs D Pp ++ X))) := hD
          refine va_callv (va_runV (As := [.int (nI r), .int (nI (S.2.2.1.1 k)), .int (nI (S.2.2.1.2.1 k)), .int (eN (S.2.2.1.2.2.1 k))]) (rest := []) ⟨hx, hb, hml, hown, hts⟩ (c_visit l dG cI cJ A g gA lb aR aV aH aD aP se qa qb qc rk vb rc n ec ns hn qv qd qp hs D Pp S.1 S.2.1 S.2.2.1 S.2.2.2.1 S.2.2.2.2.1 S.2.2.2.2.2 hR hQ hSI.1 (hSI.2.2.mono hB3) r (S.2.2.1.1 k) (S.2.2.1.2.1 k) h (S.2.2.1.2.2.1 k) hr0 (hSI.1.2 k c27) (by have := hSI.2.1 k c27; omega) hh eh F2 hF2 _) (cwV 4 hts gX2_search_X2_visit rfl rfl rfl (by decide +kernel) ⟨Nat.le_of_ble_eq_true rfl, Nat.le_of_ble_eq_true rfl⟩) (WPc.pre hPc hDc hK (va_recv hK.1 hPc (ci := 2) (q0 := 0) rfl rfl)) rfl rfl hl.1 rfl (lv_room (Nat.le_of_ble_eq_true rfl)) dX2_search_60 ⟨Nat.zero_le _, Nat.zero_le _⟩) hS (fun q _ h => h) (fun q h => h) (fun u t H locs ht hvm hw hB hz1 hk1 hS => ?_)
          obtain ⟨qv, qd, qp, hs, D, Pp⟩ := u
          obtain ⟨hP, hD⟩ := hB
          rw [ht] at hP
          have hP : va_P dG vwCl (SW cI g lb se qa qb qc qv qd qp (nI (qn F2.2.2.1)) (qb9 F2.2.2.1) (nI F2.2.2.2.1) (nI F2.2.2.2.2.1) (nI F2.2.2.2.2.2) ++ (GW cJ g gA (nI n) (nI ec) ns ++ (LW cI cJ lb aR aV aH aD aP rk vb rc hs D Pp ++ X))) H := hP
          have hD : va_D A (SW cI g lb se qa qb qc qv qd qp (nI (qn F2.2.2.1)) (qb9 F2.2.2.1) (nI F2.2.2.2.1) (nI F2.2.2.2.2.1) (nI F2.2.2.2.2.2) ++ (GW cJ g gA (nI n) (nI ec) ns ++ (LW cI cJ lb aR aV aH aD aP rk vb rc hs D Pp ++ X))) := hD
          refine x_iincN (lv' := [(5, .int (nI (k + 1))), (0, .ref se), (1, .int (nI r)), (2, .int (nI v)), (3, .int (nI d)), (4, .int (eN p0))]) hx hb dX2_search_63 hl (k := 5) rfl (by decide) rfl (fun ls hl => ?_)
          refine lv_goto (tgt := 21) hx hb dX2_search_66 (by decide) ?_
          have hS2 := SI_vst (ns := ns) (h := h) (r := r) hSI hn c27 hd
          rw [hF2] at hS2
          exact ih (k + 1) qv qd qp hs D Pp F2 (by omega) (by omega) (by rw [← hF2]; exact srun_go (by have := hSI.1.le; omega) c27 h3) (hS2) (hw.1) (hw.2) kx H locs hP hD hS ls (lv_sub hl [1, 2, 3, 4, 5, 0] rfl)
  refine loop _ 49 0 (upd qv 0 (nI v)) (upd qd 0 (nI d)) (upd qp 0 (eN p0)) hs D Pp ((L, P, (qpush q00 v d p0), vi, cu, pu) : ST) (by omega) (by omega) (hF) (SI.start hv hn hL) (hR) (hQ0.push v d p0) (fun k qv qd qp hs D Pp hR hQ H locs hP hD hS ls hl => ?_) H locs hP hD hS ls (lv_sub hl [1, 2, 3, 4, 5, 0] rfl)
  exact W.vret hx hb hr (fun t ht hW => ⟨⟨(qv, qd, qp, hs, D, Pp), rfl, ⟨hR, hQ⟩, by rw [ht]; exact hP, hD⟩, hS.F ht⟩) hS.2.2 dX2_search_69

set_option maxHeartbeats 4000000 in
set_option maxRecDepth 100000 in
/-- Searches.labelAll -/
theorem c_labelAll (l : Launch) (dG : va_G) (cI cJ : ClassId) (A : Nat → Prop) (g gA lb aR aV aH aD aP se qa qb qc : Nat) (rk vb : Nat → Int32) (rc : Int32) (n ec : Nat) (ns : Nat → Int64) (hn : n ≤ 48) (qv qd qp : Nat → Int32) (ql : Int32) (qs : Int64) (vi cu pu : Int32) (hs : Nat → Int64) (D Pp : Nat → Int32) (dg : Nat → Nat) (hdg : dg = fun v => fb_ct (gb (ns v)) 64) (hd : ∀ v, v < n → dg v < 48) (F : BT) (hF : bl ns n (hbf dg n) n = F) (X : va_W) : Met l yX2_labelAll wsX2_labelAll ({ frames := 5, cells := 0, slots := 0, locals := 122 } : Room) (WPc dG cI cJ [.ref se] (SW cI g lb se qa qb qc qv qd qp ql qs vi cu pu ++ (GW cJ g gA (nI n) (nI ec) ns ++ (LW cI cJ lb aR aV aH aD aP rk vb rc hs D Pp ++ X))) A) (va_Qi (S := (Nat → Int32) × (Nat → Int32) × Int32 × Int64 × (Nat → Int32) × (Nat → Int32) × (Nat → Int32) × (Nat → Int64) × (Nat → Int32) × (Nat → Int32)) (fun r u => r = nI F.2.2.1 ∧ RI dg n 0 0 u.1 u.2.1 ∧ RepL F.1 F.2.1 u.2.2.2.2.2.2.2.1 u.2.2.2.2.2.2.2.2.1 u.2.2.2.2.2.2.2.2.2) (fun u => WB dG A (SW cI g lb se qa qb qc u.2.2.2.2.1 u.2.2.2.2.2.1 u.2.2.2.2.2.2.1 u.2.2.1 u.2.2.2.1 (nI F.2.2.1) (nI F.2.2.2.1) (nI F.2.2.2.2) ++ (GW cJ g gA (nI n) (nI ec) ns ++ (LW cI cJ lb aR aV aH aD aP u.1 u.2.1 (nI n) u.2.2.2.2.2.2.2.1 u.2.2.2.2.2.2.2.2.1 u.2.2.2.2.2.2.2.2.2 ++ X)))) A) 0 0 A := by
  refine Met.ofW (cc := cX2_labelAll) (maxL := 2) (ret := (some .int)) (by decide) rfl ?_
  intro p e s m args below meth c s₁ B9 hml hv
  obtain ⟨rfl, hP, hK, hD⟩ := hv
  have hx := B9.exec
  have hb := B9.bytes
  have hr := B9.returns
  have hts := atoms_spec (ws := wsX2_labelAll) B9.pre
  have hown : s.vm.findClass RX2 = some m.cls := findClass_of_methodNamed B9.named
  have hlocks := B9.notSynchronized
  have hS : va_S A s.heap s.heap [] := va_S.rf
  have hl := lv_entry ([.ref se]) (n := 2) (Nat.le_of_ble_eq_true rfl)
  rw [lg_entry_eq]
  generalize (lg_sl ([.ref se]) ++ List.replicate (2 - (lg_sl ([.ref se])).length) Slot.unset).toArray = ls at hl ⊢
  have hl : lv_has ls 2 [(0, .ref se)] := hl
  have hiX2 : ∀ w ∈ wsX20, w ∈ wsX2_labelAll := by decide +kernel
  have hf9 := hts (.fieldLink RX2 9 "LandmarkLea$Searches" "graph" "LLandmarkLea$Graph;") (by decide +kernel)
  have hf15 := hts (.fieldLink RX2 15 "LandmarkLea$Searches" "labels" "LLandmarkLea$Labels;") (by decide +kernel)
  have hf37 := hts (.fieldLink RX2 37 "LandmarkLea$Searches" "visitCount" "I") (by decide +kernel)
  refine lv_aload_n hx hb dX2_labelAll_0 rfl (lv_at hl 0 rfl) ?_
  have hPc : va_P dG vwCl (SW cI g lb se qa qb qc qv qd qp ql qs vi cu pu ++ (GW cJ g gA (nI n) (nI ec) ns ++ (LW cI cJ lb aR aV aH aD aP rk vb rc hs D Pp ++ X))) s.heap := hP
  have hDc : va_D A (SW cI g lb se qa qb qc qv qd qp ql qs vi cu pu ++ (GW cJ g gA (nI n) (nI ec) ns ++ (LW cI cJ lb aR aV aH aD aP rk vb rc hs D Pp ++ X))) := hD
  refine va_callv (va_runV (As := []) (rest := []) ⟨hx, hb, hml, hown, hts⟩ (c_forgetCounts l dG cI cJ A g lb se qa qb qc qv qd qp ql qs vi cu pu _) (cwV 0 hts gX2_labelAll_X2_forgetCounts rfl rfl rfl (by decide +kernel) ⟨Nat.le_of_ble_eq_true rfl, Nat.le_of_ble_eq_true rfl⟩) (WPc.pre hPc hDc hK (va_recv hK.1 hPc (ci := 2) (q0 := 0) rfl rfl)) rfl rfl hl.1 rfl (lv_room (Nat.le_of_ble_eq_true rfl)) dX2_labelAll_1 ⟨Nat.zero_le _, Nat.zero_le _⟩) hS (fun q _ h => h) (fun q h => h) (fun u t H locs ht hvm hw hB hz1 hk1 hS => ?_)
  obtain ⟨hP, hD⟩ := hB
  rw [ht] at hP
  have hP : va_P dG vwCl (SW cI g lb se qa qb qc qv qd qp ql qs (nI 0) (nI 0) (nI 0) ++ (GW cJ g gA (nI n) (nI ec) ns ++ (LW cI cJ lb aR aV aH aD aP rk vb rc hs D Pp ++ X))) H := hP
  have hD : va_D A (SW cI g lb se qa qb qc qv qd qp ql qs (nI 0) (nI 0) (nI 0) ++ (GW cJ g gA (nI n) (nI ec) ns ++ (LW cI cJ lb aR aV aH aD aP rk vb rc hs D Pp ++ X))) := hD
  refine lv_aload_n hx hb dX2_labelAll_4 rfl (lv_at hl 0 rfl) ?_
  refine va_get (D := dG) (ci := 2) (v := .ref lb) (C := RX2) (T := TX2) (N := 10) hx hb hts hiX2 hown hK.1 hP 0 rfl rfl 1 (by decide) hf15 (fun _ h9 => h9) rfl dX2_labelAll_5 ?_
  have hPc : va_P dG vwCl (LW cI cJ lb aR aV aH aD aP rk vb rc hs D Pp ++ (SW cI g lb se qa qb qc qv qd qp ql qs (nI 0) (nI 0) (nI 0) ++ (GW cJ g gA (nI n) (nI ec) ns ++ X))) H := va_P.perm hP (List.Perm.trans (List.Perm.append_left _ (List.perm_append_comm_assoc _ _ _)) (List.perm_append_comm_assoc _ _ _))
  have hDc : va_D A (LW cI cJ lb aR aV aH aD aP rk vb rc hs D Pp ++ (SW cI g lb se qa qb qc qv qd qp ql qs (nI 0) (nI 0) (nI 0) ++ (GW cJ g gA (nI n) (nI ec) ns ++ X))) := va_D.perm hD (List.Perm.trans (List.Perm.append_left _ (List.perm_append_comm_assoc _ _ _)) (List.perm_append_comm_assoc _ _ _))
  refine va_callv (va_runV (As := []) (rest := []) ⟨hx, hb, hml, hown, hts⟩ (c_forget l dG cI cJ A lb aR aV aH aD aP rk vb rc hs D Pp _) (cwV 0 hts gX2_labelAll_X1_forget rfl rfl rfl (by decide +kernel) ⟨Nat.le_of_ble_eq_true rfl, Nat.le_of_ble_eq_true rfl⟩) (WPc.pre hPc hDc hK (va_recv hK.1 hPc (ci := 1) (q0 := 0) rfl rfl)) rfl rfl hl.1 rfl (lv_room (Nat.le_of_ble_eq_true rfl)) dX2_labelAll_8 ⟨Nat.zero_le _, Nat.zero_le _⟩) hS (fun q _ h => h) (fun q h => h) (fun u t H locs ht hvm hw hB hz1 hk1 hS => ?_)
  obtain ⟨hP, hD⟩ := hB
  rw [ht] at hP
  have hP : va_P dG vwCl (LW cI cJ lb aR aV aH aD aP rk vb (nI 0) (cut0 hs 48) D Pp ++ (SW cI g lb se qa qb qc qv qd qp ql qs (nI 0) (nI 0) (nI 0) ++ (GW cJ g gA (nI n) (nI ec) ns ++ X))) H := hP
  have hD : va_D A (LW cI cJ lb aR aV aH aD aP rk vb (nI 0) (cut0 hs 48) D Pp ++ (SW cI g lb se qa qb qc qv qd qp ql qs (nI 0) (nI 0) (nI 0) ++ (GW cJ g gA (nI n) (nI ec) ns ++ X))) := hD
  have hP : va_P dG vwCl (SW cI g lb se qa qb qc qv qd qp ql qs (nI 0) (nI 0) (nI 0) ++ (GW cJ g gA (nI n) (nI ec) ns ++ (LW cI cJ lb aR aV aH aD aP rk vb (nI 0) (cut0 hs 48) D Pp ++ X))) H := va_P.perm hP (List.Perm.trans (List.perm_append_comm_assoc _ _ _) (List.Perm.append_left _ (List.perm_append_comm_assoc _ _ _)))
  have hD : va_D A (SW cI g lb se qa qb qc qv qd qp ql qs (nI 0) (nI 0) (nI 0) ++ (GW cJ g gA (nI n) (nI ec) ns ++ (LW cI cJ lb aR aV aH aD aP rk vb (nI 0) (cut0 hs 48) D Pp ++ X))) := va_D.perm hD (List.Perm.trans (List.perm_append_comm_assoc _ _ _) (List.Perm.append_left _ (List.perm_append_comm_assoc _ _ _)))
  refine lv_aload_n hx hb dX2_labelAll_11 rfl (lv_at hl 0 rfl) ?_
  refine va_get (D := dG) (ci := 2) (v := .ref lb) (C := RX2) (T := TX2) (N := 10) hx hb hts hiX2 hown hK.1 hP 0 rfl rfl 1 (by decide) hf15 (fun _ h9 => h9) rfl dX2_labelAll_12 ?_
  refine lv_aload_n hx hb dX2_labelAll_15 rfl (lv_at hl 0 rfl) ?_
  refine va_get (D := dG) (ci := 2) (v := .ref g) (C := RX2) (T := TX2) (N := 10) hx hb hts hiX2 hown hK.1 hP 0 rfl rfl 0 (by decide) hf9 (fun _ h9 => h9) rfl dX2_labelAll_16 ?_
  have hPc : va_P dG vwCl (LW cI cJ lb aR aV aH aD aP rk vb (nI 0) (cut0 hs 48) D Pp ++ (GW cJ g gA (nI n) (nI ec) ns ++ (SW cI g lb se qa qb qc qv qd qp ql qs (nI 0) (nI 0) (nI 0) ++ X))) H := va_P.perm hP (List.Perm.trans (List.Perm.trans (List.Perm.append_left _ (List.perm_append_comm_assoc _ _ _)) (List.perm_append_comm_assoc _ _ _)) (List.Perm.append_left _ (List.perm_append_comm_assoc _ _ _)))
  have hDc : va_D A (LW cI cJ lb aR aV aH aD aP rk vb (nI 0) (cut0 hs 48) D Pp ++ (GW cJ g gA (nI n) (nI ec) ns ++ (SW cI g lb se qa qb qc qv qd qp ql qs (nI 0) (nI 0) (nI 0) ++ X))) := va_D.perm hD (List.Perm.trans (List.Perm.trans (List.Perm.append_left _ (List.perm_append_comm_assoc _ _ _)) (List.perm_append_comm_assoc _ _ _)) (List.Perm.append_left _ (List.perm_append_comm_assoc _ _ _)))
  refine va_callv (va_runV (As := [.ref g]) (rest := []) ⟨hx, hb, hml, hown, hts⟩ (c_rankAll l dG cI cJ A lb aR aV aH aD aP rk vb (cut0 hs 48) D Pp g gA n ec ns hn dg hdg hd _) (cwV 1 hts gX2_labelAll_X1_rankAll rfl rfl rfl (by decide +kernel) ⟨Nat.le_of_ble_eq_true rfl, Nat.le_of_ble_eq_true rfl⟩) (WPc.pre hPc hDc hK (va_recv hK.1 hPc (ci := 1) (q0 := 0) rfl rfl)) rfl rfl hl.1 rfl (lv_room (Nat.le_of_ble_eq_true rfl)) dX2_labelAll_19 ⟨Nat.zero_le _, Nat.zero_le _⟩) hS (fun q _ h => h) (fun q h => h) (fun u t H locs ht hvm hw hB hz1 hk1 hS => ?_)
  obtain ⟨rk, vb⟩ := u
  obtain ⟨hP, hD⟩ := hB
  rw [ht] at hP
  have hP : va_P dG vwCl (LW cI cJ lb aR aV aH aD aP rk vb (nI n) (cut0 hs 48) D Pp ++ (GW cJ g gA (nI n) (nI ec) ns ++ (SW cI g lb se qa qb qc qv qd qp ql qs (nI 0) (nI 0) (nI 0) ++ X))) H := hP
  have hD : va_D A (LW cI cJ lb aR aV aH aD aP rk vb (nI n) (cut0 hs 48) D Pp ++ (GW cJ g gA (nI n) (nI ec) ns ++ (SW cI g lb se qa qb qc qv qd qp ql qs (nI 0) (nI 0) (nI 0) ++ X))) := hD
  have hP : va_P dG vwCl (SW cI g lb se qa qb qc qv qd qp ql qs (nI 0) (nI 0) (nI 0) ++ (GW cJ g gA (nI n) (nI ec) ns ++ (LW cI cJ lb aR aV aH aD aP rk vb (nI n) (cut0 hs 48) D Pp ++ X))) H := va_P.perm hP (List.Perm.trans (List.Perm.trans (List.Perm.append_left _ (List.perm_append_comm_assoc _ _ _)) (List.perm_append_comm_assoc _ _ _)) (List.Perm.append_left _ (List.perm_append_comm_assoc _ _ _)))
  have hD : va_D A (SW cI g lb se qa qb qc qv qd qp ql qs (nI 0) (nI 0) (nI 0) ++ (GW cJ g gA (nI n) (nI ec) ns ++ (LW cI cJ lb aR aV aH aD aP rk vb (nI n) (cut0 hs 48) D Pp ++ X))) := va_D.perm hD (List.Perm.trans (List.Perm.trans (List.Perm.append_left _ (List.perm_append_comm_assoc _ _ _)) (List.perm_append_comm_assoc _ _ _)) (List.Perm.append_left _ (List.perm_append_comm_assoc _ _ _)))
  have hw0 : RI dg n 0 0 rk vb := hw
  refine lv_iconst (v := (nI 0)) hx hb dX2_labelAll_22 (by decide) ?_
  refine lv_istore_n (lv' := [(1, .int (nI 0)), (0, .ref se)]) hx hb dX2_labelAll_23 rfl hl (by decide) rfl (fun ls hl => ?_)
  have hP : va_P dG vwCl (SW cI g lb se qa qb qc qv qd qp ql qs (nI ((bl ns n (hbf dg n) 0).2.2.1)) (nI ((bl ns n (hbf dg n) 0).2.2.2.1)) (nI ((bl ns n (hbf dg n) 0).2.2.2.2)) ++ (GW cJ g gA (nI n) (nI ec) ns ++ (LW cI cJ lb aR aV aH aD aP rk vb (nI n) (cut0 hs 48) D Pp ++ X))) H := hP
  have hD : va_D A (SW cI g lb se qa qb qc qv qd qp ql qs (nI ((bl ns n (hbf dg n) 0).2.2.1)) (nI ((bl ns n (hbf dg n) 0).2.2.2.1)) (nI ((bl ns n (hbf dg n) 0).2.2.2.2)) ++ (GW cJ g gA (nI n) (nI ec) ns ++ (LW cI cJ lb aR aV aH aD aP rk vb (nI n) (cut0 hs 48) D Pp ++ X))) := hD
  have loop : ∀ (QQ : State → Prop) (n1 : Nat) (k : Nat) (qv qd qp : Nat → Int32) (ql : Int32) (qs : Int64) (hs : Nat → Int64) (D Pp : Nat → Int32), n < k + n1 → k ≤ n → RepL (bl ns n (hbf dg n) k).1 (bl ns n (hbf dg n) k).2.1 hs D Pp → (∀ (qv qd qp : Nat → Int32) (ql : Int32) (qs : Int64) (hs : Nat → Int64) (D Pp : Nat → Int32) (_ : RepL (bl ns n (hbf dg n) n).1 (bl ns n (hbf dg n) n).2.1 hs D Pp), ∀ (H : Heap) (locs : List Loc), va_P dG vwCl (SW cI g lb se qa qb qc qv qd qp ql qs (nI ((bl ns n (hbf dg n) n).2.2.1)) (nI ((bl ns n (hbf dg n) n).2.2.2.1)) (nI ((bl ns n (hbf dg n) n).2.2.2.2)) ++ (GW cJ g gA (nI n) (nI ec) ns ++ (LW cI cJ lb aR aV aH aD aP rk vb (nI n) hs D Pp ++ X))) H → va_D A (SW cI g lb se qa qb qc qv qd qp ql qs (nI ((bl ns n (hbf dg n) n).2.2.1)) (nI ((bl ns n (hbf dg n) n).2.2.2.1)) (nI ((bl ns n (hbf dg n) n).2.2.2.2)) ++ (GW cJ g gA (nI n) (nI ec) ns ++ (LW cI cJ lb aR aV aH aD aP rk vb (nI n) hs D Pp ++ X))) → va_S A s.heap H locs → ∀ ls : Array Slot, lv_has ls 2 [(0, .ref se), (1, .int (nI n))] → W p l e ({ frames := 5, cells := 0, slots := 0, locals := 122 } : Room) s m ([.ref se] : List Value).toArray below meth c H locs 0 0 QQ (F0 m 56 ls [])) → ∀ (H : Heap) (locs : List Loc), va_P dG vwCl (SW cI g lb se qa qb qc qv qd qp ql qs (nI ((bl ns n (hbf dg n) k).2.2.1)) (nI ((bl ns n (hbf dg n) k).2.2.2.1)) (nI ((bl ns n (hbf dg n) k).2.2.2.2)) ++ (GW cJ g gA (nI n) (nI ec) ns ++ (LW cI cJ lb aR aV aH aD aP rk vb (nI n) hs D Pp ++ X))) H → va_D A (SW cI g lb se qa qb qc qv qd qp ql qs (nI ((bl ns n (hbf dg n) k).2.2.1)) (nI ((bl ns n (hbf dg n) k).2.2.2.1)) (nI ((bl ns n (hbf dg n) k).2.2.2.2)) ++ (GW cJ g gA (nI n) (nI ec) ns ++ (LW cI cJ lb aR aV aH aD aP rk vb (nI n) hs D Pp ++ X))) → va_S A s.heap H locs → ∀ ls : Array Slot, lv_has ls 2 [(0, .ref se), (1, .int (nI k))] → W p l e ({ frames := 5, cells := 0, slots := 0, locals := 122 } : Room) s m ([.ref se] : List Value).toArray below meth c H locs 0 0 QQ (F0 m 24 ls []) := by
    intro QQ n1
    induction n1 with
    | zero => intro k qv qd qp ql qs hs D Pp h1 h2 hR; exact absurd h1 (by omega)
    | succ n1 ih =>
      intro k qv qd qp ql qs hs D Pp h1 h2 hR kx H locs hP hD hS ls hl
      refine lv_iload_n hx hb dX2_labelAll_24 rfl (lv_at hl 1 rfl) ?_
      refine lv_aload_n hx hb dX2_labelAll_25 rfl (lv_at hl 0 rfl) ?_
      refine va_get (D := dG) (ci := 2) (v := .ref g) (C := RX2) (T := TX2) (N := 10) hx hb hts hiX2 hown hK.1 hP 0 rfl rfl 0 (by decide) hf9 (fun _ h9 => h9) rfl dX2_labelAll_26 ?_
      have hPc := hP.sub (ws' := (GW cJ g gA (nI n) (nI ec) ns)) [4, 5] rfl
      refine x_ri (W.runV (As := []) (rest := [.int (nI k)]) ⟨hx, hb, hml, hown, hts⟩ (c_size l dG cI cJ g gA n ec ns) (cwV 0 hts gX2_labelAll_X0_size rfl rfl rfl (by decide +kernel) ⟨Nat.le_of_ble_eq_true rfl, Nat.le_of_ble_eq_true rfl⟩) (RPc.pre hPc hK (va_recv hK.1 hPc (ci := 0) (q0 := 0) rfl rfl)) rfl rfl hl.1 rfl (lv_room (Nat.le_of_ble_eq_true rfl)) dX2_labelAll_29 ⟨Nat.zero_le _, Nat.zero_le _⟩) ?_
      refine x_icmp_geN (i := k) (j := n) (tgt := 56) hx hb (by omega) (by omega) dX2_labelAll_32 (by decide) (fun c32 => ?_) (fun c32 => ?_)
      · skip
        have ek : k = n := by omega
        subst ek
        exact kx (qv) (qd) (qp) (ql) (qs) (hs) (D) (Pp) (hR) H locs hP hD hS ls (lv_sub hl [0, 1] rfl)
      · skip
        have hk := hbf_ok (dg := dg) c32
        refine lv_aload_n hx hb dX2_labelAll_35 rfl (lv_at hl 0 rfl) ?_
        refine lv_iload_n hx hb dX2_labelAll_36 rfl (lv_at hl 1 rfl) ?_
        refine lv_aload_n hx hb dX2_labelAll_37 rfl (lv_at hl 0 rfl) ?_
        refine va_get (D := dG) (ci := 2) (v := .ref lb) (C := RX2) (T := TX2) (N := 10) hx hb hts hiX2 hown hK.1 hP 0 rfl rfl 1 (by decide) hf15 (fun _ h9 => h9) rfl dX2_labelAll_38 ?_
        refine lv_iload_n hx hb dX2_labelAll_41 rfl (lv_at hl 1 rfl) ?_
        have hPc := hP.sub (ws' := (LW cI cJ lb aR aV aH aD aP rk vb (nI n) hs D Pp)) [6, 7, 8, 9, 10, 11] rfl
        refine x_ri (W.runV (As := [.int (nI k)]) (rest := [.int (nI k), .ref se]) ⟨hx, hb, hml, hown, hts⟩ (c_vertexOf l dG cI cJ lb aR aV aH aD aP rk vb (nI n) hs D Pp k (by omega)) (cwV 1 hts gX2_labelAll_X1_vertexOf rfl rfl rfl (by decide +kernel) ⟨Nat.le_of_ble_eq_true rfl, Nat.le_of_ble_eq_true rfl⟩) (RPc.pre hPc hK (va_recv hK.1 hPc (ci := 1) (q0 := 0) rfl rfl)) rfl rfl hl.1 rfl (lv_room (Nat.le_of_ble_eq_true rfl)) dX2_labelAll_42 ⟨Nat.zero_le _, Nat.zero_le _⟩) ?_
        rw [hw0.hub c32]
        refine lv_iconst (v := (nI 0)) hx hb dX2_labelAll_45 (by decide) ?_
        refine lv_iconst (v := (-1)) hx hb dX2_labelAll_46 (by decide) ?_
        obtain ⟨F2, hF2⟩ : ∃ F2, sr0 ns n (hbf dg n k) k (hbf dg n k) 0 none (bl ns n (hbf dg n) k) = F2 := ⟨_, rfl⟩
        have hPc : va_P dG vwCl (SW cI g lb se qa qb qc qv qd qp ql qs (nI ((bl ns n (hbf dg n) k).2.2.1)) (nI ((bl ns n (hbf dg n) k).2.2.2.1)) (nI ((bl ns n (hbf dg n) k).2.2.2.2)) ++ (GW cJ g gA (nI n) (nI ec) ns ++ (LW cI cJ lb aR aV aH aD aP rk vb (nI n) hs D Pp ++ X))) H := hP
        have hDc : va_D A (SW cI g lb se qa qb qc qv qd qp ql qs (nI ((bl ns n (hbf dg n) k).2.2.1)) (nI ((bl ns n (hbf dg n) k).2.2.2.1)) (nI ((bl ns n (hbf dg n) k).2.2.2.2)) ++ (GW cJ g gA (nI n) (nI ec) ns ++ (LW cI cJ lb aR aV aH aD aP rk vb (nI n) hs D Pp ++ X))) := hD
        refine va_callv (va_runV (As := [.int (nI k), .int (nI (hbf dg n k)), .int (nI 0), .int (-1)]) (rest := []) ⟨hx, hb, hml, hown, hts⟩ (c_search l dG cI cJ A g gA lb aR aV aH aD aP se qa qb qc rk vb (nI n) n ec ns hn qv qd qp ql qs hs D Pp (bl ns n (hbf dg n) k).1 (bl ns n (hbf dg n) k).2.1 (bl ns n (hbf dg n) k).2.2.1 (bl ns n (hbf dg n) k).2.2.2.1 (bl ns n (hbf dg n) k).2.2.2.2 48 hR (bl_lbd hn (fun k hk => (hbf_ok hk).1) k h2) (by decide) k (hbf dg n k) 0 (hbf dg n k) none (by omega) hk.1 (by omega) (by omega) (hw0.hub c32) F2 hF2 _) (cwV 4 hts gX2_labelAll_X2_search rfl rfl rfl (by decide +kernel) ⟨Nat.le_of_ble_eq_true rfl, Nat.le_of_ble_eq_true rfl⟩) (WPc.pre hPc hDc hK (va_recv hK.1 hPc (ci := 2) (q0 := 0) rfl rfl)) rfl rfl hl.1 rfl (lv_room (Nat.le_of_ble_eq_true rfl)) dX2_labelAll_47 ⟨Nat.zero_le _, Nat.zero_le _⟩) hS (fun q _ h => h) (fun q h => h) (fun u t H locs ht hvm hw hB hz1 hk1 hS => ?_)
        obtain ⟨qv, qd, qp, hs, D, Pp⟩ := u
        obtain ⟨hP, hD⟩ := hB
        rw [ht] at hP
        have hP : va_P dG vwCl (SW cI g lb se qa qb qc qv qd qp (nI (qn F2.2.2.1)) (qb9 F2.2.2.1) (nI ((cutq F2).2.2.1)) (nI ((cutq F2).2.2.2.1)) (nI ((cutq F2).2.2.2.2)) ++ (GW cJ g gA (nI n) (nI ec) ns ++ (LW cI cJ lb aR aV aH aD aP rk vb (nI n) hs D Pp ++ X))) H := hP
        have hD : va_D A (SW cI g lb se qa qb qc qv qd qp (nI (qn F2.2.2.1)) (qb9 F2.2.2.1) (nI ((cutq F2).2.2.1)) (nI ((cutq F2).2.2.2.1)) (nI ((cutq F2).2.2.2.2)) ++ (GW cJ g gA (nI n) (nI ec) ns ++ (LW cI cJ lb aR aV aH aD aP rk vb (nI n) hs D Pp ++ X))) := hD
        refine x_iincN (lv' := [(1, .int (nI (k + 1))), (0, .ref se)]) hx hb dX2_labelAll_50 hl (k := 1) rfl (by decide) rfl (fun ls hl => ?_)
        refine lv_goto (tgt := 24) hx hb dX2_labelAll_53 (by decide) ?_
        have eS : cutq F2 = bl ns n (hbf dg n) (k + 1) := by rw [← hF2]; rfl
        rw [eS] at hP hD
        exact ih (k + 1) qv qd qp (nI (qn F2.2.2.1)) (qb9 F2.2.2.1) hs D Pp (by omega) (by omega) (by rw [← eS]; exact hw.1) kx H locs hP hD hS ls (lv_sub hl [1, 0] rfl)
  refine loop _ 49 0 qv qd qp ql qs (cut0 hs 48) D Pp (by omega) (by omega) (RepL.zero (fun v hv => by unfold cut0; rw [if_pos hv])) (fun qv qd qp ql qs hs D Pp hR H locs hP hD hS ls hl => ?_) H locs hP hD hS ls (lv_sub hl [1, 0] rfl)
  rw [hF] at hP hD hR
  refine lv_aload_n hx hb dX2_labelAll_56 rfl (lv_at hl 0 rfl) ?_
  refine va_get (D := dG) (ci := 2) (v := .int (nI F.2.2.1)) (C := RX2) (T := TX2) (N := 10) hx hb hts hiX2 hown hK.1 hP 0 rfl rfl 7 (by decide) hf37 (fun _ h9 => h9) rfl dX2_labelAll_57 ?_
  exact W.iret (v := (nI F.2.2.1)) hx hb hr (fun t ht hW => ⟨⟨_, (rk, vb, ql, qs, qv, qd, qp, hs, D, Pp), rfl, ⟨rfl, hw0, hR⟩, by rw [ht]; exact hP, hD⟩, hS.F ht⟩) hS.2.2 dX2_labelAll_60

set_option maxHeartbeats 4000000 in
set_option maxRecDepth 100000 in
/-- Searches.extend -/
theorem c_extend (l : Launch) (dG : va_G) (cI cJ : ClassId) (A : Nat → Prop) (g gA lb aR aV aH aD aP se qa qb qc : Nat) (rk vb : Nat → Int32) (rc : Int32) (n ec : Nat) (ns : Nat → Int64) (hn : n ≤ 48) (qv qd qp : Nat → Int32) (ql : Int32) (qs : Int64) (vi cu pu : Int32) (hs : Nat → Int64) (D Pp : Nat → Int32) (L P : Nat → Nat → Option Nat) (B : Nat) (hR : RepL L P hs D Pp) (hL : LBd L B) (hB3 : B + 4704 ≤ 2 ^ 30) (hb0 : Nat → Nat) (hhb : ∀ k, k < n → hb0 k < n ∧ vb k = nI (hb0 k)) (a b : Nat) (ha : a < n) (hbn : b < n) (F : BT) (hF : ex ns n hb0 a b L P n = F) (X : va_W) : Met l yX2_extend wsX2_extend ({ frames := 5, cells := 0, slots := 0, locals := 122 } : Room) (WPc dG cI cJ [.ref se, .int (nI a), .int (nI b)] (SW cI g lb se qa qb qc qv qd qp ql qs vi cu pu ++ (GW cJ g gA (nI n) (nI ec) ns ++ (LW cI cJ lb aR aV aH aD aP rk vb rc hs D Pp ++ X))) A) (va_Qi (S := Int32 × Int64 × (Nat → Int32) × (Nat → Int32) × (Nat → Int32) × (Nat → Int64) × (Nat → Int32) × (Nat → Int32)) (fun r u => r = nI F.2.2.1 ∧ RepL F.1 F.2.1 u.2.2.2.2.2.1 u.2.2.2.2.2.2.1 u.2.2.2.2.2.2.2) (fun u => WB dG A (SW cI g lb se qa qb qc u.2.2.1 u.2.2.2.1 u.2.2.2.2.1 u.1 u.2.1 (nI F.2.2.1) (nI F.2.2.2.1) (nI F.2.2.2.2) ++ (GW cJ g gA (nI n) (nI ec) ns ++ (LW cI cJ lb aR aV aH aD aP rk vb rc u.2.2.2.2.2.1 u.2.2.2.2.2.2.1 u.2.2.2.2.2.2.2 ++ X)))) A) 0 0 A := by
  refine Met.ofW (cc := cX2_extend) (maxL := 6) (ret := (some .int)) (by decide) rfl ?_
  intro p e s m args below meth c s₁ B9 hml hv
  obtain ⟨rfl, hP, hK, hD⟩ := hv
  have hx := B9.exec
  have hb := B9.bytes
  have hr := B9.returns
  have hts := atoms_spec (ws := wsX2_extend) B9.pre
  have hown : s.vm.findClass RX2 = some m.cls := findClass_of_methodNamed B9.named
  have hlocks := B9.notSynchronized
  have hS : va_S A s.heap s.heap [] := va_S.rf
  have hl := lv_entry ([.ref se, .int (nI a), .int (nI b)]) (n := 6) (Nat.le_of_ble_eq_true rfl)
  rw [lg_entry_eq]
  generalize (lg_sl ([.ref se, .int (nI a), .int (nI b)]) ++ List.replicate (6 - (lg_sl ([.ref se, .int (nI a), .int (nI b)])).length) Slot.unset).toArray = ls at hl ⊢
  have hl : lv_has ls 6 [(0, .ref se), (1, .int (nI a)), (2, .int (nI b))] := hl
  have hiX2 : ∀ w ∈ wsX20, w ∈ wsX2_extend := by decide +kernel
  have hf9 := hts (.fieldLink RX2 9 "LandmarkLea$Searches" "graph" "LLandmarkLea$Graph;") (by decide +kernel)
  have hf15 := hts (.fieldLink RX2 15 "LandmarkLea$Searches" "labels" "LLandmarkLea$Labels;") (by decide +kernel)
  have hf37 := hts (.fieldLink RX2 37 "LandmarkLea$Searches" "visitCount" "I") (by decide +kernel)
  refine lv_aload_n hx hb dX2_extend_0 rfl (lv_at hl 0 rfl) ?_
  have hPc : va_P dG vwCl (SW cI g lb se qa qb qc qv qd qp ql qs vi cu pu ++ (GW cJ g gA (nI n) (nI ec) ns ++ (LW cI cJ lb aR aV aH aD aP rk vb rc hs D Pp ++ X))) s.heap := hP
  have hDc : va_D A (SW cI g lb se qa qb qc qv qd qp ql qs vi cu pu ++ (GW cJ g gA (nI n) (nI ec) ns ++ (LW cI cJ lb aR aV aH aD aP rk vb rc hs D Pp ++ X))) := hD
  refine va_callv (va_runV (As := []) (rest := []) ⟨hx, hb, hml, hown, hts⟩ (c_forgetCounts l dG cI cJ A g lb se qa qb qc qv qd qp ql qs vi cu pu _) (cwV 0 hts gX2_extend_X2_forgetCounts rfl rfl rfl (by decide +kernel) ⟨Nat.le_of_ble_eq_true rfl, Nat.le_of_ble_eq_true rfl⟩) (WPc.pre hPc hDc hK (va_recv hK.1 hPc (ci := 2) (q0 := 0) rfl rfl)) rfl rfl hl.1 rfl (lv_room (Nat.le_of_ble_eq_true rfl)) dX2_extend_1 ⟨Nat.zero_le _, Nat.zero_le _⟩) hS (fun q _ h => h) (fun q h => h) (fun u t H locs ht hvm hw hB hz1 hk1 hS => ?_)
  obtain ⟨hP, hD⟩ := hB
  rw [ht] at hP
  have hP : va_P dG vwCl (SW cI g lb se qa qb qc qv qd qp ql qs (nI 0) (nI 0) (nI 0) ++ (GW cJ g gA (nI n) (nI ec) ns ++ (LW cI cJ lb aR aV aH aD aP rk vb rc hs D Pp ++ X))) H := hP
  have hD : va_D A (SW cI g lb se qa qb qc qv qd qp ql qs (nI 0) (nI 0) (nI 0) ++ (GW cJ g gA (nI n) (nI ec) ns ++ (LW cI cJ lb aR aV aH aD aP rk vb rc hs D Pp ++ X))) := hD
  refine lv_iconst (v := (nI 0)) hx hb dX2_extend_4 (by decide) ?_
  refine lv_istore_n (lv' := [(3, .int (nI 0)), (0, .ref se), (1, .int (nI a)), (2, .int (nI b))]) hx hb dX2_extend_5 rfl hl (by decide) rfl (fun ls hl => ?_)
  have hP : va_P dG vwCl (SW cI g lb se qa qb qc qv qd qp ql qs (nI ((ex ns n hb0 a b L P 0).2.2.1)) (nI ((ex ns n hb0 a b L P 0).2.2.2.1)) (nI ((ex ns n hb0 a b L P 0).2.2.2.2)) ++ (GW cJ g gA (nI n) (nI ec) ns ++ (LW cI cJ lb aR aV aH aD aP rk vb rc hs D Pp ++ X))) H := hP
  have hD : va_D A (SW cI g lb se qa qb qc qv qd qp ql qs (nI ((ex ns n hb0 a b L P 0).2.2.1)) (nI ((ex ns n hb0 a b L P 0).2.2.2.1)) (nI ((ex ns n hb0 a b L P 0).2.2.2.2)) ++ (GW cJ g gA (nI n) (nI ec) ns ++ (LW cI cJ lb aR aV aH aD aP rk vb rc hs D Pp ++ X))) := hD
  have loop : ∀ (QQ : State → Prop) (n1 : Nat) (k : Nat) (qv qd qp : Nat → Int32) (ql : Int32) (qs : Int64) (hs : Nat → Int64) (D Pp : Nat → Int32), n < k + n1 → k ≤ n → RepL (ex ns n hb0 a b L P k).1 (ex ns n hb0 a b L P k).2.1 hs D Pp → (∀ (qv qd qp : Nat → Int32) (ql : Int32) (qs : Int64) (hs : Nat → Int64) (D Pp : Nat → Int32) (_ : RepL (ex ns n hb0 a b L P n).1 (ex ns n hb0 a b L P n).2.1 hs D Pp), ∀ (H : Heap) (locs : List Loc), va_P dG vwCl (SW cI g lb se qa qb qc qv qd qp ql qs (nI ((ex ns n hb0 a b L P n).2.2.1)) (nI ((ex ns n hb0 a b L P n).2.2.2.1)) (nI ((ex ns n hb0 a b L P n).2.2.2.2)) ++ (GW cJ g gA (nI n) (nI ec) ns ++ (LW cI cJ lb aR aV aH aD aP rk vb rc hs D Pp ++ X))) H → va_D A (SW cI g lb se qa qb qc qv qd qp ql qs (nI ((ex ns n hb0 a b L P n).2.2.1)) (nI ((ex ns n hb0 a b L P n).2.2.2.1)) (nI ((ex ns n hb0 a b L P n).2.2.2.2)) ++ (GW cJ g gA (nI n) (nI ec) ns ++ (LW cI cJ lb aR aV aH aD aP rk vb rc hs D Pp ++ X))) → va_S A s.heap H locs → ∀ ls : Array Slot, lv_has ls 6 [(0, .ref se), (1, .int (nI a)), (2, .int (nI b)), (3, .int (nI n))] → W p l e ({ frames := 5, cells := 0, slots := 0, locals := 122 } : Room) s m ([.ref se, .int (nI a), .int (nI b)] : List Value).toArray below meth c H locs 0 0 QQ (F0 m 79 ls [])) → ∀ (H : Heap) (locs : List Loc), va_P dG vwCl (SW cI g lb se qa qb qc qv qd qp ql qs (nI ((ex ns n hb0 a b L P k).2.2.1)) (nI ((ex ns n hb0 a b L P k).2.2.2.1)) (nI ((ex ns n hb0 a b L P k).2.2.2.2)) ++ (GW cJ g gA (nI n) (nI ec) ns ++ (LW cI cJ lb aR aV aH aD aP rk vb rc hs D Pp ++ X))) H → va_D A (SW cI g lb se qa qb qc qv qd qp ql qs (nI ((ex ns n hb0 a b L P k).2.2.1)) (nI ((ex ns n hb0 a b L P k).2.2.2.1)) (nI ((ex ns n hb0 a b L P k).2.2.2.2)) ++ (GW cJ g gA (nI n) (nI ec) ns ++ (LW cI cJ lb aR aV aH aD aP rk vb rc hs D Pp ++ X))) → va_S A s.heap H locs → ∀ ls : Array Slot, lv_has ls 6 [(0, .ref se), (1, .int (nI a)), (2, .int (nI b)), (3, .int (nI k))] → W p l e ({ frames := 5, cells := 0, slots := 0, locals := 122 } : Room) s m ([.ref se, .int (nI a), .int (nI b)] : List Value).toArray below meth c H locs 0 0 QQ (F0 m 6 ls []) := by
    intro QQ n1
    induction n1 with
    | zero => intro k qv qd qp ql qs hs D Pp h1 h2 hR; exact absurd h1 (by omega)
    | succ n1 ih =>
      intro k qv qd qp ql qs hs D Pp h1 h2 hR kx H locs hP hD hS ls hl
      refine lv_iload_n hx hb dX2_extend_6 rfl (lv_at hl 3 rfl) ?_
      refine lv_aload_n hx hb dX2_extend_7 rfl (lv_at hl 0 rfl) ?_
      refine va_get (D := dG) (ci := 2) (v := .ref g) (C := RX2) (T := TX2) (N := 10) hx hb hts hiX2 hown hK.1 hP 0 rfl rfl 0 (by decide) hf9 (fun _ h9 => h9) rfl dX2_extend_8 ?_
      have hPc := hP.sub (ws' := (GW cJ g gA (nI n) (nI ec) ns)) [4, 5] rfl
      refine x_ri (W.runV (As := []) (rest := [.int (nI k)]) ⟨hx, hb, hml, hown, hts⟩ (c_size l dG cI cJ g gA n ec ns) (cwV 0 hts gX2_extend_X0_size rfl rfl rfl (by decide +kernel) ⟨Nat.le_of_ble_eq_true rfl, Nat.le_of_ble_eq_true rfl⟩) (RPc.pre hPc hK (va_recv hK.1 hPc (ci := 0) (q0 := 0) rfl rfl)) rfl rfl hl.1 rfl (lv_room (Nat.le_of_ble_eq_true rfl)) dX2_extend_11 ⟨Nat.zero_le _, Nat.zero_le _⟩) ?_
      refine x_icmp_geN (i := k) (j := n) (tgt := 79) hx hb (by omega) (by omega) dX2_extend_14 (by decide) (fun c14 => ?_) (fun c14 => ?_)
      · skip
        have ek : k = n := by omega
        subst ek
        exact kx (qv) (qd) (qp) (ql) (qs) (hs) (D) (Pp) (hR) H locs hP hD hS ls (lv_sub hl [0, 1, 2, 3] rfl)
      · skip
        have hk := hhb k c14
        have hLk := ex_lbd (ns := ns) (hb := hb0) (P := P) ha hbn hn hL k
        have hLk1 := ex1_lbd (ns := ns) (a := a) (k := k) (hb := hb0) hbn hn hLk
        refine lv_aload_n hx hb dX2_extend_17 rfl (lv_at hl 0 rfl) ?_
        refine va_get (D := dG) (ci := 2) (v := .ref lb) (C := RX2) (T := TX2) (N := 10) hx hb hts hiX2 hown hK.1 hP 0 rfl rfl 1 (by decide) hf15 (fun _ h9 => h9) rfl dX2_extend_18 ?_
        refine lv_iload_n hx hb dX2_extend_21 rfl (lv_at hl 3 rfl) ?_
        refine lv_iload_n hx hb dX2_extend_22 rfl (lv_at hl 1 rfl) ?_
        have hPc := hP.sub (ws' := (LW cI cJ lb aR aV aH aD aP rk vb rc hs D Pp)) [6, 7, 8, 9, 10, 11] rfl
        refine x_ri (W.runV (As := [.int (nI k), .int (nI a)]) (rest := []) ⟨hx, hb, hml, hown, hts⟩ (c_distanceTo l dG cI cJ lb aR aV aH aD aP rk vb rc hs D Pp (ex ns n hb0 a b L P k).1 (ex ns n hb0 a b L P k).2.1 hR k a (by omega) (by omega)) (cwV 2 hts gX2_extend_X1_distanceTo rfl rfl rfl (by decide +kernel) ⟨Nat.le_of_ble_eq_true rfl, Nat.le_of_ble_eq_true rfl⟩) (RPc.pre hPc hK (va_recv hK.1 hPc (ci := 1) (q0 := 0) rfl rfl)) rfl rfl hl.1 rfl (lv_room (Nat.le_of_ble_eq_true rfl)) dX2_extend_23 ⟨Nat.zero_le _, Nat.zero_le _⟩) ?_
        refine lv_istore (lv' := [(4, .int (eN ((ex ns n hb0 a b L P k).1 a k))), (0, .ref se), (1, .int (nI a)), (2, .int (nI b)), (3, .int (nI k))]) hx hb dX2_extend_26 hl (by decide) rfl (fun ls hl => ?_)
        refine lv_aload_n hx hb dX2_extend_28 rfl (lv_at hl 1 rfl) ?_
        refine va_get (D := dG) (ci := 2) (v := .ref lb) (C := RX2) (T := TX2) (N := 10) hx hb hts hiX2 hown hK.1 hP 0 rfl rfl 1 (by decide) hf15 (fun _ h9 => h9) rfl dX2_extend_29 ?_
        refine lv_iload_n hx hb dX2_extend_32 rfl (lv_at hl 4 rfl) ?_
        refine lv_iload_n hx hb dX2_extend_33 rfl (lv_at hl 3 rfl) ?_
        have hPc := hP.sub (ws' := (LW cI cJ lb aR aV aH aD aP rk vb rc hs D Pp)) [6, 7, 8, 9, 10, 11] rfl
        refine x_ri (W.runV (As := [.int (nI k), .int (nI b)]) (rest := []) ⟨hx, hb, hml, hown, hts⟩ (c_distanceTo l dG cI cJ lb aR aV aH aD aP rk vb rc hs D Pp (ex ns n hb0 a b L P k).1 (ex ns n hb0 a b L P k).2.1 hR k b (by omega) (by omega)) (cwV 2 hts gX2_extend_X1_distanceTo rfl rfl rfl (by decide +kernel) ⟨Nat.le_of_ble_eq_true rfl, Nat.le_of_ble_eq_true rfl⟩) (RPc.pre hPc hK (va_recv hK.1 hPc (ci := 1) (q0 := 0) rfl rfl)) rfl rfl hl.1 rfl (lv_room (Nat.le_of_ble_eq_true rfl)) dX2_extend_34 ⟨Nat.zero_le _, Nat.zero_le _⟩) ?_
        refine lv_istore (lv' := [(5, .int (eN ((ex ns n hb0 a b L P k).1 b k))), (4, .int (eN ((ex ns n hb0 a b L P k).1 a k))), (0, .ref se), (1, .int (nI a)), (2, .int (nI b)), (3, .int (nI k))]) hx hb dX2_extend_37 hl (by decide) rfl (fun ls hl => ?_)
        rcases ea : (ex ns n hb0 a b L P k).1 a k with _ | x
        · skip
          rcases eb : (ex ns n hb0 a b L P k).1 b k with _ | y
          · skip
            have hl : lv_has ls 6 [(5, .int (eN ((ex ns n hb0 a b L P k).1 b k))), (4, .int (-1)), (0, .ref se), (1, .int (nI a)), (2, .int (nI b)), (3, .int (nI k))] := by rw [ea] at hl; exact hl
            have hl : lv_has ls 6 [(5, .int (-1)), (4, .int (-1)), (0, .ref se), (1, .int (nI a)), (2, .int (nI b)), (3, .int (nI k))] := by rw [eb] at hl; exact hl
            have e1 : ex1 ns n hb0 a b k (ex ns n hb0 a b L P k) = (ex ns n hb0 a b L P k) := by unfold ex1; rw [ea]
            have e2 : ex ns n hb0 a b L P (k + 1) = ex1 ns n hb0 a b k (ex ns n hb0 a b L P k) := by show ex2 _ _ _ _ _ _ _ _ = _; rw [eb]; rfl
            refine lv_iload hx hb dX2_extend_39 (lv_at hl 1 rfl) ?_
            refine lv_iconst (v := (-1)) hx hb dX2_extend_41 (by decide) ?_
            refine x_eqM_M (tgt := 56) hx hb dX2_extend_42 (by decide) ?_
            rw [← e1] at hP hD hR
            refine lv_iload hx hb dX2_extend_56 (lv_at hl 0 rfl) ?_
            refine lv_iconst (v := (-1)) hx hb dX2_extend_58 (by decide) ?_
            refine x_eqM_M (tgt := 73) hx hb dX2_extend_59 (by decide) ?_
            refine x_iincN (lv' := [(3, .int (nI (k + 1))), (5, .int (-1)), (4, .int (-1)), (0, .ref se), (1, .int (nI a)), (2, .int (nI b))]) hx hb dX2_extend_73 hl (k := 5) rfl (by decide) rfl (fun ls hl => ?_)
            refine lv_goto (tgt := 6) hx hb dX2_extend_76 (by decide) ?_
            rw [← e2] at hP hD hR
            exact ih (k + 1) qv qd qp ql qs hs D Pp (by omega) (by omega) (hR) kx H locs hP hD hS ls (lv_sub hl [3, 4, 5, 0] rfl)
          · skip
            have hl : lv_has ls 6 [(5, .int (eN ((ex ns n hb0 a b L P k).1 b k))), (4, .int (-1)), (0, .ref se), (1, .int (nI a)), (2, .int (nI b)), (3, .int (nI k))] := by rw [ea] at hl; exact hl
            have hl : lv_has ls 6 [(5, .int (nI y)), (4, .int (-1)), (0, .ref se), (1, .int (nI a)), (2, .int (nI b)), (3, .int (nI k))] := by rw [eb] at hl; exact hl
            have e1 : ex1 ns n hb0 a b k (ex ns n hb0 a b L P k) = (ex ns n hb0 a b L P k) := by unfold ex1; rw [ea]
            have e2 : ex ns n hb0 a b L P (k + 1) = sr1 ns n (hb0 k) k a (y + 1) (some b) (ex1 ns n hb0 a b k (ex ns n hb0 a b L P k)) := by show ex2 _ _ _ _ _ _ _ _ = _; rw [eb]; rfl
            have hy0 := hLk b k y eb
            refine lv_iload hx hb dX2_extend_39 (lv_at hl 1 rfl) ?_
            refine lv_iconst (v := (-1)) hx hb dX2_extend_41 (by decide) ?_
            refine x_eqM_M (tgt := 56) hx hb dX2_extend_42 (by decide) ?_
            rw [← e1] at hP hD hR
            refine lv_iload hx hb dX2_extend_56 (lv_at hl 0 rfl) ?_
            refine lv_iconst (v := (-1)) hx hb dX2_extend_58 (by decide) ?_
            refine x_eqM_N (tgt := 73) hx hb (by omega) dX2_extend_59 (by decide) ?_
            refine lv_aload_n hx hb dX2_extend_62 rfl (lv_at hl 2 rfl) ?_
            refine lv_iload_n hx hb dX2_extend_63 rfl (lv_at hl 5 rfl) ?_
            refine lv_iload_n hx hb dX2_extend_64 rfl (lv_at hl 3 rfl) ?_
            refine lv_iload hx hb dX2_extend_65 (lv_at hl 0 rfl) ?_
            refine lv_iconst (v := (nI 1)) hx hb dX2_extend_67 (by decide) ?_
            refine x_addN (i := y) (j := 1) hx hb dX2_extend_68 ?_
            refine lv_iload_n hx hb dX2_extend_69 rfl (lv_at hl 4 rfl) ?_
            obtain ⟨F2, hF2⟩ : ∃ F2, sr0 ns n (hb0 k) k a (y + 1) (some b) (ex1 ns n hb0 a b k (ex ns n hb0 a b L P k)) = F2 := ⟨_, rfl⟩
            have hPc : va_P dG vwCl (SW cI g lb se qa qb qc qv qd qp ql qs (nI ((ex1 ns n hb0 a b k (ex ns n hb0 a b L P k)).2.2.1)) (nI ((ex1 ns n hb0 a b k (ex ns n hb0 a b L P k)).2.2.2.1)) (nI ((ex1 ns n hb0 a b k (ex ns n hb0 a b L P k)).2.2.2.2)) ++ (GW cJ g gA (nI n) (nI ec) ns ++ (LW cI cJ lb aR aV aH aD aP rk vb rc hs D Pp ++ X))) H := hP
            have hDc : va_D A (SW cI g lb se qa qb qc qv qd qp ql qs (nI ((ex1 ns n hb0 a b k (ex ns n hb0 a b L P k)).2.2.1)) (nI ((ex1 ns n hb0 a b k (ex ns n hb0 a b L P k)).2.2.2.1)) (nI ((ex1 ns n hb0 a b k (ex ns n hb0 a b L P k)).2.2.2.2)) ++ (GW cJ g gA (nI n) (nI ec) ns ++ (LW cI cJ lb aR aV aH aD aP rk vb rc hs D Pp ++ X))) := hD
            refine va_callv (va_runV (As := [.int (nI k), .int (nI a), .int (nI (y + 1)), .int (nI b)]) (rest := []) ⟨hx, hb, hml, hown, hts⟩ (c_search l dG cI cJ A g gA lb aR aV aH aD aP se qa qb qc rk vb rc n ec ns hn qv qd qp ql qs hs D Pp (ex1 ns n hb0 a b k (ex ns n hb0 a b L P k)).1 (ex1 ns n hb0 a b k (ex ns n hb0 a b L P k)).2.1 (ex1 ns n hb0 a b k (ex ns n hb0 a b L P k)).2.2.1 (ex1 ns n hb0 a b k (ex ns n hb0 a b L P k)).2.2.2.1 (ex1 ns n hb0 a b k (ex ns n hb0 a b L P k)).2.2.2.2 (B + 98 * k + 49) hR hLk1 (by omega) k a (y + 1) (hb0 k) (some b) (by omega) ha (by omega) (by omega) hk.2 F2 hF2 _) (cwV 4 hts gX2_extend_X2_search rfl rfl rfl (by decide +kernel) ⟨Nat.le_of_ble_eq_true rfl, Nat.le_of_ble_eq_true rfl⟩) (WPc.pre hPc hDc hK (va_recv hK.1 hPc (ci := 2) (q0 := 0) rfl rfl)) rfl rfl hl.1 rfl (lv_room (Nat.le_of_ble_eq_true rfl)) dX2_extend_70 ⟨Nat.zero_le _, Nat.zero_le _⟩) hS (fun q _ h => h) (fun q h => h) (fun u t H locs ht hvm hw hB hz1 hk1 hS => ?_)
            obtain ⟨qv, qd, qp, hs, D, Pp⟩ := u
            obtain ⟨hP, hD⟩ := hB
            rw [ht] at hP
            have hP : va_P dG vwCl (SW cI g lb se qa qb qc qv qd qp (nI (qn F2.2.2.1)) (qb9 F2.2.2.1) (nI ((cutq F2).2.2.1)) (nI ((cutq F2).2.2.2.1)) (nI ((cutq F2).2.2.2.2)) ++ (GW cJ g gA (nI n) (nI ec) ns ++ (LW cI cJ lb aR aV aH aD aP rk vb rc hs D Pp ++ X))) H := hP
            have hD : va_D A (SW cI g lb se qa qb qc qv qd qp (nI (qn F2.2.2.1)) (qb9 F2.2.2.1) (nI ((cutq F2).2.2.1)) (nI ((cutq F2).2.2.2.1)) (nI ((cutq F2).2.2.2.2)) ++ (GW cJ g gA (nI n) (nI ec) ns ++ (LW cI cJ lb aR aV aH aD aP rk vb rc hs D Pp ++ X))) := hD
            have eS : cutq F2 = ex ns n hb0 a b L P (k + 1) := by rw [e2, ← hF2]; rfl
            rw [eS] at hP hD
            have hR : RepL (ex ns n hb0 a b L P (k + 1)).1 (ex ns n hb0 a b L P (k + 1)).2.1 hs D Pp := by rw [← eS]; exact hw.1
            generalize nI (qn F2.2.2.1) = ql at hP hD
            generalize qb9 F2.2.2.1 = qs at hP hD
            refine x_iincN (lv' := [(3, .int (nI (k + 1))), (5, .int (nI y)), (4, .int (-1)), (0, .ref se), (1, .int (nI a)), (2, .int (nI b))]) hx hb dX2_extend_73 hl (k := 5) rfl (by decide) rfl (fun ls hl => ?_)
            refine lv_goto (tgt := 6) hx hb dX2_extend_76 (by decide) ?_
            exact ih (k + 1) qv qd qp ql qs hs D Pp (by omega) (by omega) (hR) kx H locs hP hD hS ls (lv_sub hl [3, 4, 5, 0] rfl)
        · skip
          rcases eb : (ex ns n hb0 a b L P k).1 b k with _ | y
          · skip
            have hl : lv_has ls 6 [(5, .int (eN ((ex ns n hb0 a b L P k).1 b k))), (4, .int (nI x)), (0, .ref se), (1, .int (nI a)), (2, .int (nI b)), (3, .int (nI k))] := by rw [ea] at hl; exact hl
            have hl : lv_has ls 6 [(5, .int (-1)), (4, .int (nI x)), (0, .ref se), (1, .int (nI a)), (2, .int (nI b)), (3, .int (nI k))] := by rw [eb] at hl; exact hl
            have e1 : ex1 ns n hb0 a b k (ex ns n hb0 a b L P k) = sr1 ns n (hb0 k) k b (x + 1) (some a) (ex ns n hb0 a b L P k) := by unfold ex1; rw [ea]
            have hx0 := hLk a k x ea
            have e2 : ex ns n hb0 a b L P (k + 1) = ex1 ns n hb0 a b k (ex ns n hb0 a b L P k) := by show ex2 _ _ _ _ _ _ _ _ = _; rw [eb]; rfl
            refine lv_iload hx hb dX2_extend_39 (lv_at hl 1 rfl) ?_
            refine lv_iconst (v := (-1)) hx hb dX2_extend_41 (by decide) ?_
            refine x_eqM_N (tgt := 56) hx hb (by omega) dX2_extend_42 (by decide) ?_
            refine lv_aload_n hx hb dX2_extend_45 rfl (lv_at hl 2 rfl) ?_
            refine lv_iload_n hx hb dX2_extend_46 rfl (lv_at hl 5 rfl) ?_
            refine lv_iload_n hx hb dX2_extend_47 rfl (lv_at hl 4 rfl) ?_
            refine lv_iload hx hb dX2_extend_48 (lv_at hl 1 rfl) ?_
            refine lv_iconst (v := (nI 1)) hx hb dX2_extend_50 (by decide) ?_
            refine x_addN (i := x) (j := 1) hx hb dX2_extend_51 ?_
            refine lv_iload_n hx hb dX2_extend_52 rfl (lv_at hl 3 rfl) ?_
            obtain ⟨F2, hF2⟩ : ∃ F2, sr0 ns n (hb0 k) k b (x + 1) (some a) (ex ns n hb0 a b L P k) = F2 := ⟨_, rfl⟩
            have hPc : va_P dG vwCl (SW cI g lb se qa qb qc qv qd qp ql qs (nI ((ex ns n hb0 a b L P k).2.2.1)) (nI ((ex ns n hb0 a b L P k).2.2.2.1)) (nI ((ex ns n hb0 a b L P k).2.2.2.2)) ++ (GW cJ g gA (nI n) (nI ec) ns ++ (LW cI cJ lb aR aV aH aD aP rk vb rc hs D Pp ++ X))) H := hP
            have hDc : va_D A (SW cI g lb se qa qb qc qv qd qp ql qs (nI ((ex ns n hb0 a b L P k).2.2.1)) (nI ((ex ns n hb0 a b L P k).2.2.2.1)) (nI ((ex ns n hb0 a b L P k).2.2.2.2)) ++ (GW cJ g gA (nI n) (nI ec) ns ++ (LW cI cJ lb aR aV aH aD aP rk vb rc hs D Pp ++ X))) := hD
            refine va_callv (va_runV (As := [.int (nI k), .int (nI b), .int (nI (x + 1)), .int (nI a)]) (rest := []) ⟨hx, hb, hml, hown, hts⟩ (c_search l dG cI cJ A g gA lb aR aV aH aD aP se qa qb qc rk vb rc n ec ns hn qv qd qp ql qs hs D Pp (ex ns n hb0 a b L P k).1 (ex ns n hb0 a b L P k).2.1 (ex ns n hb0 a b L P k).2.2.1 (ex ns n hb0 a b L P k).2.2.2.1 (ex ns n hb0 a b L P k).2.2.2.2 (B + 98 * k + 49) hR (hLk.mono (by omega)) (by omega) k b (x + 1) (hb0 k) (some a) (by omega) hbn (by omega) (by omega) hk.2 F2 hF2 _) (cwV 4 hts gX2_extend_X2_search rfl rfl rfl (by decide +kernel) ⟨Nat.le_of_ble_eq_true rfl, Nat.le_of_ble_eq_true rfl⟩) (WPc.pre hPc hDc hK (va_recv hK.1 hPc (ci := 2) (q0 := 0) rfl rfl)) rfl rfl hl.1 rfl (lv_room (Nat.le_of_ble_eq_true rfl)) dX2_extend_53 ⟨Nat.zero_le _, Nat.zero_le _⟩) hS (fun q _ h => h) (fun q h => h) (fun u t H locs ht hvm hw hB hz1 hk1 hS => ?_)
            obtain ⟨qv, qd, qp, hs, D, Pp⟩ := u
            obtain ⟨hP, hD⟩ := hB
            rw [ht] at hP
            have hP : va_P dG vwCl (SW cI g lb se qa qb qc qv qd qp (nI (qn F2.2.2.1)) (qb9 F2.2.2.1) (nI ((cutq F2).2.2.1)) (nI ((cutq F2).2.2.2.1)) (nI ((cutq F2).2.2.2.2)) ++ (GW cJ g gA (nI n) (nI ec) ns ++ (LW cI cJ lb aR aV aH aD aP rk vb rc hs D Pp ++ X))) H := hP
            have hD : va_D A (SW cI g lb se qa qb qc qv qd qp (nI (qn F2.2.2.1)) (qb9 F2.2.2.1) (nI ((cutq F2).2.2.1)) (nI ((cutq F2).2.2.2.1)) (nI ((cutq F2).2.2.2.2)) ++ (GW cJ g gA (nI n) (nI ec) ns ++ (LW cI cJ lb aR aV aH aD aP rk vb rc hs D Pp ++ X))) := hD
            have eS : cutq F2 = ex1 ns n hb0 a b k (ex ns n hb0 a b L P k) := by rw [e1, ← hF2]; rfl
            rw [eS] at hP hD
            have hR : RepL (ex1 ns n hb0 a b k (ex ns n hb0 a b L P k)).1 (ex1 ns n hb0 a b k (ex ns n hb0 a b L P k)).2.1 hs D Pp := by rw [← eS]; exact hw.1
            generalize nI (qn F2.2.2.1) = ql at hP hD
            generalize qb9 F2.2.2.1 = qs at hP hD
            refine lv_iload hx hb dX2_extend_56 (lv_at hl 0 rfl) ?_
            refine lv_iconst (v := (-1)) hx hb dX2_extend_58 (by decide) ?_
            refine x_eqM_M (tgt := 73) hx hb dX2_extend_59 (by decide) ?_
            refine x_iincN (lv' := [(3, .int (nI (k + 1))), (5, .int (-1)), (4, .int (nI x)), (0, .ref se), (1, .int (nI a)), (2, .int (nI b))]) hx hb dX2_extend_73 hl (k := 5) rfl (by decide) rfl (fun ls hl => ?_)
            refine lv_goto (tgt := 6) hx hb dX2_extend_76 (by decide) ?_
            rw [← e2] at hP hD hR
            exact ih (k + 1) qv qd qp ql qs hs D Pp (by omega) (by omega) (hR) kx H locs hP hD hS ls (lv_sub hl [3, 4, 5, 0] rfl)
          · skip
            have hl : lv_has ls 6 [(5, .int (eN ((ex ns n hb0 a b L P k).1 b k))), (4, .int (nI x)), (0, .ref se), (1, .int (nI a)), (2, .int (nI b)), (3, .int (nI k))] := by rw [ea] at hl; exact hl
            have hl : lv_has ls 6 [(5, .int (nI y)), (4, .int (nI x)), (0, .ref se), (1, .int (nI a)), (2, .int (nI b)), (3, .int (nI k))] := by rw [eb] at hl; exact hl
            have e1 : ex1 ns n hb0 a b k (ex ns n hb0 a b L P k) = sr1 ns n (hb0 k) k b (x + 1) (some a) (ex ns n hb0 a b L P k) := by unfold ex1; rw [ea]
            have hx0 := hLk a k x ea
            have e2 : ex ns n hb0 a b L P (k + 1) = sr1 ns n (hb0 k) k a (y + 1) (some b) (ex1 ns n hb0 a b k (ex ns n hb0 a b L P k)) := by show ex2 _ _ _ _ _ _ _ _ = _; rw [eb]; rfl
            have hy0 := hLk b k y eb
            refine lv_iload hx hb dX2_extend_39 (lv_at hl 1 rfl) ?_
            refine lv_iconst (v := (-1)) hx hb dX2_extend_41 (by decide) ?_
            refine x_eqM_N (tgt := 56) hx hb (by omega) dX2_extend_42 (by decide) ?_
            refine lv_aload_n hx hb dX2_extend_45 rfl (lv_at hl 2 rfl) ?_
            refine lv_iload_n hx hb dX2_extend_46 rfl (lv_at hl 5 rfl) ?_
            refine lv_iload_n hx hb dX2_extend_47 rfl (lv_at hl 4 rfl) ?_
            refine lv_iload hx hb dX2_extend_48 (lv_at hl 1 rfl) ?_
            refine lv_iconst (v := (nI 1)) hx hb dX2_extend_50 (by decide) ?_
            refine x_addN (i := x) (j := 1) hx hb dX2_extend_51 ?_
            refine lv_iload_n hx hb dX2_extend_52 rfl (lv_at hl 3 rfl) ?_
            obtain ⟨F2, hF2⟩ : ∃ F2, sr0 ns n (hb0 k) k b (x + 1) (some a) (ex ns n hb0 a b L P k) = F2 := ⟨_, rfl⟩
            have hPc : va_P dG vwCl (SW cI g lb se qa qb qc qv qd qp ql qs (nI ((ex ns n hb0 a b L P k).2.2.1)) (nI ((ex ns n hb0 a b L P k).2.2.2.1)) (nI ((ex ns n hb0 a b L P k).2.2.2.2)) ++ (GW cJ g gA (nI n) (nI ec) ns ++ (LW cI cJ lb aR aV aH aD aP rk vb rc hs D Pp ++ X))) H := hP
            have hDc : va_D A (SW cI g lb se qa qb qc qv qd qp ql qs (nI ((ex ns n hb0 a b L P k).2.2.1)) (nI ((ex ns n hb0 a b L P k).2.2.2.1)) (nI ((ex ns n hb0 a b L P k).2.2.2.2)) ++ (GW cJ g gA (nI n) (nI ec) ns ++ (LW cI cJ lb aR aV aH aD aP rk vb rc hs D Pp ++ X))) := hD
            refine va_callv (va_runV (As := [.int (nI k), .int (nI b), .int (nI (x + 1)), .int (nI a)]) (rest := []) ⟨hx, hb, hml, hown, hts⟩ (c_search l dG cI cJ A g gA lb aR aV aH aD aP se qa qb qc rk vb rc n ec ns hn qv qd qp ql qs hs D Pp (ex ns n hb0 a b L P k).1 (ex ns n hb0 a b L P k).2.1 (ex ns n hb0 a b L P k).2.2.1 (ex ns n hb0 a b L P k).2.2.2.1 (ex ns n hb0 a b L P k).2.2.2.2 (B + 98 * k + 49) hR (hLk.mono (by omega)) (by omega) k b (x + 1) (hb0 k) (some a) (by omega) hbn (by omega) (by omega) hk.2 F2 hF2 _) (cwV 4 hts gX2_extend_X2_search rfl rfl rfl (by decide +kernel) ⟨Nat.le_of_ble_eq_true rfl, Nat.le_of_ble_eq_true rfl⟩) (WPc.pre hPc hDc hK (va_recv hK.1 hPc (ci := 2) (q0 := 0) rfl rfl)) rfl rfl hl.1 rfl (lv_room (Nat.le_of_ble_eq_true rfl)) dX2_extend_53 ⟨Nat.zero_le _, Nat.zero_le _⟩) hS (fun q _ h => h) (fun q h => h) (fun u t H locs ht hvm hw hB hz1 hk1 hS => ?_)
            obtain ⟨qv, qd, qp, hs, D, Pp⟩ := u
            obtain ⟨hP, hD⟩ := hB
            rw [ht] at hP
            have hP : va_P dG vwCl (SW cI g lb se qa qb qc qv qd qp (nI (qn F2.2.2.1)) (qb9 F2.2.2.1) (nI ((cutq F2).2.2.1)) (nI ((cutq F2).2.2.2.1)) (nI ((cutq F2).2.2.2.2)) ++ (GW cJ g gA (nI n) (nI ec) ns ++ (LW cI cJ lb aR aV aH aD aP rk vb rc hs D Pp ++ X))) H := hP
            have hD : va_D A (SW cI g lb se qa qb qc qv qd qp (nI (qn F2.2.2.1)) (qb9 F2.2.2.1) (nI ((cutq F2).2.2.1)) (nI ((cutq F2).2.2.2.1)) (nI ((cutq F2).2.2.2.2)) ++ (GW cJ g gA (nI n) (nI ec) ns ++ (LW cI cJ lb aR aV aH aD aP rk vb rc hs D Pp ++ X))) := hD
            have eS : cutq F2 = ex1 ns n hb0 a b k (ex ns n hb0 a b L P k) := by rw [e1, ← hF2]; rfl
            rw [eS] at hP hD
            have hR : RepL (ex1 ns n hb0 a b k (ex ns n hb0 a b L P k)).1 (ex1 ns n hb0 a b k (ex ns n hb0 a b L P k)).2.1 hs D Pp := by rw [← eS]; exact hw.1
            generalize nI (qn F2.2.2.1) = ql at hP hD
            generalize qb9 F2.2.2.1 = qs at hP hD
            refine lv_iload hx hb dX2_extend_56 (lv_at hl 0 rfl) ?_
            refine lv_iconst (v := (-1)) hx hb dX2_extend_58 (by decide) ?_
            refine x_eqM_N (tgt := 73) hx hb (by omega) dX2_extend_59 (by decide) ?_
            refine lv_aload_n hx hb dX2_extend_62 rfl (lv_at hl 2 rfl) ?_
            refine lv_iload_n hx hb dX2_extend_63 rfl (lv_at hl 5 rfl) ?_
            refine lv_iload_n hx hb dX2_extend_64 rfl (lv_at hl 3 rfl) ?_
            refine lv_iload hx hb dX2_extend_65 (lv_at hl 0 rfl) ?_
            refine lv_iconst (v := (nI 1)) hx hb dX2_extend_67 (by decide) ?_
            refine x_addN (i := y) (j := 1) hx hb dX2_extend_68 ?_
            refine lv_iload_n hx hb dX2_extend_69 rfl (lv_at hl 4 rfl) ?_
            obtain ⟨F2, hF2⟩ : ∃ F2, sr0 ns n (hb0 k) k a (y + 1) (some b) (ex1 ns n hb0 a b k (ex ns n hb0 a b L P k)) = F2 := ⟨_, rfl⟩
            have hPc : va_P dG vwCl (SW cI g lb se qa qb qc qv qd qp ql qs (nI ((ex1 ns n hb0 a b k (ex ns n hb0 a b L P k)).2.2.1)) (nI ((ex1 ns n hb0 a b k (ex ns n hb0 a b L P k)).2.2.2.1)) (nI ((ex1 ns n hb0 a b k (ex ns n hb0 a b L P k)).2.2.2.2)) ++ (GW cJ g gA (nI n) (nI ec) ns ++ (LW cI cJ lb aR aV aH aD aP rk vb rc hs D Pp ++ X))) H := hP
            have hDc : va_D A (SW cI g lb se qa qb qc qv qd qp ql qs (nI ((ex1 ns n hb0 a b k (ex ns n hb0 a b L P k)).2.2.1)) (nI ((ex1 ns n hb0 a b k (ex ns n hb0 a b L P k)).2.2.2.1)) (nI ((ex1 ns n hb0 a b k (ex ns n hb0 a b L P k)).2.2.2.2)) ++ (GW cJ g gA (nI n) (nI ec) ns ++ (LW cI cJ lb aR aV aH aD aP rk vb rc hs D Pp ++ X))) := hD
            refine va_callv (va_runV (As := [.int (nI k), .int (nI a), .int (nI (y + 1)), .int (nI b)]) (rest := []) ⟨hx, hb, hml, hown, hts⟩ (c_search l dG cI cJ A g gA lb aR aV aH aD aP se qa qb qc rk vb rc n ec ns hn qv qd qp ql qs hs D Pp (ex1 ns n hb0 a b k (ex ns n hb0 a b L P k)).1 (ex1 ns n hb0 a b k (ex ns n hb0 a b L P k)).2.1 (ex1 ns n hb0 a b k (ex ns n hb0 a b L P k)).2.2.1 (ex1 ns n hb0 a b k (ex ns n hb0 a b L P k)).2.2.2.1 (ex1 ns n hb0 a b k (ex ns n hb0 a b L P k)).2.2.2.2 (B + 98 * k + 49) hR hLk1 (by omega) k a (y + 1) (hb0 k) (some b) (by omega) ha (by omega) (by omega) hk.2 F2 hF2 _) (cwV 4 hts gX2_extend_X2_search rfl rfl rfl (by decide +kernel) ⟨Nat.le_of_ble_eq_true rfl, Nat.le_of_ble_eq_true rfl⟩) (WPc.pre hPc hDc hK (va_recv hK.1 hPc (ci := 2) (q0 := 0) rfl rfl)) rfl rfl hl.1 rfl (lv_room (Nat.le_of_ble_eq_true rfl)) dX2_extend_70 ⟨Nat.zero_le _, Nat.zero_le _⟩) hS (fun q _ h => h) (fun q h => h) (fun u t H locs ht hvm hw hB hz1 hk1 hS => ?_)
            obtain ⟨qv, qd, qp, hs, D, Pp⟩ := u
            obtain ⟨hP, hD⟩ := hB
            rw [ht] at hP
            have hP : va_P dG vwCl (SW cI g lb se qa qb qc qv qd qp (nI (qn F2.2.2.1)) (qb9 F2.2.2.1) (nI ((cutq F2).2.2.1)) (nI ((cutq F2).2.2.2.1)) (nI ((cutq F2).2.2.2.2)) ++ (GW cJ g gA (nI n) (nI ec) ns ++ (LW cI cJ lb aR aV aH aD aP rk vb rc hs D Pp ++ X))) H := hP
            have hD : va_D A (SW cI g lb se qa qb qc qv qd qp (nI (qn F2.2.2.1)) (qb9 F2.2.2.1) (nI ((cutq F2).2.2.1)) (nI ((cutq F2).2.2.2.1)) (nI ((cutq F2).2.2.2.2)) ++ (GW cJ g gA (nI n) (nI ec) ns ++ (LW cI cJ lb aR aV aH aD aP rk vb rc hs D Pp ++ X))) := hD
            have eS : cutq F2 = ex ns n hb0 a b L P (k + 1) := by rw [e2, ← hF2]; rfl
            rw [eS] at hP hD
            have hR : RepL (ex ns n hb0 a b L P (k + 1)).1 (ex ns n hb0 a b L P (k + 1)).2.1 hs D Pp := by rw [← eS]; exact hw.1
            generalize nI (qn F2.2.2.1) = ql at hP hD
            generalize qb9 F2.2.2.1 = qs at hP hD
            refine x_iincN (lv' := [(3, .int (nI (k + 1))), (5, .int (nI y)), (4, .int (nI x)), (0, .ref se), (1, .int (nI a)), (2, .int (nI b))]) hx hb dX2_extend_73 hl (k := 5) rfl (by decide) rfl (fun ls hl => ?_)
            refine lv_goto (tgt := 6) hx hb dX2_extend_76 (by decide) ?_
            exact ih (k + 1) qv qd qp ql qs hs D Pp (by omega) (by omega) (hR) kx H locs hP hD hS ls (lv_sub hl [3, 4, 5, 0] rfl)
  refine loop _ 49 0 qv qd qp ql qs hs D Pp (by omega) (by omega) (hR) (fun qv qd qp ql qs hs D Pp hR H locs hP hD hS ls hl => ?_) H locs hP hD hS ls (lv_sub hl [1, 2, 3, 0] rfl)
  rw [hF] at hP hD hR
  refine lv_aload_n hx hb dX2_extend_79 rfl (lv_at hl 0 rfl) ?_
  refine va_get (D := dG) (ci := 2) (v := .int (nI F.2.2.1)) (C := RX2) (T := TX2) (N := 10) hx hb hts hiX2 hown hK.1 hP 0 rfl rfl 7 (by decide) hf37 (fun _ h9 => h9) rfl dX2_extend_80 ?_
  exact W.iret (v := (nI F.2.2.1)) hx hb hr (fun t ht hW => ⟨⟨_, (ql, qs, qv, qd, qp, hs, D, Pp), rfl, ⟨rfl, hR⟩, by rw [ht]; exact hP, hD⟩, hS.F ht⟩) hS.2.2 dX2_extend_83
end
section
theorem zz_last : 1 = 1 := rfl
end
