section
-- ===== PART A: goes FIRST, ahead of the names: the tables' words, and 'selects' of the private methods out of them =====
/-- a private method of a class that the tables say can be made, by its rows of tables_1 -/
def lw_okq (q : MethodName × Nat) : Prop := (q.1.cls ≠ "java/lang/invoke/MethodHandle" ∧ q.1.cls ≠ "java/lang/invoke/VarHandle") ∧ Cond.instantiable q.1.cls q.2 ∈ tables_1 ∧ Cond.privateMethod q.1 ∈ tables_1 ∧ Cond.instanceMethod q.1 ∈ tables_1
theorem lw_p0 : lw_okq (⟨"GrayPointers$History", "stateAt", "(I)LGrayPointers$State;"⟩, 3) := ⟨⟨by decide +kernel, by decide +kernel⟩, List.mem_of_getElem? (i := 127) (by decide +kernel), List.mem_of_getElem? (i := 210) (by decide +kernel), List.mem_of_getElem? (i := 211) (by decide +kernel)⟩
theorem lw_p1 : lw_okq (⟨"GrayPointers$Text", "readPart", "()Z"⟩, 6) := ⟨⟨by decide +kernel, by decide +kernel⟩, List.mem_of_getElem? (i := 147) (by decide +kernel), List.mem_of_getElem? (i := 275) (by decide +kernel), List.mem_of_getElem? (i := 276) (by decide +kernel)⟩
theorem lw_p2 : lw_okq (⟨"GrayPointers$Text", "readSign", "(C)Z"⟩, 6) := ⟨⟨by decide +kernel, by decide +kernel⟩, List.mem_of_getElem? (i := 147) (by decide +kernel), List.mem_of_getElem? (i := 279) (by decide +kernel), List.mem_of_getElem? (i := 280) (by decide +kernel)⟩
theorem lw_p3 : lw_okq (⟨"GrayPointers$Text", "hasSign", "()Z"⟩, 6) := ⟨⟨by decide +kernel, by decide +kernel⟩, List.mem_of_getElem? (i := 147) (by decide +kernel), List.mem_of_getElem? (i := 283) (by decide +kernel), List.mem_of_getElem? (i := 284) (by decide +kernel)⟩
theorem lw_p4 : lw_okq (⟨"GrayPointers$Text", "readNumber", "(I)I"⟩, 6) := ⟨⟨by decide +kernel, by decide +kernel⟩, List.mem_of_getElem? (i := 147) (by decide +kernel), List.mem_of_getElem? (i := 287) (by decide +kernel), List.mem_of_getElem? (i := 288) (by decide +kernel)⟩
theorem lw_p5 : lw_okq (⟨"GrayPointers$Text", "digitAtCursor", "()I"⟩, 6) := ⟨⟨by decide +kernel, by decide +kernel⟩, List.mem_of_getElem? (i := 147) (by decide +kernel), List.mem_of_getElem? (i := 291) (by decide +kernel), List.mem_of_getElem? (i := 292) (by decide +kernel)⟩
theorem lw_p6 : lw_okq (⟨"GrayPointers$Text", "addPart", "(II)Z"⟩, 6) := ⟨⟨by decide +kernel, by decide +kernel⟩, List.mem_of_getElem? (i := 147) (by decide +kernel), List.mem_of_getElem? (i := 295) (by decide +kernel), List.mem_of_getElem? (i := 296) (by decide +kernel)⟩
theorem lw_p7 : lw_okq (⟨"GrayPointers$State", "takeWord", "()V"⟩, 15) := ⟨⟨by decide +kernel, by decide +kernel⟩, List.mem_of_getElem? (i := 16) (by decide +kernel), List.mem_of_getElem? (i := 352) (by decide +kernel), List.mem_of_getElem? (i := 353) (by decide +kernel)⟩
theorem lw_p8 : lw_okq (⟨"GrayPointers$State", "putWord", "()V"⟩, 15) := ⟨⟨by decide +kernel, by decide +kernel⟩, List.mem_of_getElem? (i := 16) (by decide +kernel), List.mem_of_getElem? (i := 360) (by decide +kernel), List.mem_of_getElem? (i := 361) (by decide +kernel)⟩
theorem lw_p9 : lw_okq (⟨"GrayPointersModel", "builds", "(II)V"⟩, 14) := ⟨⟨by decide +kernel, by decide +kernel⟩, List.mem_of_getElem? (i := 475) (by decide +kernel), List.mem_of_getElem? (i := 481) (by decide +kernel), List.mem_of_getElem? (i := 482) (by decide +kernel)⟩
theorem lw_p10 : lw_okq (⟨"GrayPointersModel", "to", "(III)V"⟩, 14) := ⟨⟨by decide +kernel, by decide +kernel⟩, List.mem_of_getElem? (i := 475) (by decide +kernel), List.mem_of_getElem? (i := 485) (by decide +kernel), List.mem_of_getElem? (i := 486) (by decide +kernel)⟩
theorem lw_p11 : lw_okq (⟨"GrayPointersModel", "remember", "()V"⟩, 14) := ⟨⟨by decide +kernel, by decide +kernel⟩, List.mem_of_getElem? (i := 475) (by decide +kernel), List.mem_of_getElem? (i := 540) (by decide +kernel), List.mem_of_getElem? (i := 541) (by decide +kernel)⟩
theorem lw_p12 : lw_okq (⟨"GrayPointersModel", "depth", "()I"⟩, 14) := ⟨⟨by decide +kernel, by decide +kernel⟩, List.mem_of_getElem? (i := 475) (by decide +kernel), List.mem_of_getElem? (i := 547) (by decide +kernel), List.mem_of_getElem? (i := 548) (by decide +kernel)⟩
theorem lw_p13 : lw_okq (⟨"GrayPointersModel", "acted", "(I)I"⟩, 14) := ⟨⟨by decide +kernel, by decide +kernel⟩, List.mem_of_getElem? (i := 475) (by decide +kernel), List.mem_of_getElem? (i := 551) (by decide +kernel), List.mem_of_getElem? (i := 552) (by decide +kernel)⟩
theorem lw_p14 : lw_okq (⟨"GrayPointersModel", "of", "(II)I"⟩, 14) := ⟨⟨by decide +kernel, by decide +kernel⟩, List.mem_of_getElem? (i := 475) (by decide +kernel), List.mem_of_getElem? (i := 564) (by decide +kernel), List.mem_of_getElem? (i := 565) (by decide +kernel)⟩
theorem lw_p15 : lw_okq (⟨"GrayPointersModel", "waits", "(I)V"⟩, 14) := ⟨⟨by decide +kernel, by decide +kernel⟩, List.mem_of_getElem? (i := 475) (by decide +kernel), List.mem_of_getElem? (i := 582) (by decide +kernel), List.mem_of_getElem? (i := 583) (by decide +kernel)⟩
def lw_privs_1 : List (MethodName × Nat) := [(⟨"GrayPointers$History", "stateAt", "(I)LGrayPointers$State;"⟩, 3), (⟨"GrayPointers$Text", "readPart", "()Z"⟩, 6), (⟨"GrayPointers$Text", "readSign", "(C)Z"⟩, 6), (⟨"GrayPointers$Text", "hasSign", "()Z"⟩, 6), (⟨"GrayPointers$Text", "readNumber", "(I)I"⟩, 6), (⟨"GrayPointers$Text", "digitAtCursor", "()I"⟩, 6), (⟨"GrayPointers$Text", "addPart", "(II)Z"⟩, 6), (⟨"GrayPointers$State", "takeWord", "()V"⟩, 15), (⟨"GrayPointers$State", "putWord", "()V"⟩, 15), (⟨"GrayPointersModel", "builds", "(II)V"⟩, 14), (⟨"GrayPointersModel", "to", "(III)V"⟩, 14), (⟨"GrayPointersModel", "remember", "()V"⟩, 14), (⟨"GrayPointersModel", "depth", "()I"⟩, 14), (⟨"GrayPointersModel", "acted", "(I)I"⟩, 14), (⟨"GrayPointersModel", "of", "(II)I"⟩, 14), (⟨"GrayPointersModel", "waits", "(I)V"⟩, 14)]
theorem lw_r1 : ∀ q ∈ lw_privs_1, lw_okq q := List.forall_mem_cons.mpr ⟨lw_p0, List.forall_mem_cons.mpr ⟨lw_p1, List.forall_mem_cons.mpr ⟨lw_p2, List.forall_mem_cons.mpr ⟨lw_p3, List.forall_mem_cons.mpr ⟨lw_p4, List.forall_mem_cons.mpr ⟨lw_p5, List.forall_mem_cons.mpr ⟨lw_p6, List.forall_mem_cons.mpr ⟨lw_p7, List.forall_mem_cons.mpr ⟨lw_p8, List.forall_mem_cons.mpr ⟨lw_p9, List.forall_mem_cons.mpr ⟨lw_p10, List.forall_mem_cons.mpr ⟨lw_p11, List.forall_mem_cons.mpr ⟨lw_p12, List.forall_mem_cons.mpr ⟨lw_p13, List.forall_mem_cons.mpr ⟨lw_p14, List.forall_mem_cons.mpr ⟨lw_p15, fun _ h => absurd h List.not_mem_nil⟩⟩⟩⟩⟩⟩⟩⟩⟩⟩⟩⟩⟩⟩⟩⟩
theorem lw_p16 : lw_okq (⟨"GrayPointersModel", "passMany", "(I)V"⟩, 14) := ⟨⟨by decide +kernel, by decide +kernel⟩, List.mem_of_getElem? (i := 475) (by decide +kernel), List.mem_of_getElem? (i := 592) (by decide +kernel), List.mem_of_getElem? (i := 593) (by decide +kernel)⟩
theorem lw_p17 : lw_okq (⟨"GrayPointersModel", "passes", "()Z"⟩, 14) := ⟨⟨by decide +kernel, by decide +kernel⟩, List.mem_of_getElem? (i := 475) (by decide +kernel), List.mem_of_getElem? (i := 596) (by decide +kernel), List.mem_of_getElem? (i := 597) (by decide +kernel)⟩
theorem lw_p18 : lw_okq (⟨"GrayPointersModel", "ticksAt", "(II)Z"⟩, 14) := ⟨⟨by decide +kernel, by decide +kernel⟩, List.mem_of_getElem? (i := 475) (by decide +kernel), List.mem_of_getElem? (i := 600) (by decide +kernel), List.mem_of_getElem? (i := 601) (by decide +kernel)⟩
theorem lw_p19 : lw_okq (⟨"GrayPointersModel", "acts", "(IZ)Z"⟩, 14) := ⟨⟨by decide +kernel, by decide +kernel⟩, List.mem_of_getElem? (i := 475) (by decide +kernel), List.mem_of_getElem? (i := 604) (by decide +kernel), List.mem_of_getElem? (i := 605) (by decide +kernel)⟩
theorem lw_p20 : lw_okq (⟨"GrayPointersModel", "seems", "(I)Z"⟩, 14) := ⟨⟨by decide +kernel, by decide +kernel⟩, List.mem_of_getElem? (i := 475) (by decide +kernel), List.mem_of_getElem? (i := 608) (by decide +kernel), List.mem_of_getElem? (i := 609) (by decide +kernel)⟩
theorem lw_p21 : lw_okq (⟨"GrayPointersModel", "fillSeen", "(I)I"⟩, 14) := ⟨⟨by decide +kernel, by decide +kernel⟩, List.mem_of_getElem? (i := 475) (by decide +kernel), List.mem_of_getElem? (i := 612) (by decide +kernel), List.mem_of_getElem? (i := 613) (by decide +kernel)⟩
theorem lw_p22 : lw_okq (⟨"GrayPointersModel", "seen", "(I)I"⟩, 14) := ⟨⟨by decide +kernel, by decide +kernel⟩, List.mem_of_getElem? (i := 475) (by decide +kernel), List.mem_of_getElem? (i := 616) (by decide +kernel), List.mem_of_getElem? (i := 617) (by decide +kernel)⟩
theorem lw_p23 : lw_okq (⟨"GrayPointersModel", "pointerOf", "(I)I"⟩, 14) := ⟨⟨by decide +kernel, by decide +kernel⟩, List.mem_of_getElem? (i := 475) (by decide +kernel), List.mem_of_getElem? (i := 620) (by decide +kernel), List.mem_of_getElem? (i := 621) (by decide +kernel)⟩
theorem lw_p24 : lw_okq (⟨"GrayPointersModel", "around", "(I)I"⟩, 14) := ⟨⟨by decide +kernel, by decide +kernel⟩, List.mem_of_getElem? (i := 475) (by decide +kernel), List.mem_of_getElem? (i := 624) (by decide +kernel), List.mem_of_getElem? (i := 625) (by decide +kernel)⟩
theorem lw_p25 : lw_okq (⟨"GrayPointersModel", "sampleOf", "(IZ)I"⟩, 14) := ⟨⟨by decide +kernel, by decide +kernel⟩, List.mem_of_getElem? (i := 475) (by decide +kernel), List.mem_of_getElem? (i := 628) (by decide +kernel), List.mem_of_getElem? (i := 629) (by decide +kernel)⟩
theorem lw_p26 : lw_okq (⟨"GrayPointersModel", "codeOf", "(I)I"⟩, 14) := ⟨⟨by decide +kernel, by decide +kernel⟩, List.mem_of_getElem? (i := 475) (by decide +kernel), List.mem_of_getElem? (i := 632) (by decide +kernel), List.mem_of_getElem? (i := 633) (by decide +kernel)⟩
theorem lw_p27 : lw_okq (⟨"GrayPointersModel", "samples", "(IIZ)V"⟩, 14) := ⟨⟨by decide +kernel, by decide +kernel⟩, List.mem_of_getElem? (i := 475) (by decide +kernel), List.mem_of_getElem? (i := 636) (by decide +kernel), List.mem_of_getElem? (i := 637) (by decide +kernel)⟩
theorem lw_p28 : lw_okq (⟨"GrayPointersModel", "takes", "()V"⟩, 14) := ⟨⟨by decide +kernel, by decide +kernel⟩, List.mem_of_getElem? (i := 475) (by decide +kernel), List.mem_of_getElem? (i := 640) (by decide +kernel), List.mem_of_getElem? (i := 641) (by decide +kernel)⟩
theorem lw_p29 : lw_okq (⟨"GrayPointersModel", "tells", "(IZ)V"⟩, 14) := ⟨⟨by decide +kernel, by decide +kernel⟩, List.mem_of_getElem? (i := 475) (by decide +kernel), List.mem_of_getElem? (i := 644) (by decide +kernel), List.mem_of_getElem? (i := 645) (by decide +kernel)⟩
theorem lw_p30 : lw_okq (⟨"GrayPointersModel", "puts", "()V"⟩, 14) := ⟨⟨by decide +kernel, by decide +kernel⟩, List.mem_of_getElem? (i := 475) (by decide +kernel), List.mem_of_getElem? (i := 648) (by decide +kernel), List.mem_of_getElem? (i := 649) (by decide +kernel)⟩
theorem lw_p31 : lw_okq (⟨"GrayPointersModel", "fault", "()I"⟩, 14) := ⟨⟨by decide +kernel, by decide +kernel⟩, List.mem_of_getElem? (i := 475) (by decide +kernel), List.mem_of_getElem? (i := 664) (by decide +kernel), List.mem_of_getElem? (i := 665) (by decide +kernel)⟩
def lw_privs_2 : List (MethodName × Nat) := [(⟨"GrayPointersModel", "passMany", "(I)V"⟩, 14), (⟨"GrayPointersModel", "passes", "()Z"⟩, 14), (⟨"GrayPointersModel", "ticksAt", "(II)Z"⟩, 14), (⟨"GrayPointersModel", "acts", "(IZ)Z"⟩, 14), (⟨"GrayPointersModel", "seems", "(I)Z"⟩, 14), (⟨"GrayPointersModel", "fillSeen", "(I)I"⟩, 14), (⟨"GrayPointersModel", "seen", "(I)I"⟩, 14), (⟨"GrayPointersModel", "pointerOf", "(I)I"⟩, 14), (⟨"GrayPointersModel", "around", "(I)I"⟩, 14), (⟨"GrayPointersModel", "sampleOf", "(IZ)I"⟩, 14), (⟨"GrayPointersModel", "codeOf", "(I)I"⟩, 14), (⟨"GrayPointersModel", "samples", "(IIZ)V"⟩, 14), (⟨"GrayPointersModel", "takes", "()V"⟩, 14), (⟨"GrayPointersModel", "tells", "(IZ)V"⟩, 14), (⟨"GrayPointersModel", "puts", "()V"⟩, 14), (⟨"GrayPointersModel", "fault", "()I"⟩, 14)]
theorem lw_r2 : ∀ q ∈ lw_privs_2, lw_okq q := List.forall_mem_cons.mpr ⟨lw_p16, List.forall_mem_cons.mpr ⟨lw_p17, List.forall_mem_cons.mpr ⟨lw_p18, List.forall_mem_cons.mpr ⟨lw_p19, List.forall_mem_cons.mpr ⟨lw_p20, List.forall_mem_cons.mpr ⟨lw_p21, List.forall_mem_cons.mpr ⟨lw_p22, List.forall_mem_cons.mpr ⟨lw_p23, List.forall_mem_cons.mpr ⟨lw_p24, List.forall_mem_cons.mpr ⟨lw_p25, List.forall_mem_cons.mpr ⟨lw_p26, List.forall_mem_cons.mpr ⟨lw_p27, List.forall_mem_cons.mpr ⟨lw_p28, List.forall_mem_cons.mpr ⟨lw_p29, List.forall_mem_cons.mpr ⟨lw_p30, List.forall_mem_cons.mpr ⟨lw_p31, fun _ h => absurd h List.not_mem_nil⟩⟩⟩⟩⟩⟩⟩⟩⟩⟩⟩⟩⟩⟩⟩⟩
theorem lw_p32 : lw_okq (⟨"GrayPointersModel", "readsPart", "()Z"⟩, 14) := ⟨⟨by decide +kernel, by decide +kernel⟩, List.mem_of_getElem? (i := 475) (by decide +kernel), List.mem_of_getElem? (i := 668) (by decide +kernel), List.mem_of_getElem? (i := 669) (by decide +kernel)⟩
theorem lw_p33 : lw_okq (⟨"GrayPointersModel", "takesSign", "(I)Z"⟩, 14) := ⟨⟨by decide +kernel, by decide +kernel⟩, List.mem_of_getElem? (i := 475) (by decide +kernel), List.mem_of_getElem? (i := 672) (by decide +kernel), List.mem_of_getElem? (i := 673) (by decide +kernel)⟩
theorem lw_p34 : lw_okq (⟨"GrayPointersModel", "isHere", "(II)Z"⟩, 14) := ⟨⟨by decide +kernel, by decide +kernel⟩, List.mem_of_getElem? (i := 475) (by decide +kernel), List.mem_of_getElem? (i := 676) (by decide +kernel), List.mem_of_getElem? (i := 677) (by decide +kernel)⟩
theorem lw_p35 : lw_okq (⟨"GrayPointersModel", "readsNumber", "(I)Z"⟩, 14) := ⟨⟨by decide +kernel, by decide +kernel⟩, List.mem_of_getElem? (i := 475) (by decide +kernel), List.mem_of_getElem? (i := 680) (by decide +kernel), List.mem_of_getElem? (i := 681) (by decide +kernel)⟩
theorem lw_p36 : lw_okq (⟨"GrayPointersModel", "doesText", "()I"⟩, 14) := ⟨⟨by decide +kernel, by decide +kernel⟩, List.mem_of_getElem? (i := 475) (by decide +kernel), List.mem_of_getElem? (i := 684) (by decide +kernel), List.mem_of_getElem? (i := 685) (by decide +kernel)⟩
theorem lw_p37 : lw_okq (⟨"GrayPointersModel", "isAlmost", "(I)Z"⟩, 14) := ⟨⟨by decide +kernel, by decide +kernel⟩, List.mem_of_getElem? (i := 475) (by decide +kernel), List.mem_of_getElem? (i := 704) (by decide +kernel), List.mem_of_getElem? (i := 705) (by decide +kernel)⟩
theorem lw_p38 : lw_okq (⟨"GrayPointersModel", "untilTick", "(I)I"⟩, 14) := ⟨⟨by decide +kernel, by decide +kernel⟩, List.mem_of_getElem? (i := 475) (by decide +kernel), List.mem_of_getElem? (i := 708) (by decide +kernel), List.mem_of_getElem? (i := 709) (by decide +kernel)⟩
theorem lw_p39 : lw_okq (⟨"GrayPointersModel", "isDone", "()Z"⟩, 14) := ⟨⟨by decide +kernel, by decide +kernel⟩, List.mem_of_getElem? (i := 475) (by decide +kernel), List.mem_of_getElem? (i := 728) (by decide +kernel), List.mem_of_getElem? (i := 729) (by decide +kernel)⟩
theorem lw_p40 : lw_okq (⟨"GrayPointersModel", "isEnough", "(II)Z"⟩, 14) := ⟨⟨by decide +kernel, by decide +kernel⟩, List.mem_of_getElem? (i := 475) (by decide +kernel), List.mem_of_getElem? (i := 736) (by decide +kernel), List.mem_of_getElem? (i := 737) (by decide +kernel)⟩
def lw_privs_3 : List (MethodName × Nat) := [(⟨"GrayPointersModel", "readsPart", "()Z"⟩, 14), (⟨"GrayPointersModel", "takesSign", "(I)Z"⟩, 14), (⟨"GrayPointersModel", "isHere", "(II)Z"⟩, 14), (⟨"GrayPointersModel", "readsNumber", "(I)Z"⟩, 14), (⟨"GrayPointersModel", "doesText", "()I"⟩, 14), (⟨"GrayPointersModel", "isAlmost", "(I)Z"⟩, 14), (⟨"GrayPointersModel", "untilTick", "(I)I"⟩, 14), (⟨"GrayPointersModel", "isDone", "()Z"⟩, 14), (⟨"GrayPointersModel", "isEnough", "(II)Z"⟩, 14)]
theorem lw_r3 : ∀ q ∈ lw_privs_3, lw_okq q := List.forall_mem_cons.mpr ⟨lw_p32, List.forall_mem_cons.mpr ⟨lw_p33, List.forall_mem_cons.mpr ⟨lw_p34, List.forall_mem_cons.mpr ⟨lw_p35, List.forall_mem_cons.mpr ⟨lw_p36, List.forall_mem_cons.mpr ⟨lw_p37, List.forall_mem_cons.mpr ⟨lw_p38, List.forall_mem_cons.mpr ⟨lw_p39, List.forall_mem_cons.mpr ⟨lw_p40, fun _ h => absurd h List.not_mem_nil⟩⟩⟩⟩⟩⟩⟩⟩⟩
def lw_privs : List (MethodName × Nat) := lw_privs_1 ++ (lw_privs_2 ++ (lw_privs_3))
def lw_tbl : List Cond := k2_sels lw_privs ++ tables_1
theorem lw_privs_ok : ∀ q ∈ lw_privs, lw_okq q := by
  show ∀ q ∈ lw_privs_1 ++ (lw_privs_2 ++ (lw_privs_3)), lw_okq q
  exact List.forall_mem_append.mpr ⟨lw_r1, List.forall_mem_append.mpr ⟨lw_r2, lw_r3⟩⟩
-- end of PART A
end
section
/-! ===== BEGIN words of one list among another's, by their places ===== -/
theorem goodIn_r {big : List Cond} (ws : List Cond) (ps : List Nat) (hp : ws = ps.filterMap (fun i => big[i]?)) (h : ws.all goodWord = true) : GoodIn big ws := by
  intro w hw
  have h1 := List.all_eq_true.mp h w hw
  rw [hp] at hw
  obtain ⟨i, -, hi⟩ := List.mem_filterMap.mp hw
  have hm : w ∈ big := by first | exact List.mem_of_getElem? hi | exact List.getElem?_mem hi
  exact ⟨hm, good_of_word h1⟩
theorem goodIn_app {big a b : List Cond} (ha : GoodIn big a) (hb : GoodIn big b) : GoodIn big (a ++ b) := fun w h => (List.mem_append.mp h).elim (ha w) (hb w)
theorem goodIn_ca {big a b : List Cond} {c : Cond} (ha : GoodIn big (c :: a)) (hb : GoodIn big b) : GoodIn big (c :: (a ++ b)) := fun w h => (List.mem_cons.mp h).elim (fun e => ha w (List.mem_cons.mpr (Or.inl e))) (fun h => (List.mem_append.mp h).elim (fun h => ha w (List.mem_cons.mpr (Or.inr h))) (hb w))
theorem goodIn_sub {big ws : List Cond} (hm : ∀ w ∈ ws, w ∈ big) (h : ws.all goodWord = true) : GoodIn big ws := fun w hw => ⟨hm w hw, good_of_word (List.all_eq_true.mp h w hw)⟩
/-! ===== END ===== -/

/-! ===== BEGIN printed: names, fields, word lists, decode rows ===== -/
def RX0 : String := "GrayPointers$History"
def TX0 : u_T := fun k => match k with
  | 0 => ("GrayPointers$History", "states", "[LGrayPointers$State;", true)
  | 1 => ("GrayPointers$History", "oldest", "I", false)
  | _ => ("GrayPointers$History", "size", "I", false)
def tyX0 : Nat → FieldType := fun k => match k with
  | 0 => .array (.object "GrayPointers$State")
  | 1 => .int
  | _ => .int
abbrev wsX00 : List Cond := u_ws RX0 TX0 3
theorem nmX0 : ∀ a, a < 3 → ∀ b, b < 3 → a ≠ b → (TX0 a).2.1 ≠ (TX0 b).2.1 := by decide +kernel
theorem tyX0_ok : ∀ k, k < 3 → parseFieldDescriptor (TX0 k).2.2.1 = some (tyX0 k) := by decide +kernel
abbrev cX0_init : ByteArray := prog_2_method_1_code
def yX0_init : MethodName := ⟨RX0, "<init>", "()V"⟩
abbrev cX0_add : ByteArray := prog_2_method_2_code
def yX0_add : MethodName := ⟨RX0, "add", "(LGrayPointers$State;)V"⟩
abbrev cX0_moveLatestTo : ByteArray := prog_2_method_3_code
def yX0_moveLatestTo : MethodName := ⟨RX0, "moveLatestTo", "(LGrayPointers$State;)Z"⟩
abbrev cX0_stateAt : ByteArray := prog_2_method_4_code
def yX0_stateAt : MethodName := ⟨RX0, "stateAt", "(I)LGrayPointers$State;"⟩
def RX1 : String := "GrayPointers$Side"
def TX1 : u_T := fun k => match k with
  | 0 => ("GrayPointers$Side", "period", "I", false)
  | 1 => ("GrayPointers$Side", "phase", "I", false)
  | 2 => ("GrayPointers$Side", "going", "Z", false)
  | 3 => ("GrayPointers$Side", "pointer", "I", false)
  | 4 => ("GrayPointers$Side", "first", "I", false)
  | 5 => ("GrayPointers$Side", "second", "I", false)
  | 6 => ("GrayPointers$Side", "ticks", "I", false)
  | _ => ("GrayPointers$Side", "torn", "I", false)
def tyX1 : Nat → FieldType := fun k => match k with
  | 0 => .int
  | 1 => .int
  | 2 => .boolean
  | 3 => .int
  | 4 => .int
  | 5 => .int
  | 6 => .int
  | _ => .int
abbrev wsX10 : List Cond := u_ws RX1 TX1 8
theorem nmX1 : ∀ a, a < 8 → ∀ b, b < 8 → a ≠ b → (TX1 a).2.1 ≠ (TX1 b).2.1 := by decide +kernel
theorem tyX1_ok : ∀ k, k < 8 → parseFieldDescriptor (TX1 k).2.2.1 = some (tyX1 k) := by decide +kernel
abbrev cX1_init : ByteArray := prog_3_method_1_code
def yX1_init : MethodName := ⟨RX1, "<init>", "(I)V"⟩
abbrev cX1_ticksAt : ByteArray := prog_3_method_2_code
def yX1_ticksAt : MethodName := ⟨RX1, "ticksAt", "(I)Z"⟩
abbrev cX1_timesToTick : ByteArray := prog_3_method_3_code
def yX1_timesToTick : MethodName := ⟨RX1, "timesToTick", "(I)I"⟩
abbrev cX1_tick : ByteArray := prog_3_method_4_code
def yX1_tick : MethodName := ⟨RX1, "tick", "(II)V"⟩
abbrev cX1_clearPointers : ByteArray := prog_3_method_5_code
def yX1_clearPointers : MethodName := ⟨RX1, "clearPointers", "()V"⟩
abbrev cX1_copy : ByteArray := prog_3_method_6_code
def yX1_copy : MethodName := ⟨RX1, "copy", "(LGrayPointers$Side;)V"⟩
def RX2 : String := "GrayPointers$State"
def TX2 : u_T := fun k => match k with
  | 0 => ("GrayPointers$State", "k", "I", false)
  | 1 => ("GrayPointers$State", "gray", "Z", false)
  | 2 => ("GrayPointers$State", "time", "I", false)
  | 3 => ("GrayPointers$State", "nearFull", "I", false)
  | 4 => ("GrayPointers$State", "nearEmpty", "I", false)
  | 5 => ("GrayPointers$State", "writer", "LGrayPointers$Side;", true)
  | 6 => ("GrayPointers$State", "reader", "LGrayPointers$Side;", true)
  | 7 => ("GrayPointers$State", "words", "[I", true)
  | 8 => ("GrayPointers$State", "numbers", "[I", true)
  | 9 => ("GrayPointers$State", "waits", "[I", true)
  | 10 => ("GrayPointers$State", "waitCount", "I", false)
  | 11 => ("GrayPointers$State", "came", "[I", true)
  | 12 => ("GrayPointers$State", "putCount", "I", false)
  | 13 => ("GrayPointers$State", "takenCount", "I", false)
  | _ => ("GrayPointers$State", "rightCount", "I", false)
def tyX2 : Nat → FieldType := fun k => match k with
  | 0 => .int
  | 1 => .boolean
  | 2 => .int
  | 3 => .int
  | 4 => .int
  | 5 => .object "GrayPointers$Side"
  | 6 => .object "GrayPointers$Side"
  | 7 => .array .int
  | 8 => .array .int
  | 9 => .array .int
  | 10 => .int
  | 11 => .array .int
  | 12 => .int
  | 13 => .int
  | _ => .int
abbrev wsX20 : List Cond := u_ws RX2 TX2 15
theorem nmX2 : ∀ a, a < 15 → ∀ b, b < 15 → a ≠ b → (TX2 a).2.1 ≠ (TX2 b).2.1 := by decide +kernel
theorem tyX2_ok : ∀ k, k < 15 → parseFieldDescriptor (TX2 k).2.2.1 = some (tyX2 k) := by decide +kernel
abbrev cX2_init : ByteArray := prog_4_method_1_code
def yX2_init : MethodName := ⟨RX2, "<init>", "()V"⟩
abbrev cX2_sideOf : ByteArray := prog_4_method_2_code
def yX2_sideOf : MethodName := ⟨RX2, "sideOf", "(I)LGrayPointers$Side;"⟩
abbrev cX2_depth : ByteArray := prog_4_method_3_code
def yX2_depth : MethodName := ⟨RX2, "depth", "()I"⟩
abbrev cX2_placeOf : ByteArray := prog_4_method_4_code
def yX2_placeOf : MethodName := ⟨RX2, "placeOf", "(I)I"⟩
abbrev cX2_around : ByteArray := prog_4_method_5_code
def yX2_around : MethodName := ⟨RX2, "around", "(I)I"⟩
abbrev cX2_codeOf : ByteArray := prog_4_method_6_code
def yX2_codeOf : MethodName := ⟨RX2, "codeOf", "(I)I"⟩
abbrev cX2_pointerOf : ByteArray := prog_4_method_7_code
def yX2_pointerOf : MethodName := ⟨RX2, "pointerOf", "(I)I"⟩
abbrev cX2_fillToWriter : ByteArray := prog_4_method_8_code
def yX2_fillToWriter : MethodName := ⟨RX2, "fillToWriter", "()I"⟩
abbrev cX2_fillToReader : ByteArray := prog_4_method_9_code
def yX2_fillToReader : MethodName := ⟨RX2, "fillToReader", "()I"⟩
abbrev cX2_seemsFull : ByteArray := prog_4_method_10_code
def yX2_seemsFull : MethodName := ⟨RX2, "seemsFull", "()Z"⟩
abbrev cX2_seemsEmpty : ByteArray := prog_4_method_11_code
def yX2_seemsEmpty : MethodName := ⟨RX2, "seemsEmpty", "()Z"⟩
abbrev cX2_seemsNearFull : ByteArray := prog_4_method_12_code
def yX2_seemsNearFull : MethodName := ⟨RX2, "seemsNearFull", "()Z"⟩
abbrev cX2_seemsNearEmpty : ByteArray := prog_4_method_13_code
def yX2_seemsNearEmpty : MethodName := ⟨RX2, "seemsNearEmpty", "()Z"⟩
abbrev cX2_emptyRing : ByteArray := prog_4_method_14_code
def yX2_emptyRing : MethodName := ⟨RX2, "emptyRing", "(IZ)V"⟩
abbrev cX2_letWait : ByteArray := prog_4_method_15_code
def yX2_letWait : MethodName := ⟨RX2, "letWait", "(II)Z"⟩
abbrev cX2_hasTimeFor : ByteArray := prog_4_method_16_code
def yX2_hasTimeFor : MethodName := ⟨RX2, "hasTimeFor", "(I)Z"⟩
abbrev cX2_letPass : ByteArray := prog_4_method_17_code
def yX2_letPass : MethodName := ⟨RX2, "letPass", "(I)V"⟩
abbrev cX2_follow : ByteArray := prog_4_method_18_code
def yX2_follow : MethodName := ⟨RX2, "follow", "(LGrayPointers$Text;)Z"⟩
abbrev cX2_isDone : ByteArray := prog_4_method_19_code
def yX2_isDone : MethodName := ⟨RX2, "isDone", "()Z"⟩
abbrev cX2_stallsWithin : ByteArray := prog_4_method_20_code
def yX2_stallsWithin : MethodName := ⟨RX2, "stallsWithin", "(I)Z"⟩
abbrev cX2_step : ByteArray := prog_4_method_21_code
def yX2_step : MethodName := ⟨RX2, "step", "()V"⟩
abbrev cX2_takeWord : ByteArray := prog_4_method_22_code
def yX2_takeWord : MethodName := ⟨RX2, "takeWord", "()V"⟩
abbrev cX2_putWord : ByteArray := prog_4_method_23_code
def yX2_putWord : MethodName := ⟨RX2, "putWord", "()V"⟩
abbrev cX2_latestCame : ByteArray := prog_4_method_24_code
def yX2_latestCame : MethodName := ⟨RX2, "latestCame", "(I)I"⟩
abbrev cX2_copy : ByteArray := prog_4_method_25_code
def yX2_copy : MethodName := ⟨RX2, "copy", "(LGrayPointers$State;)V"⟩
def RX3 : String := "GrayPointers$Text"
def TX3 : u_T := fun k => match k with
  | 0 => ("GrayPointers$Text", "signs", "[C", true)
  | 1 => ("GrayPointers$Text", "length", "I", false)
  | 2 => ("GrayPointers$Text", "partWords", "[I", true)
  | 3 => ("GrayPointers$Text", "partTimes", "[I", true)
  | 4 => ("GrayPointers$Text", "parts", "I", false)
  | _ => ("GrayPointers$Text", "cursor", "I", false)
def tyX3 : Nat → FieldType := fun k => match k with
  | 0 => .array .char
  | 1 => .int
  | 2 => .array .int
  | 3 => .array .int
  | 4 => .int
  | _ => .int
abbrev wsX30 : List Cond := u_ws RX3 TX3 6
theorem nmX3 : ∀ a, a < 6 → ∀ b, b < 6 → a ≠ b → (TX3 a).2.1 ≠ (TX3 b).2.1 := by decide +kernel
theorem tyX3_ok : ∀ k, k < 6 → parseFieldDescriptor (TX3 k).2.2.1 = some (tyX3 k) := by decide +kernel
abbrev cX3_init : ByteArray := prog_5_method_1_code
def yX3_init : MethodName := ⟨RX3, "<init>", "()V"⟩
abbrev cX3_append : ByteArray := prog_5_method_2_code
def yX3_append : MethodName := ⟨RX3, "append", "(C)Z"⟩
abbrev cX3_read : ByteArray := prog_5_method_3_code
def yX3_read : MethodName := ⟨RX3, "read", "()I"⟩
abbrev cX3_wordsInParts : ByteArray := prog_5_method_4_code
def yX3_wordsInParts : MethodName := ⟨RX3, "wordsInParts", "()I"⟩
abbrev cX3_readPart : ByteArray := prog_5_method_5_code
def yX3_readPart : MethodName := ⟨RX3, "readPart", "()Z"⟩
abbrev cX3_readNumber : ByteArray := prog_5_method_6_code
def yX3_readNumber : MethodName := ⟨RX3, "readNumber", "(I)I"⟩
abbrev cX3_readSign : ByteArray := prog_5_method_7_code
def yX3_readSign : MethodName := ⟨RX3, "readSign", "(C)Z"⟩
abbrev cX3_digitAtCursor : ByteArray := prog_5_method_8_code
def yX3_digitAtCursor : MethodName := ⟨RX3, "digitAtCursor", "()I"⟩
abbrev cX3_hasSign : ByteArray := prog_5_method_9_code
def yX3_hasSign : MethodName := ⟨RX3, "hasSign", "()Z"⟩
abbrev cX3_addPart : ByteArray := prog_5_method_10_code
def yX3_addPart : MethodName := ⟨RX3, "addPart", "(II)Z"⟩
def RX4 : String := "GrayPointers"
def TX4 : u_T := fun k => match k with
  | 0 => ("GrayPointers", "state", "LGrayPointers$State;", true)
  | 1 => ("GrayPointers", "trial", "LGrayPointers$State;", true)
  | 2 => ("GrayPointers", "snapshot", "LGrayPointers$State;", true)
  | 3 => ("GrayPointers", "snapshotTaken", "Z", false)
  | 4 => ("GrayPointers", "history", "LGrayPointers$History;", true)
  | _ => ("GrayPointers", "text", "LGrayPointers$Text;", true)
def tyX4 : Nat → FieldType := fun k => match k with
  | 0 => .object "GrayPointers$State"
  | 1 => .object "GrayPointers$State"
  | 2 => .object "GrayPointers$State"
  | 3 => .boolean
  | 4 => .object "GrayPointers$History"
  | _ => .object "GrayPointers$Text"
abbrev wsX40 : List Cond := u_ws RX4 TX4 6
theorem nmX4 : ∀ a, a < 6 → ∀ b, b < 6 → a ≠ b → (TX4 a).2.1 ≠ (TX4 b).2.1 := by decide +kernel
theorem tyX4_ok : ∀ k, k < 6 → parseFieldDescriptor (TX4 k).2.2.1 = some (tyX4 k) := by decide +kernel
abbrev cX4_init : ByteArray := prog_1_method_1_code
def yX4_init : MethodName := ⟨RX4, "<init>", "()V"⟩
abbrev cX4_build : ByteArray := prog_1_method_2_code
def yX4_build : MethodName := ⟨RX4, "build", "(IZ)I"⟩
abbrev cX4_setClock : ByteArray := prog_1_method_3_code
def yX4_setClock : MethodName := ⟨RX4, "setClock", "(III)I"⟩
abbrev cX4_start : ByteArray := prog_1_method_4_code
def yX4_start : MethodName := ⟨RX4, "start", "(IZ)I"⟩
abbrev cX4_set : ByteArray := prog_1_method_5_code
def yX4_set : MethodName := ⟨RX4, "set", "(II)I"⟩
abbrev cX4_push : ByteArray := prog_1_method_6_code
def yX4_push : MethodName := ⟨RX4, "push", "(I)I"⟩
abbrev cX4_pushAll : ByteArray := prog_1_method_7_code
def yX4_pushAll : MethodName := ⟨RX4, "pushAll", "()I"⟩
abbrev cX4_pass : ByteArray := prog_1_method_8_code
def yX4_pass : MethodName := ⟨RX4, "pass", "(I)I"⟩
abbrev cX4_type : ByteArray := prog_1_method_9_code
def yX4_type : MethodName := ⟨RX4, "type", "(C)I"⟩
abbrev cX4_clearText : ByteArray := prog_1_method_10_code
def yX4_clearText : MethodName := ⟨RX4, "clearText", "()I"⟩
abbrev cX4_undo : ByteArray := prog_1_method_11_code
def yX4_undo : MethodName := ⟨RX4, "undo", "()I"⟩
abbrev cX4_keep : ByteArray := prog_1_method_12_code
def yX4_keep : MethodName := ⟨RX4, "keep", "()I"⟩
abbrev cX4_restore : ByteArray := prog_1_method_13_code
def yX4_restore : MethodName := ⟨RX4, "restore", "()I"⟩
abbrev cX4_side : ByteArray := prog_1_method_14_code
def yX4_side : MethodName := ⟨RX4, "side", "(II)I"⟩
abbrev cX4_place : ByteArray := prog_1_method_15_code
def yX4_place : MethodName := ⟨RX4, "place", "(II)I"⟩
abbrev cX4_waiting : ByteArray := prog_1_method_16_code
def yX4_waiting : MethodName := ⟨RX4, "waiting", "(I)I"⟩
abbrev cX4_taken : ByteArray := prog_1_method_17_code
def yX4_taken : MethodName := ⟨RX4, "taken", "(I)I"⟩
abbrev cX4_doneIn : ByteArray := prog_1_method_18_code
def yX4_doneIn : MethodName := ⟨RX4, "doneIn", "()I"⟩
abbrev cX4_leastDepth : ByteArray := prog_1_method_19_code
def yX4_leastDepth : MethodName := ⟨RX4, "leastDepth", "(I)I"⟩
abbrev cX4_count : ByteArray := prog_1_method_20_code
def yX4_count : MethodName := ⟨RX4, "count", "(I)I"⟩
abbrev cX4_isWithin : ByteArray := prog_1_method_21_code
def yX4_isWithin : MethodName := ⟨RX4, "isWithin", "(III)Z"⟩
abbrev cX4_isSide : ByteArray := prog_1_method_22_code
def yX4_isSide : MethodName := ⟨RX4, "isSide", "(I)Z"⟩
abbrev cX4_asNumber : ByteArray := prog_1_method_23_code
def yX4_asNumber : MethodName := ⟨RX4, "asNumber", "(Z)I"⟩
abbrev cX4_remainder : ByteArray := prog_1_method_24_code
def yX4_remainder : MethodName := ⟨RX4, "remainder", "(II)I"⟩
abbrev cX4_valueAt : ByteArray := prog_1_method_25_code
def yX4_valueAt : MethodName := ⟨RX4, "valueAt", "([II)I"⟩
abbrev cX4_setAt : ByteArray := prog_1_method_26_code
def yX4_setAt : MethodName := ⟨RX4, "setAt", "([III)V"⟩
abbrev cX4_fillRow : ByteArray := prog_1_method_27_code
def yX4_fillRow : MethodName := ⟨RX4, "fillRow", "([II)V"⟩
abbrev cX4_copyRow : ByteArray := prog_1_method_28_code
def yX4_copyRow : MethodName := ⟨RX4, "copyRow", "([I[I)V"⟩
def RX5 : String := "GrayPointersModel"
def TX5 : u_T := fun k => match k with
  | 0 => ("GrayPointersModel", "all", "[I", true)
  | 1 => ("GrayPointersModel", "kept", "[I", true)
  | 2 => ("GrayPointersModel", "tried", "[I", true)
  | 3 => ("GrayPointersModel", "history", "[I", true)
  | 4 => ("GrayPointersModel", "historyLong", "I", false)
  | 5 => ("GrayPointersModel", "snapshot", "[I", true)
  | 6 => ("GrayPointersModel", "isTaken", "I", false)
  | 7 => ("GrayPointersModel", "text", "[I", true)
  | 8 => ("GrayPointersModel", "textLong", "I", false)
  | 9 => ("GrayPointersModel", "spot", "I", false)
  | 10 => ("GrayPointersModel", "number", "I", false)
  | 11 => ("GrayPointersModel", "wordRead", "I", false)
  | 12 => ("GrayPointersModel", "oftenRead", "I", false)
  | _ => ("GrayPointersModel", "timesRead", "I", false)
def tyX5 : Nat → FieldType := fun k => match k with
  | 0 => .array .int
  | 1 => .array .int
  | 2 => .array .int
  | 3 => .array .int
  | 4 => .int
  | 5 => .array .int
  | 6 => .int
  | 7 => .array .int
  | 8 => .int
  | 9 => .int
  | 10 => .int
  | 11 => .int
  | 12 => .int
  | _ => .int
abbrev wsX50 : List Cond := u_ws RX5 TX5 14
theorem nmX5 : ∀ a, a < 14 → ∀ b, b < 14 → a ≠ b → (TX5 a).2.1 ≠ (TX5 b).2.1 := by decide +kernel
theorem tyX5_ok : ∀ k, k < 14 → parseFieldDescriptor (TX5 k).2.2.1 = some (tyX5 k) := by decide +kernel
abbrev cX5_init : ByteArray := prog_7_method_1_code
def yX5_init : MethodName := ⟨RX5, "<init>", "()V"⟩
abbrev cX5_in : ByteArray := prog_7_method_3_code
def yX5_in : MethodName := ⟨RX5, "in", "(JJJ)Z"⟩
abbrev cX5_copy : ByteArray := prog_7_method_4_code
def yX5_copy : MethodName := ⟨RX5, "copy", "([I[I)V"⟩
abbrev cX5_remember : ByteArray := prog_7_method_5_code
def yX5_remember : MethodName := ⟨RX5, "remember", "()V"⟩
abbrev cX5_acted : ByteArray := prog_7_method_6_code
def yX5_acted : MethodName := ⟨RX5, "acted", "(I)I"⟩
abbrev cX5_isSide : ByteArray := prog_7_method_7_code
def yX5_isSide : MethodName := ⟨RX5, "isSide", "(I)Z"⟩
abbrev cX5_of : ByteArray := prog_7_method_8_code
def yX5_of : MethodName := ⟨RX5, "of", "(II)I"⟩
abbrev cX5_to : ByteArray := prog_7_method_9_code
def yX5_to : MethodName := ⟨RX5, "to", "(III)V"⟩
abbrev cX5_depth : ByteArray := prog_7_method_10_code
def yX5_depth : MethodName := ⟨RX5, "depth", "()I"⟩
abbrev cX5_codeOf : ByteArray := prog_7_method_11_code
def yX5_codeOf : MethodName := ⟨RX5, "codeOf", "(I)I"⟩
abbrev cX5_pointerOf : ByteArray := prog_7_method_12_code
def yX5_pointerOf : MethodName := ⟨RX5, "pointerOf", "(I)I"⟩
abbrev cX5_around : ByteArray := prog_7_method_13_code
def yX5_around : MethodName := ⟨RX5, "around", "(I)I"⟩
abbrev cX5_seen : ByteArray := prog_7_method_14_code
def yX5_seen : MethodName := ⟨RX5, "seen", "(I)I"⟩
abbrev cX5_fillSeen : ByteArray := prog_7_method_15_code
def yX5_fillSeen : MethodName := ⟨RX5, "fillSeen", "(I)I"⟩
abbrev cX5_seems : ByteArray := prog_7_method_16_code
def yX5_seems : MethodName := ⟨RX5, "seems", "(I)Z"⟩
abbrev cX5_ticksAt : ByteArray := prog_7_method_17_code
def yX5_ticksAt : MethodName := ⟨RX5, "ticksAt", "(II)Z"⟩
abbrev cX5_acts : ByteArray := prog_7_method_18_code
def yX5_acts : MethodName := ⟨RX5, "acts", "(IZ)Z"⟩
abbrev cX5_sampleOf : ByteArray := prog_7_method_19_code
def yX5_sampleOf : MethodName := ⟨RX5, "sampleOf", "(IZ)I"⟩
abbrev cX5_samples : ByteArray := prog_7_method_20_code
def yX5_samples : MethodName := ⟨RX5, "samples", "(IIZ)V"⟩
abbrev cX5_tells : ByteArray := prog_7_method_21_code
def yX5_tells : MethodName := ⟨RX5, "tells", "(IZ)V"⟩
abbrev cX5_takes : ByteArray := prog_7_method_22_code
def yX5_takes : MethodName := ⟨RX5, "takes", "()V"⟩
abbrev cX5_puts : ByteArray := prog_7_method_23_code
def yX5_puts : MethodName := ⟨RX5, "puts", "()V"⟩
abbrev cX5_passes : ByteArray := prog_7_method_24_code
def yX5_passes : MethodName := ⟨RX5, "passes", "()Z"⟩
abbrev cX5_passMany : ByteArray := prog_7_method_25_code
def yX5_passMany : MethodName := ⟨RX5, "passMany", "(I)V"⟩
abbrev cX5_builds : ByteArray := prog_7_method_26_code
def yX5_builds : MethodName := ⟨RX5, "builds", "(II)V"⟩
abbrev cX5_build : ByteArray := prog_7_method_27_code
def yX5_build : MethodName := ⟨RX5, "build", "(IZ)I"⟩
abbrev cX5_setClock : ByteArray := prog_7_method_28_code
def yX5_setClock : MethodName := ⟨RX5, "setClock", "(III)I"⟩
abbrev cX5_start : ByteArray := prog_7_method_29_code
def yX5_start : MethodName := ⟨RX5, "start", "(IZ)I"⟩
abbrev cX5_set : ByteArray := prog_7_method_30_code
def yX5_set : MethodName := ⟨RX5, "set", "(II)I"⟩
abbrev cX5_waits : ByteArray := prog_7_method_31_code
def yX5_waits : MethodName := ⟨RX5, "waits", "(I)V"⟩
abbrev cX5_push : ByteArray := prog_7_method_32_code
def yX5_push : MethodName := ⟨RX5, "push", "(I)I"⟩
abbrev cX5_pass : ByteArray := prog_7_method_33_code
def yX5_pass : MethodName := ⟨RX5, "pass", "(I)I"⟩
abbrev cX5_type : ByteArray := prog_7_method_34_code
def yX5_type : MethodName := ⟨RX5, "type", "(C)I"⟩
abbrev cX5_clearText : ByteArray := prog_7_method_35_code
def yX5_clearText : MethodName := ⟨RX5, "clearText", "()I"⟩
abbrev cX5_isHere : ByteArray := prog_7_method_36_code
def yX5_isHere : MethodName := ⟨RX5, "isHere", "(II)Z"⟩
abbrev cX5_takesSign : ByteArray := prog_7_method_37_code
def yX5_takesSign : MethodName := ⟨RX5, "takesSign", "(I)Z"⟩
abbrev cX5_readsNumber : ByteArray := prog_7_method_38_code
def yX5_readsNumber : MethodName := ⟨RX5, "readsNumber", "(I)Z"⟩
abbrev cX5_readsPart : ByteArray := prog_7_method_39_code
def yX5_readsPart : MethodName := ⟨RX5, "readsPart", "()Z"⟩
abbrev cX5_fault : ByteArray := prog_7_method_40_code
def yX5_fault : MethodName := ⟨RX5, "fault", "()I"⟩
abbrev cX5_doesText : ByteArray := prog_7_method_41_code
def yX5_doesText : MethodName := ⟨RX5, "doesText", "()I"⟩
abbrev cX5_pushAll : ByteArray := prog_7_method_42_code
def yX5_pushAll : MethodName := ⟨RX5, "pushAll", "()I"⟩
abbrev cX5_undo : ByteArray := prog_7_method_43_code
def yX5_undo : MethodName := ⟨RX5, "undo", "()I"⟩
abbrev cX5_keep : ByteArray := prog_7_method_44_code
def yX5_keep : MethodName := ⟨RX5, "keep", "()I"⟩
abbrev cX5_restore : ByteArray := prog_7_method_45_code
def yX5_restore : MethodName := ⟨RX5, "restore", "()I"⟩
abbrev cX5_isAlmost : ByteArray := prog_7_method_46_code
def yX5_isAlmost : MethodName := ⟨RX5, "isAlmost", "(I)Z"⟩
abbrev cX5_untilTick : ByteArray := prog_7_method_47_code
def yX5_untilTick : MethodName := ⟨RX5, "untilTick", "(I)I"⟩
abbrev cX5_side : ByteArray := prog_7_method_48_code
def yX5_side : MethodName := ⟨RX5, "side", "(II)I"⟩
abbrev cX5_place : ByteArray := prog_7_method_49_code
def yX5_place : MethodName := ⟨RX5, "place", "(II)I"⟩
abbrev cX5_waiting : ByteArray := prog_7_method_50_code
def yX5_waiting : MethodName := ⟨RX5, "waiting", "(I)I"⟩
abbrev cX5_taken : ByteArray := prog_7_method_51_code
def yX5_taken : MethodName := ⟨RX5, "taken", "(I)I"⟩
abbrev cX5_isDone : ByteArray := prog_7_method_52_code
def yX5_isDone : MethodName := ⟨RX5, "isDone", "()Z"⟩
abbrev cX5_doneIn : ByteArray := prog_7_method_53_code
def yX5_doneIn : MethodName := ⟨RX5, "doneIn", "()I"⟩
abbrev cX5_isEnough : ByteArray := prog_7_method_54_code
def yX5_isEnough : MethodName := ⟨RX5, "isEnough", "(II)Z"⟩
abbrev cX5_leastDepth : ByteArray := prog_7_method_55_code
def yX5_leastDepth : MethodName := ⟨RX5, "leastDepth", "(I)I"⟩
abbrev cX5_count : ByteArray := prog_7_method_56_code
def yX5_count : MethodName := ⟨RX5, "count", "(I)I"⟩
def RL : String := "GrayPointersLaw"
abbrev cL_law : ByteArray := code
def yL_law : MethodName := ⟨RL, "law", "([I)Z"⟩
def wsX1_init : List Cond := .code yX1_init cX1_init 2 none :: ([.methodLink RX1 3 objectInit, .instanceMethod objectInit, .code objectInit ⟨#[0xb1]⟩ 1 none, .fieldLink RX1 9 "GrayPointers$Side" "going" "Z", .fieldLink RX1 15 "GrayPointers$Side" "period" "I"] ++ wsX10)
def wsX4_fillRow : List Cond := .code yX4_fillRow cX4_fillRow 3 none :: ([])
def wsX2_init_r1 : List Cond := [Cond.methodLink RX2 3 objectInit, Cond.instanceMethod objectInit, Cond.code objectInit ⟨#[0xb1]⟩ 1 none, Cond.fieldLink RX2 9 "GrayPointers$State" "k" "I", Cond.fieldLink RX2 15 "GrayPointers$State" "gray" "Z", Cond.fieldLink RX2 19 "GrayPointers$State" "nearFull" "I", Cond.fieldLink RX2 22 "GrayPointers$State" "nearEmpty" "I", Cond.classLink RX2 25 RX1, Cond.instantiable RX1 8, Cond.initialized RX1, Cond.fieldLink RX2 30 "GrayPointers$State" "writer" "LGrayPointers$Side;", Cond.fieldLink RX2 34 "GrayPointers$State" "reader" "LGrayPointers$Side;", Cond.arrayClass .int, Cond.fieldLink RX2 37 "GrayPointers$State" "words" "[I", Cond.fieldLink RX2 41 "GrayPointers$State" "numbers" "[I", Cond.fieldLink RX2 44 "GrayPointers$State" "waits" "[I", Cond.fieldLink RX2 47 "GrayPointers$State" "came" "[I", Cond.methodLink RX2 27 yX1_init, Cond.instanceMethod yX1_init, Cond.code yX1_init cX1_init 2 none, Cond.methodLink RX1 3 objectInit, Cond.fieldLink RX1 9 "GrayPointers$Side" "going" "Z", Cond.fieldLink RX1 15 "GrayPointers$Side" "period" "I", Cond.static yX4_fillRow]
def wsX2_init_r2 : List Cond := [Cond.initialized RX4, Cond.code yX4_fillRow cX4_fillRow 3 none]
def wsX2_init : List Cond := .code yX2_init cX2_init 1 none :: ((wsX2_init_r1 ++ wsX2_init_r2) ++ wsX20 ++ wsX10)
def wsX0_init_r1 : List Cond := [Cond.methodLink RX0 3 objectInit, Cond.instanceMethod objectInit, Cond.code objectInit ⟨#[0xb1]⟩ 1 none, Cond.classLink RX0 9 RX2, Cond.fieldLink RX0 11 "GrayPointers$History" "states" "[LGrayPointers$State;", Cond.instantiable RX2 15, Cond.initialized RX2, Cond.methodLink RX0 17 yX2_init, Cond.instanceMethod yX2_init, Cond.code yX2_init cX2_init 1 none, Cond.methodLink RX2 3 objectInit, Cond.fieldLink RX2 9 "GrayPointers$State" "k" "I", Cond.fieldLink RX2 15 "GrayPointers$State" "gray" "Z", Cond.fieldLink RX2 19 "GrayPointers$State" "nearFull" "I", Cond.fieldLink RX2 22 "GrayPointers$State" "nearEmpty" "I", Cond.classLink RX2 25 RX1, Cond.instantiable RX1 8, Cond.initialized RX1, Cond.fieldLink RX2 30 "GrayPointers$State" "writer" "LGrayPointers$Side;", Cond.fieldLink RX2 34 "GrayPointers$State" "reader" "LGrayPointers$Side;", Cond.arrayClass .int, Cond.fieldLink RX2 37 "GrayPointers$State" "words" "[I", Cond.fieldLink RX2 41 "GrayPointers$State" "numbers" "[I", Cond.fieldLink RX2 44 "GrayPointers$State" "waits" "[I"]
def wsX0_init_r2 : List Cond := [Cond.fieldLink RX2 47 "GrayPointers$State" "came" "[I", Cond.methodLink RX2 27 yX1_init, Cond.instanceMethod yX1_init, Cond.code yX1_init cX1_init 2 none, Cond.methodLink RX1 3 objectInit, Cond.fieldLink RX1 9 "GrayPointers$Side" "going" "Z", Cond.fieldLink RX1 15 "GrayPointers$Side" "period" "I", Cond.static yX4_fillRow, Cond.initialized RX4, Cond.code yX4_fillRow cX4_fillRow 3 none]
def wsX0_init : List Cond := .code yX0_init cX0_init 2 none :: ((wsX0_init_r1 ++ wsX0_init_r2) ++ wsX00 ++ wsX20 ++ wsX10)
def wsX4_remainder : List Cond := .code yX4_remainder cX4_remainder 2 (some .int) :: ([])
def wsX0_stateAt : List Cond := .code yX0_stateAt cX0_stateAt 3 (some (.object "GrayPointers$State")) :: ([.fieldLink RX0 22 "GrayPointers$History" "oldest" "I", .fieldLink RX0 11 "GrayPointers$History" "states" "[LGrayPointers$State;", .static yX4_remainder, .initialized RX4, .code yX4_remainder cX4_remainder 2 (some .int)] ++ wsX00)
def wsX1_copy : List Cond := .code yX1_copy cX1_copy 2 none :: ([.fieldLink RX1 15 "GrayPointers$Side" "period" "I", .fieldLink RX1 19 "GrayPointers$Side" "phase" "I", .fieldLink RX1 9 "GrayPointers$Side" "going" "Z", .fieldLink RX1 38 "GrayPointers$Side" "pointer" "I", .fieldLink RX1 32 "GrayPointers$Side" "first" "I", .fieldLink RX1 35 "GrayPointers$Side" "second" "I", .fieldLink RX1 26 "GrayPointers$Side" "ticks" "I", .fieldLink RX1 29 "GrayPointers$Side" "torn" "I"] ++ wsX10)
def wsX4_copyRow : List Cond := .code yX4_copyRow cX4_copyRow 3 none :: ([])
def wsX2_copy_r1 : List Cond := [Cond.fieldLink RX2 9 "GrayPointers$State" "k" "I", Cond.fieldLink RX2 15 "GrayPointers$State" "gray" "Z", Cond.fieldLink RX2 96 "GrayPointers$State" "time" "I", Cond.fieldLink RX2 19 "GrayPointers$State" "nearFull" "I", Cond.fieldLink RX2 22 "GrayPointers$State" "nearEmpty" "I", Cond.fieldLink RX2 30 "GrayPointers$State" "writer" "LGrayPointers$Side;", Cond.fieldLink RX2 34 "GrayPointers$State" "reader" "LGrayPointers$Side;", Cond.fieldLink RX2 37 "GrayPointers$State" "words" "[I", Cond.fieldLink RX2 41 "GrayPointers$State" "numbers" "[I", Cond.fieldLink RX2 44 "GrayPointers$State" "waits" "[I", Cond.fieldLink RX2 89 "GrayPointers$State" "waitCount" "I", Cond.fieldLink RX2 47 "GrayPointers$State" "came" "[I", Cond.fieldLink RX2 80 "GrayPointers$State" "putCount" "I", Cond.fieldLink RX2 83 "GrayPointers$State" "takenCount" "I", Cond.fieldLink RX2 86 "GrayPointers$State" "rightCount" "I", Cond.methodLink RX2 155 yX1_copy, Cond.instanceMethod yX1_copy, Cond.selects RX1 yX1_copy yX1_copy, Cond.initialized RX1, Cond.code yX1_copy cX1_copy 2 none, Cond.fieldLink RX1 15 "GrayPointers$Side" "period" "I", Cond.fieldLink RX1 19 "GrayPointers$Side" "phase" "I", Cond.fieldLink RX1 9 "GrayPointers$Side" "going" "Z", Cond.fieldLink RX1 38 "GrayPointers$Side" "pointer" "I"]
def wsX2_copy_r2 : List Cond := [Cond.fieldLink RX1 32 "GrayPointers$Side" "first" "I", Cond.fieldLink RX1 35 "GrayPointers$Side" "second" "I", Cond.fieldLink RX1 26 "GrayPointers$Side" "ticks" "I", Cond.fieldLink RX1 29 "GrayPointers$Side" "torn" "I", Cond.static yX4_copyRow, Cond.initialized RX4, Cond.code yX4_copyRow cX4_copyRow 3 none]
def wsX2_copy : List Cond := .code yX2_copy cX2_copy 2 none :: ((wsX2_copy_r1 ++ wsX2_copy_r2) ++ wsX20 ++ wsX10)
def wsX0_add_r1 : List Cond := [Cond.fieldLink RX0 18 "GrayPointers$History" "size" "I", Cond.fieldLink RX0 22 "GrayPointers$History" "oldest" "I", Cond.static yX4_remainder, Cond.initialized RX4, Cond.code yX4_remainder cX4_remainder 2 (some .int), Cond.methodLink RX0 29 yX0_stateAt, Cond.instanceMethod yX0_stateAt, Cond.selects RX0 yX0_stateAt yX0_stateAt, Cond.initialized RX0, Cond.code yX0_stateAt cX0_stateAt 3 (some (.object "GrayPointers$State")), Cond.fieldLink RX0 11 "GrayPointers$History" "states" "[LGrayPointers$State;", Cond.methodLink RX0 33 yX2_copy, Cond.instanceMethod yX2_copy, Cond.selects RX2 yX2_copy yX2_copy, Cond.initialized RX2, Cond.code yX2_copy cX2_copy 2 none, Cond.fieldLink RX2 9 "GrayPointers$State" "k" "I", Cond.fieldLink RX2 15 "GrayPointers$State" "gray" "Z", Cond.fieldLink RX2 96 "GrayPointers$State" "time" "I", Cond.fieldLink RX2 19 "GrayPointers$State" "nearFull" "I", Cond.fieldLink RX2 22 "GrayPointers$State" "nearEmpty" "I", Cond.fieldLink RX2 30 "GrayPointers$State" "writer" "LGrayPointers$Side;", Cond.fieldLink RX2 34 "GrayPointers$State" "reader" "LGrayPointers$Side;", Cond.fieldLink RX2 37 "GrayPointers$State" "words" "[I"]
def wsX0_add_r2 : List Cond := [Cond.fieldLink RX2 41 "GrayPointers$State" "numbers" "[I", Cond.fieldLink RX2 44 "GrayPointers$State" "waits" "[I", Cond.fieldLink RX2 89 "GrayPointers$State" "waitCount" "I", Cond.fieldLink RX2 47 "GrayPointers$State" "came" "[I", Cond.fieldLink RX2 80 "GrayPointers$State" "putCount" "I", Cond.fieldLink RX2 83 "GrayPointers$State" "takenCount" "I", Cond.fieldLink RX2 86 "GrayPointers$State" "rightCount" "I", Cond.methodLink RX2 155 yX1_copy, Cond.instanceMethod yX1_copy, Cond.selects RX1 yX1_copy yX1_copy, Cond.initialized RX1, Cond.code yX1_copy cX1_copy 2 none, Cond.fieldLink RX1 15 "GrayPointers$Side" "period" "I", Cond.fieldLink RX1 19 "GrayPointers$Side" "phase" "I", Cond.fieldLink RX1 9 "GrayPointers$Side" "going" "Z", Cond.fieldLink RX1 38 "GrayPointers$Side" "pointer" "I", Cond.fieldLink RX1 32 "GrayPointers$Side" "first" "I", Cond.fieldLink RX1 35 "GrayPointers$Side" "second" "I", Cond.fieldLink RX1 26 "GrayPointers$Side" "ticks" "I", Cond.fieldLink RX1 29 "GrayPointers$Side" "torn" "I", Cond.static yX4_copyRow, Cond.code yX4_copyRow cX4_copyRow 3 none]
def wsX0_add : List Cond := .code yX0_add cX0_add 3 none :: ((wsX0_add_r1 ++ wsX0_add_r2) ++ wsX00 ++ wsX20 ++ wsX10)
def wsX0_moveLatestTo_r1 : List Cond := [Cond.fieldLink RX0 18 "GrayPointers$History" "size" "I", Cond.methodLink RX0 29 yX0_stateAt, Cond.instanceMethod yX0_stateAt, Cond.selects RX0 yX0_stateAt yX0_stateAt, Cond.initialized RX0, Cond.code yX0_stateAt cX0_stateAt 3 (some (.object "GrayPointers$State")), Cond.fieldLink RX0 22 "GrayPointers$History" "oldest" "I", Cond.fieldLink RX0 11 "GrayPointers$History" "states" "[LGrayPointers$State;", Cond.static yX4_remainder, Cond.initialized RX4, Cond.code yX4_remainder cX4_remainder 2 (some .int), Cond.methodLink RX0 33 yX2_copy, Cond.instanceMethod yX2_copy, Cond.selects RX2 yX2_copy yX2_copy, Cond.initialized RX2, Cond.code yX2_copy cX2_copy 2 none, Cond.fieldLink RX2 9 "GrayPointers$State" "k" "I", Cond.fieldLink RX2 15 "GrayPointers$State" "gray" "Z", Cond.fieldLink RX2 96 "GrayPointers$State" "time" "I", Cond.fieldLink RX2 19 "GrayPointers$State" "nearFull" "I", Cond.fieldLink RX2 22 "GrayPointers$State" "nearEmpty" "I", Cond.fieldLink RX2 30 "GrayPointers$State" "writer" "LGrayPointers$Side;", Cond.fieldLink RX2 34 "GrayPointers$State" "reader" "LGrayPointers$Side;", Cond.fieldLink RX2 37 "GrayPointers$State" "words" "[I"]
def wsX0_moveLatestTo_r2 : List Cond := [Cond.fieldLink RX2 41 "GrayPointers$State" "numbers" "[I", Cond.fieldLink RX2 44 "GrayPointers$State" "waits" "[I", Cond.fieldLink RX2 89 "GrayPointers$State" "waitCount" "I", Cond.fieldLink RX2 47 "GrayPointers$State" "came" "[I", Cond.fieldLink RX2 80 "GrayPointers$State" "putCount" "I", Cond.fieldLink RX2 83 "GrayPointers$State" "takenCount" "I", Cond.fieldLink RX2 86 "GrayPointers$State" "rightCount" "I", Cond.methodLink RX2 155 yX1_copy, Cond.instanceMethod yX1_copy, Cond.selects RX1 yX1_copy yX1_copy, Cond.initialized RX1, Cond.code yX1_copy cX1_copy 2 none, Cond.fieldLink RX1 15 "GrayPointers$Side" "period" "I", Cond.fieldLink RX1 19 "GrayPointers$Side" "phase" "I", Cond.fieldLink RX1 9 "GrayPointers$Side" "going" "Z", Cond.fieldLink RX1 38 "GrayPointers$Side" "pointer" "I", Cond.fieldLink RX1 32 "GrayPointers$Side" "first" "I", Cond.fieldLink RX1 35 "GrayPointers$Side" "second" "I", Cond.fieldLink RX1 26 "GrayPointers$Side" "ticks" "I", Cond.fieldLink RX1 29 "GrayPointers$Side" "torn" "I", Cond.static yX4_copyRow, Cond.code yX4_copyRow cX4_copyRow 3 none]
def wsX0_moveLatestTo : List Cond := .code yX0_moveLatestTo cX0_moveLatestTo 3 (some .boolean) :: ((wsX0_moveLatestTo_r1 ++ wsX0_moveLatestTo_r2) ++ wsX00 ++ wsX20 ++ wsX10)
def wsX1_ticksAt : List Cond := .code yX1_ticksAt cX1_ticksAt 2 (some .boolean) :: ([.fieldLink RX1 9 "GrayPointers$Side" "going" "Z", .fieldLink RX1 19 "GrayPointers$Side" "phase" "I", .fieldLink RX1 15 "GrayPointers$Side" "period" "I", .static yX4_remainder, .initialized RX4, .code yX4_remainder cX4_remainder 2 (some .int)] ++ wsX10)
def wsX1_timesToTick : List Cond := .code yX1_timesToTick cX1_timesToTick 2 (some .int) :: ([.fieldLink RX1 9 "GrayPointers$Side" "going" "Z", .fieldLink RX1 15 "GrayPointers$Side" "period" "I", .fieldLink RX1 19 "GrayPointers$Side" "phase" "I", .static yX4_remainder, .initialized RX4, .code yX4_remainder cX4_remainder 2 (some .int)] ++ wsX10)
def wsX1_tick : List Cond := .code yX1_tick cX1_tick 4 none :: ([.fieldLink RX1 26 "GrayPointers$Side" "ticks" "I", .fieldLink RX1 29 "GrayPointers$Side" "torn" "I", .fieldLink RX1 32 "GrayPointers$Side" "first" "I", .fieldLink RX1 35 "GrayPointers$Side" "second" "I"] ++ wsX10)
def wsX1_clearPointers : List Cond := .code yX1_clearPointers cX1_clearPointers 1 none :: ([.fieldLink RX1 38 "GrayPointers$Side" "pointer" "I", .fieldLink RX1 32 "GrayPointers$Side" "first" "I", .fieldLink RX1 35 "GrayPointers$Side" "second" "I"] ++ wsX10)
def wsX2_sideOf : List Cond := .code yX2_sideOf cX2_sideOf 2 (some (.object "GrayPointers$Side")) :: ([.fieldLink RX2 30 "GrayPointers$State" "writer" "LGrayPointers$Side;", .fieldLink RX2 34 "GrayPointers$State" "reader" "LGrayPointers$Side;"] ++ wsX20)
def wsX2_depth : List Cond := .code yX2_depth cX2_depth 1 (some .int) :: ([.fieldLink RX2 9 "GrayPointers$State" "k" "I"] ++ wsX20)
def wsX2_placeOf : List Cond := .code yX2_placeOf cX2_placeOf 2 (some .int) :: ([.methodLink RX2 54 yX2_depth, .instanceMethod yX2_depth, .selects RX2 yX2_depth yX2_depth, .initialized RX2, .code yX2_depth cX2_depth 1 (some .int), .fieldLink RX2 9 "GrayPointers$State" "k" "I"] ++ wsX20)
def wsX2_around : List Cond := .code yX2_around cX2_around 2 (some .int) :: ([.methodLink RX2 54 yX2_depth, .instanceMethod yX2_depth, .selects RX2 yX2_depth yX2_depth, .initialized RX2, .code yX2_depth cX2_depth 1 (some .int), .fieldLink RX2 9 "GrayPointers$State" "k" "I"] ++ wsX20)
def wsX2_codeOf : List Cond := .code yX2_codeOf cX2_codeOf 2 (some .int) :: ([.fieldLink RX2 15 "GrayPointers$State" "gray" "Z"] ++ wsX20)
def wsX2_pointerOf : List Cond := .code yX2_pointerOf cX2_pointerOf 4 (some .int) :: ([.fieldLink RX2 15 "GrayPointers$State" "gray" "Z"] ++ wsX20)
def wsX2_fillToWriter : List Cond := .code yX2_fillToWriter cX2_fillToWriter 1 (some .int) :: ([.fieldLink RX2 30 "GrayPointers$State" "writer" "LGrayPointers$Side;", .methodLink RX2 64 yX2_pointerOf, .instanceMethod yX2_pointerOf, .selects RX2 yX2_pointerOf yX2_pointerOf, .initialized RX2, .code yX2_pointerOf cX2_pointerOf 4 (some .int), .fieldLink RX2 15 "GrayPointers$State" "gray" "Z", .methodLink RX2 68 yX2_around, .instanceMethod yX2_around, .selects RX2 yX2_around yX2_around, .code yX2_around cX2_around 2 (some .int), .methodLink RX2 54 yX2_depth, .instanceMethod yX2_depth, .selects RX2 yX2_depth yX2_depth, .code yX2_depth cX2_depth 1 (some .int), .fieldLink RX2 9 "GrayPointers$State" "k" "I"] ++ wsX20 ++ wsX10)
def wsX2_fillToReader : List Cond := .code yX2_fillToReader cX2_fillToReader 1 (some .int) :: ([.fieldLink RX2 34 "GrayPointers$State" "reader" "LGrayPointers$Side;", .methodLink RX2 64 yX2_pointerOf, .instanceMethod yX2_pointerOf, .selects RX2 yX2_pointerOf yX2_pointerOf, .initialized RX2, .code yX2_pointerOf cX2_pointerOf 4 (some .int), .fieldLink RX2 15 "GrayPointers$State" "gray" "Z", .methodLink RX2 68 yX2_around, .instanceMethod yX2_around, .selects RX2 yX2_around yX2_around, .code yX2_around cX2_around 2 (some .int), .methodLink RX2 54 yX2_depth, .instanceMethod yX2_depth, .selects RX2 yX2_depth yX2_depth, .code yX2_depth cX2_depth 1 (some .int), .fieldLink RX2 9 "GrayPointers$State" "k" "I"] ++ wsX20 ++ wsX10)
def wsX2_seemsFull : List Cond := .code yX2_seemsFull cX2_seemsFull 1 (some .boolean) :: ([.fieldLink RX2 30 "GrayPointers$State" "writer" "LGrayPointers$Side;", .methodLink RX2 64 yX2_pointerOf, .instanceMethod yX2_pointerOf, .selects RX2 yX2_pointerOf yX2_pointerOf, .initialized RX2, .code yX2_pointerOf cX2_pointerOf 4 (some .int), .fieldLink RX2 15 "GrayPointers$State" "gray" "Z", .methodLink RX2 54 yX2_depth, .instanceMethod yX2_depth, .selects RX2 yX2_depth yX2_depth, .code yX2_depth cX2_depth 1 (some .int), .fieldLink RX2 9 "GrayPointers$State" "k" "I", .methodLink RX2 68 yX2_around, .instanceMethod yX2_around, .selects RX2 yX2_around yX2_around, .code yX2_around cX2_around 2 (some .int)] ++ wsX20 ++ wsX10)
def wsX2_seemsEmpty : List Cond := .code yX2_seemsEmpty cX2_seemsEmpty 1 (some .boolean) :: ([.fieldLink RX2 34 "GrayPointers$State" "reader" "LGrayPointers$Side;", .methodLink RX2 64 yX2_pointerOf, .instanceMethod yX2_pointerOf, .selects RX2 yX2_pointerOf yX2_pointerOf, .initialized RX2, .code yX2_pointerOf cX2_pointerOf 4 (some .int), .fieldLink RX2 15 "GrayPointers$State" "gray" "Z"] ++ wsX20 ++ wsX10)
def wsX2_seemsNearFull : List Cond := .code yX2_seemsNearFull cX2_seemsNearFull 1 (some .boolean) :: ([.fieldLink RX2 19 "GrayPointers$State" "nearFull" "I", .methodLink RX2 71 yX2_fillToWriter, .instanceMethod yX2_fillToWriter, .selects RX2 yX2_fillToWriter yX2_fillToWriter, .initialized RX2, .code yX2_fillToWriter cX2_fillToWriter 1 (some .int), .fieldLink RX2 30 "GrayPointers$State" "writer" "LGrayPointers$Side;", .methodLink RX2 64 yX2_pointerOf, .instanceMethod yX2_pointerOf, .selects RX2 yX2_pointerOf yX2_pointerOf, .code yX2_pointerOf cX2_pointerOf 4 (some .int), .fieldLink RX2 15 "GrayPointers$State" "gray" "Z", .methodLink RX2 68 yX2_around, .instanceMethod yX2_around, .selects RX2 yX2_around yX2_around, .code yX2_around cX2_around 2 (some .int), .methodLink RX2 54 yX2_depth, .instanceMethod yX2_depth, .selects RX2 yX2_depth yX2_depth, .code yX2_depth cX2_depth 1 (some .int), .fieldLink RX2 9 "GrayPointers$State" "k" "I"] ++ wsX20 ++ wsX10)
def wsX2_seemsNearEmpty : List Cond := .code yX2_seemsNearEmpty cX2_seemsNearEmpty 1 (some .boolean) :: ([.fieldLink RX2 22 "GrayPointers$State" "nearEmpty" "I", .methodLink RX2 74 yX2_fillToReader, .instanceMethod yX2_fillToReader, .selects RX2 yX2_fillToReader yX2_fillToReader, .initialized RX2, .code yX2_fillToReader cX2_fillToReader 1 (some .int), .fieldLink RX2 34 "GrayPointers$State" "reader" "LGrayPointers$Side;", .methodLink RX2 64 yX2_pointerOf, .instanceMethod yX2_pointerOf, .selects RX2 yX2_pointerOf yX2_pointerOf, .code yX2_pointerOf cX2_pointerOf 4 (some .int), .fieldLink RX2 15 "GrayPointers$State" "gray" "Z", .methodLink RX2 68 yX2_around, .instanceMethod yX2_around, .selects RX2 yX2_around yX2_around, .code yX2_around cX2_around 2 (some .int), .methodLink RX2 54 yX2_depth, .instanceMethod yX2_depth, .selects RX2 yX2_depth yX2_depth, .code yX2_depth cX2_depth 1 (some .int), .fieldLink RX2 9 "GrayPointers$State" "k" "I"] ++ wsX20 ++ wsX10)
def wsX2_emptyRing : List Cond := .code yX2_emptyRing cX2_emptyRing 3 none :: ([.fieldLink RX2 9 "GrayPointers$State" "k" "I", .fieldLink RX2 15 "GrayPointers$State" "gray" "Z", .fieldLink RX2 30 "GrayPointers$State" "writer" "LGrayPointers$Side;", .fieldLink RX2 34 "GrayPointers$State" "reader" "LGrayPointers$Side;", .fieldLink RX2 37 "GrayPointers$State" "words" "[I", .fieldLink RX2 41 "GrayPointers$State" "numbers" "[I", .fieldLink RX2 80 "GrayPointers$State" "putCount" "I", .fieldLink RX2 83 "GrayPointers$State" "takenCount" "I", .fieldLink RX2 86 "GrayPointers$State" "rightCount" "I", .methodLink RX2 77 yX1_clearPointers, .instanceMethod yX1_clearPointers, .selects RX1 yX1_clearPointers yX1_clearPointers, .initialized RX1, .code yX1_clearPointers cX1_clearPointers 1 none, .fieldLink RX1 38 "GrayPointers$Side" "pointer" "I", .fieldLink RX1 32 "GrayPointers$Side" "first" "I", .fieldLink RX1 35 "GrayPointers$Side" "second" "I", .static yX4_fillRow, .initialized RX4, .code yX4_fillRow cX4_fillRow 3 none] ++ wsX20 ++ wsX10)
def wsX4_setAt : List Cond := .code yX4_setAt cX4_setAt 3 none :: ([])
def wsX2_letWait : List Cond := .code yX2_letWait cX2_letWait 4 (some .boolean) :: ([.fieldLink RX2 89 "GrayPointers$State" "waitCount" "I", .fieldLink RX2 44 "GrayPointers$State" "waits" "[I", .static yX4_setAt, .initialized RX4, .code yX4_setAt cX4_setAt 3 none] ++ wsX20)
def wsX2_hasTimeFor : List Cond := .code yX2_hasTimeFor cX2_hasTimeFor 2 (some .boolean) :: ([.fieldLink RX2 96 "GrayPointers$State" "time" "I", .constant RX2 99 (1000000)] ++ wsX20)
def wsX4_valueAt : List Cond := .code yX4_valueAt cX4_valueAt 2 (some .int) :: ([])
def wsX2_takeWord_r1 : List Cond := [Cond.fieldLink RX2 34 "GrayPointers$State" "reader" "LGrayPointers$Side;", Cond.fieldLink RX2 37 "GrayPointers$State" "words" "[I", Cond.fieldLink RX2 41 "GrayPointers$State" "numbers" "[I", Cond.fieldLink RX2 83 "GrayPointers$State" "takenCount" "I", Cond.fieldLink RX2 47 "GrayPointers$State" "came" "[I", Cond.fieldLink RX2 86 "GrayPointers$State" "rightCount" "I", Cond.methodLink RX2 152 yX2_placeOf, Cond.instanceMethod yX2_placeOf, Cond.selects RX2 yX2_placeOf yX2_placeOf, Cond.initialized RX2, Cond.code yX2_placeOf cX2_placeOf 2 (some .int), Cond.methodLink RX2 54 yX2_depth, Cond.instanceMethod yX2_depth, Cond.selects RX2 yX2_depth yX2_depth, Cond.code yX2_depth cX2_depth 1 (some .int), Cond.fieldLink RX2 9 "GrayPointers$State" "k" "I", Cond.static yX4_valueAt, Cond.initialized RX4, Cond.code yX4_valueAt cX4_valueAt 2 (some .int), Cond.static yX4_setAt, Cond.code yX4_setAt cX4_setAt 3 none, Cond.methodLink RX2 68 yX2_around, Cond.instanceMethod yX2_around, Cond.selects RX2 yX2_around yX2_around]
def wsX2_takeWord_r2 : List Cond := [Cond.code yX2_around cX2_around 2 (some .int)]
def wsX2_takeWord : List Cond := .code yX2_takeWord cX2_takeWord 4 none :: ((wsX2_takeWord_r1 ++ wsX2_takeWord_r2) ++ wsX20 ++ wsX10)
def wsX2_putWord_r1 : List Cond := [Cond.fieldLink RX2 30 "GrayPointers$State" "writer" "LGrayPointers$Side;", Cond.fieldLink RX2 37 "GrayPointers$State" "words" "[I", Cond.fieldLink RX2 44 "GrayPointers$State" "waits" "[I", Cond.fieldLink RX2 41 "GrayPointers$State" "numbers" "[I", Cond.fieldLink RX2 80 "GrayPointers$State" "putCount" "I", Cond.fieldLink RX2 89 "GrayPointers$State" "waitCount" "I", Cond.methodLink RX2 152 yX2_placeOf, Cond.instanceMethod yX2_placeOf, Cond.selects RX2 yX2_placeOf yX2_placeOf, Cond.initialized RX2, Cond.code yX2_placeOf cX2_placeOf 2 (some .int), Cond.methodLink RX2 54 yX2_depth, Cond.instanceMethod yX2_depth, Cond.selects RX2 yX2_depth yX2_depth, Cond.code yX2_depth cX2_depth 1 (some .int), Cond.fieldLink RX2 9 "GrayPointers$State" "k" "I", Cond.static yX4_valueAt, Cond.initialized RX4, Cond.code yX4_valueAt cX4_valueAt 2 (some .int), Cond.static yX4_setAt, Cond.code yX4_setAt cX4_setAt 3 none, Cond.methodLink RX2 68 yX2_around, Cond.instanceMethod yX2_around, Cond.selects RX2 yX2_around yX2_around]
def wsX2_putWord_r2 : List Cond := [Cond.code yX2_around cX2_around 2 (some .int)]
def wsX2_putWord : List Cond := .code yX2_putWord cX2_putWord 3 none :: ((wsX2_putWord_r1 ++ wsX2_putWord_r2) ++ wsX20 ++ wsX10)
def wsX2_step_r1 : List Cond := [Cond.fieldLink RX2 96 "GrayPointers$State" "time" "I", Cond.fieldLink RX2 30 "GrayPointers$State" "writer" "LGrayPointers$Side;", Cond.fieldLink RX2 34 "GrayPointers$State" "reader" "LGrayPointers$Side;", Cond.fieldLink RX2 89 "GrayPointers$State" "waitCount" "I", Cond.methodLink RX2 129 yX1_ticksAt, Cond.instanceMethod yX1_ticksAt, Cond.selects RX1 yX1_ticksAt yX1_ticksAt, Cond.initialized RX1, Cond.code yX1_ticksAt cX1_ticksAt 2 (some .boolean), Cond.fieldLink RX1 9 "GrayPointers$Side" "going" "Z", Cond.fieldLink RX1 19 "GrayPointers$Side" "phase" "I", Cond.fieldLink RX1 15 "GrayPointers$Side" "period" "I", Cond.static yX4_remainder, Cond.initialized RX4, Cond.code yX4_remainder cX4_remainder 2 (some .int), Cond.methodLink RX2 132 yX2_seemsFull, Cond.instanceMethod yX2_seemsFull, Cond.selects RX2 yX2_seemsFull yX2_seemsFull, Cond.initialized RX2, Cond.code yX2_seemsFull cX2_seemsFull 1 (some .boolean), Cond.methodLink RX2 64 yX2_pointerOf, Cond.instanceMethod yX2_pointerOf, Cond.selects RX2 yX2_pointerOf yX2_pointerOf, Cond.code yX2_pointerOf cX2_pointerOf 4 (some .int)]
def wsX2_step_r2 : List Cond := [Cond.fieldLink RX2 15 "GrayPointers$State" "gray" "Z", Cond.methodLink RX2 54 yX2_depth, Cond.instanceMethod yX2_depth, Cond.selects RX2 yX2_depth yX2_depth, Cond.code yX2_depth cX2_depth 1 (some .int), Cond.fieldLink RX2 9 "GrayPointers$State" "k" "I", Cond.methodLink RX2 68 yX2_around, Cond.instanceMethod yX2_around, Cond.selects RX2 yX2_around yX2_around, Cond.code yX2_around cX2_around 2 (some .int), Cond.methodLink RX2 136 yX2_seemsEmpty, Cond.instanceMethod yX2_seemsEmpty, Cond.selects RX2 yX2_seemsEmpty yX2_seemsEmpty, Cond.code yX2_seemsEmpty cX2_seemsEmpty 1 (some .boolean), Cond.methodLink RX2 139 yX2_codeOf, Cond.instanceMethod yX2_codeOf, Cond.selects RX2 yX2_codeOf yX2_codeOf, Cond.code yX2_codeOf cX2_codeOf 2 (some .int), Cond.methodLink RX2 142 yX1_tick, Cond.instanceMethod yX1_tick, Cond.selects RX1 yX1_tick yX1_tick, Cond.code yX1_tick cX1_tick 4 none, Cond.fieldLink RX1 26 "GrayPointers$Side" "ticks" "I", Cond.fieldLink RX1 29 "GrayPointers$Side" "torn" "I"]
def wsX2_step_r3 : List Cond := [Cond.fieldLink RX1 32 "GrayPointers$Side" "first" "I", Cond.fieldLink RX1 35 "GrayPointers$Side" "second" "I", Cond.methodLink RX2 146 yX2_takeWord, Cond.instanceMethod yX2_takeWord, Cond.selects RX2 yX2_takeWord yX2_takeWord, Cond.code yX2_takeWord cX2_takeWord 4 none, Cond.fieldLink RX2 37 "GrayPointers$State" "words" "[I", Cond.fieldLink RX2 41 "GrayPointers$State" "numbers" "[I", Cond.fieldLink RX2 83 "GrayPointers$State" "takenCount" "I", Cond.fieldLink RX2 47 "GrayPointers$State" "came" "[I", Cond.fieldLink RX2 86 "GrayPointers$State" "rightCount" "I", Cond.methodLink RX2 152 yX2_placeOf, Cond.instanceMethod yX2_placeOf, Cond.selects RX2 yX2_placeOf yX2_placeOf, Cond.code yX2_placeOf cX2_placeOf 2 (some .int), Cond.static yX4_valueAt, Cond.code yX4_valueAt cX4_valueAt 2 (some .int), Cond.static yX4_setAt, Cond.code yX4_setAt cX4_setAt 3 none, Cond.methodLink RX2 149 yX2_putWord, Cond.instanceMethod yX2_putWord, Cond.selects RX2 yX2_putWord yX2_putWord, Cond.code yX2_putWord cX2_putWord 3 none, Cond.fieldLink RX2 44 "GrayPointers$State" "waits" "[I"]
def wsX2_step_r4 : List Cond := [Cond.fieldLink RX2 80 "GrayPointers$State" "putCount" "I"]
def wsX2_step : List Cond := .code yX2_step cX2_step 9 none :: ((wsX2_step_r1 ++ (wsX2_step_r2 ++ (wsX2_step_r3 ++ wsX2_step_r4))) ++ wsX20 ++ wsX10)
def wsX2_letPass_r1 : List Cond := [Cond.methodLink RX2 100 yX2_step, Cond.instanceMethod yX2_step, Cond.selects RX2 yX2_step yX2_step, Cond.initialized RX2, Cond.code yX2_step cX2_step 9 none, Cond.fieldLink RX2 96 "GrayPointers$State" "time" "I", Cond.fieldLink RX2 30 "GrayPointers$State" "writer" "LGrayPointers$Side;", Cond.fieldLink RX2 34 "GrayPointers$State" "reader" "LGrayPointers$Side;", Cond.fieldLink RX2 89 "GrayPointers$State" "waitCount" "I", Cond.methodLink RX2 129 yX1_ticksAt, Cond.instanceMethod yX1_ticksAt, Cond.selects RX1 yX1_ticksAt yX1_ticksAt, Cond.initialized RX1, Cond.code yX1_ticksAt cX1_ticksAt 2 (some .boolean), Cond.fieldLink RX1 9 "GrayPointers$Side" "going" "Z", Cond.fieldLink RX1 19 "GrayPointers$Side" "phase" "I", Cond.fieldLink RX1 15 "GrayPointers$Side" "period" "I", Cond.static yX4_remainder, Cond.initialized RX4, Cond.code yX4_remainder cX4_remainder 2 (some .int), Cond.methodLink RX2 132 yX2_seemsFull, Cond.instanceMethod yX2_seemsFull, Cond.selects RX2 yX2_seemsFull yX2_seemsFull, Cond.code yX2_seemsFull cX2_seemsFull 1 (some .boolean)]
def wsX2_letPass_r2 : List Cond := [Cond.methodLink RX2 64 yX2_pointerOf, Cond.instanceMethod yX2_pointerOf, Cond.selects RX2 yX2_pointerOf yX2_pointerOf, Cond.code yX2_pointerOf cX2_pointerOf 4 (some .int), Cond.fieldLink RX2 15 "GrayPointers$State" "gray" "Z", Cond.methodLink RX2 54 yX2_depth, Cond.instanceMethod yX2_depth, Cond.selects RX2 yX2_depth yX2_depth, Cond.code yX2_depth cX2_depth 1 (some .int), Cond.fieldLink RX2 9 "GrayPointers$State" "k" "I", Cond.methodLink RX2 68 yX2_around, Cond.instanceMethod yX2_around, Cond.selects RX2 yX2_around yX2_around, Cond.code yX2_around cX2_around 2 (some .int), Cond.methodLink RX2 136 yX2_seemsEmpty, Cond.instanceMethod yX2_seemsEmpty, Cond.selects RX2 yX2_seemsEmpty yX2_seemsEmpty, Cond.code yX2_seemsEmpty cX2_seemsEmpty 1 (some .boolean), Cond.methodLink RX2 139 yX2_codeOf, Cond.instanceMethod yX2_codeOf, Cond.selects RX2 yX2_codeOf yX2_codeOf, Cond.code yX2_codeOf cX2_codeOf 2 (some .int), Cond.methodLink RX2 142 yX1_tick, Cond.instanceMethod yX1_tick]
def wsX2_letPass_r3 : List Cond := [Cond.selects RX1 yX1_tick yX1_tick, Cond.code yX1_tick cX1_tick 4 none, Cond.fieldLink RX1 26 "GrayPointers$Side" "ticks" "I", Cond.fieldLink RX1 29 "GrayPointers$Side" "torn" "I", Cond.fieldLink RX1 32 "GrayPointers$Side" "first" "I", Cond.fieldLink RX1 35 "GrayPointers$Side" "second" "I", Cond.methodLink RX2 146 yX2_takeWord, Cond.instanceMethod yX2_takeWord, Cond.selects RX2 yX2_takeWord yX2_takeWord, Cond.code yX2_takeWord cX2_takeWord 4 none, Cond.fieldLink RX2 37 "GrayPointers$State" "words" "[I", Cond.fieldLink RX2 41 "GrayPointers$State" "numbers" "[I", Cond.fieldLink RX2 83 "GrayPointers$State" "takenCount" "I", Cond.fieldLink RX2 47 "GrayPointers$State" "came" "[I", Cond.fieldLink RX2 86 "GrayPointers$State" "rightCount" "I", Cond.methodLink RX2 152 yX2_placeOf, Cond.instanceMethod yX2_placeOf, Cond.selects RX2 yX2_placeOf yX2_placeOf, Cond.code yX2_placeOf cX2_placeOf 2 (some .int), Cond.static yX4_valueAt, Cond.code yX4_valueAt cX4_valueAt 2 (some .int), Cond.static yX4_setAt, Cond.code yX4_setAt cX4_setAt 3 none, Cond.methodLink RX2 149 yX2_putWord]
def wsX2_letPass_r4 : List Cond := [Cond.instanceMethod yX2_putWord, Cond.selects RX2 yX2_putWord yX2_putWord, Cond.code yX2_putWord cX2_putWord 3 none, Cond.fieldLink RX2 44 "GrayPointers$State" "waits" "[I", Cond.fieldLink RX2 80 "GrayPointers$State" "putCount" "I"]
def wsX2_letPass : List Cond := .code yX2_letPass cX2_letPass 3 none :: ((wsX2_letPass_r1 ++ (wsX2_letPass_r2 ++ (wsX2_letPass_r3 ++ wsX2_letPass_r4))) ++ wsX20 ++ wsX10)
def wsX2_follow_r1 : List Cond := [Cond.static yX4_valueAt, Cond.initialized RX4, Cond.code yX4_valueAt cX4_valueAt 2 (some .int), Cond.methodLink RX2 118 yX2_letWait, Cond.instanceMethod yX2_letWait, Cond.selects RX2 yX2_letWait yX2_letWait, Cond.initialized RX2, Cond.code yX2_letWait cX2_letWait 4 (some .boolean), Cond.fieldLink RX2 89 "GrayPointers$State" "waitCount" "I", Cond.fieldLink RX2 44 "GrayPointers$State" "waits" "[I", Cond.static yX4_setAt, Cond.code yX4_setAt cX4_setAt 3 none, Cond.methodLink RX2 122 yX2_hasTimeFor, Cond.instanceMethod yX2_hasTimeFor, Cond.selects RX2 yX2_hasTimeFor yX2_hasTimeFor, Cond.code yX2_hasTimeFor cX2_hasTimeFor 2 (some .boolean), Cond.fieldLink RX2 96 "GrayPointers$State" "time" "I", Cond.constant RX2 99 (1000000), Cond.methodLink RX2 126 yX2_letPass, Cond.instanceMethod yX2_letPass, Cond.selects RX2 yX2_letPass yX2_letPass, Cond.code yX2_letPass cX2_letPass 3 none, Cond.methodLink RX2 100 yX2_step, Cond.instanceMethod yX2_step]
def wsX2_follow_r2 : List Cond := [Cond.selects RX2 yX2_step yX2_step, Cond.code yX2_step cX2_step 9 none, Cond.fieldLink RX2 30 "GrayPointers$State" "writer" "LGrayPointers$Side;", Cond.fieldLink RX2 34 "GrayPointers$State" "reader" "LGrayPointers$Side;", Cond.methodLink RX2 129 yX1_ticksAt, Cond.instanceMethod yX1_ticksAt, Cond.selects RX1 yX1_ticksAt yX1_ticksAt, Cond.initialized RX1, Cond.code yX1_ticksAt cX1_ticksAt 2 (some .boolean), Cond.fieldLink RX1 9 "GrayPointers$Side" "going" "Z", Cond.fieldLink RX1 19 "GrayPointers$Side" "phase" "I", Cond.fieldLink RX1 15 "GrayPointers$Side" "period" "I", Cond.static yX4_remainder, Cond.code yX4_remainder cX4_remainder 2 (some .int), Cond.methodLink RX2 132 yX2_seemsFull, Cond.instanceMethod yX2_seemsFull, Cond.selects RX2 yX2_seemsFull yX2_seemsFull, Cond.code yX2_seemsFull cX2_seemsFull 1 (some .boolean), Cond.methodLink RX2 64 yX2_pointerOf, Cond.instanceMethod yX2_pointerOf, Cond.selects RX2 yX2_pointerOf yX2_pointerOf, Cond.code yX2_pointerOf cX2_pointerOf 4 (some .int), Cond.fieldLink RX2 15 "GrayPointers$State" "gray" "Z", Cond.methodLink RX2 54 yX2_depth]
def wsX2_follow_r3 : List Cond := [Cond.instanceMethod yX2_depth, Cond.selects RX2 yX2_depth yX2_depth, Cond.code yX2_depth cX2_depth 1 (some .int), Cond.fieldLink RX2 9 "GrayPointers$State" "k" "I", Cond.methodLink RX2 68 yX2_around, Cond.instanceMethod yX2_around, Cond.selects RX2 yX2_around yX2_around, Cond.code yX2_around cX2_around 2 (some .int), Cond.methodLink RX2 136 yX2_seemsEmpty, Cond.instanceMethod yX2_seemsEmpty, Cond.selects RX2 yX2_seemsEmpty yX2_seemsEmpty, Cond.code yX2_seemsEmpty cX2_seemsEmpty 1 (some .boolean), Cond.methodLink RX2 139 yX2_codeOf, Cond.instanceMethod yX2_codeOf, Cond.selects RX2 yX2_codeOf yX2_codeOf, Cond.code yX2_codeOf cX2_codeOf 2 (some .int), Cond.methodLink RX2 142 yX1_tick, Cond.instanceMethod yX1_tick, Cond.selects RX1 yX1_tick yX1_tick, Cond.code yX1_tick cX1_tick 4 none, Cond.fieldLink RX1 26 "GrayPointers$Side" "ticks" "I", Cond.fieldLink RX1 29 "GrayPointers$Side" "torn" "I", Cond.fieldLink RX1 32 "GrayPointers$Side" "first" "I", Cond.fieldLink RX1 35 "GrayPointers$Side" "second" "I"]
def wsX2_follow_r4 : List Cond := [Cond.methodLink RX2 146 yX2_takeWord, Cond.instanceMethod yX2_takeWord, Cond.selects RX2 yX2_takeWord yX2_takeWord, Cond.code yX2_takeWord cX2_takeWord 4 none, Cond.fieldLink RX2 37 "GrayPointers$State" "words" "[I", Cond.fieldLink RX2 41 "GrayPointers$State" "numbers" "[I", Cond.fieldLink RX2 83 "GrayPointers$State" "takenCount" "I", Cond.fieldLink RX2 47 "GrayPointers$State" "came" "[I", Cond.fieldLink RX2 86 "GrayPointers$State" "rightCount" "I", Cond.methodLink RX2 152 yX2_placeOf, Cond.instanceMethod yX2_placeOf, Cond.selects RX2 yX2_placeOf yX2_placeOf, Cond.code yX2_placeOf cX2_placeOf 2 (some .int), Cond.methodLink RX2 149 yX2_putWord, Cond.instanceMethod yX2_putWord, Cond.selects RX2 yX2_putWord yX2_putWord, Cond.code yX2_putWord cX2_putWord 3 none, Cond.fieldLink RX2 80 "GrayPointers$State" "putCount" "I"]
def wsX2_follow : List Cond := .code yX2_follow cX2_follow 5 (some .boolean) :: ((wsX2_follow_r1 ++ (wsX2_follow_r2 ++ (wsX2_follow_r3 ++ wsX2_follow_r4))) ++ wsX30 ++ wsX20 ++ wsX10)
def wsX2_isDone : List Cond := .code yX2_isDone cX2_isDone 1 (some .boolean) :: ([.fieldLink RX2 89 "GrayPointers$State" "waitCount" "I", .fieldLink RX2 83 "GrayPointers$State" "takenCount" "I", .fieldLink RX2 80 "GrayPointers$State" "putCount" "I"] ++ wsX20)
def wsX2_stallsWithin_r1 : List Cond := [Cond.fieldLink RX2 30 "GrayPointers$State" "writer" "LGrayPointers$Side;", Cond.fieldLink RX2 96 "GrayPointers$State" "time" "I", Cond.fieldLink RX2 89 "GrayPointers$State" "waitCount" "I", Cond.methodLink RX2 129 yX1_ticksAt, Cond.instanceMethod yX1_ticksAt, Cond.selects RX1 yX1_ticksAt yX1_ticksAt, Cond.initialized RX1, Cond.code yX1_ticksAt cX1_ticksAt 2 (some .boolean), Cond.fieldLink RX1 9 "GrayPointers$Side" "going" "Z", Cond.fieldLink RX1 19 "GrayPointers$Side" "phase" "I", Cond.fieldLink RX1 15 "GrayPointers$Side" "period" "I", Cond.static yX4_remainder, Cond.initialized RX4, Cond.code yX4_remainder cX4_remainder 2 (some .int), Cond.methodLink RX2 132 yX2_seemsFull, Cond.instanceMethod yX2_seemsFull, Cond.selects RX2 yX2_seemsFull yX2_seemsFull, Cond.initialized RX2, Cond.code yX2_seemsFull cX2_seemsFull 1 (some .boolean), Cond.methodLink RX2 64 yX2_pointerOf, Cond.instanceMethod yX2_pointerOf, Cond.selects RX2 yX2_pointerOf yX2_pointerOf, Cond.code yX2_pointerOf cX2_pointerOf 4 (some .int), Cond.fieldLink RX2 15 "GrayPointers$State" "gray" "Z"]
def wsX2_stallsWithin_r2 : List Cond := [Cond.methodLink RX2 54 yX2_depth, Cond.instanceMethod yX2_depth, Cond.selects RX2 yX2_depth yX2_depth, Cond.code yX2_depth cX2_depth 1 (some .int), Cond.fieldLink RX2 9 "GrayPointers$State" "k" "I", Cond.methodLink RX2 68 yX2_around, Cond.instanceMethod yX2_around, Cond.selects RX2 yX2_around yX2_around, Cond.code yX2_around cX2_around 2 (some .int), Cond.methodLink RX2 100 yX2_step, Cond.instanceMethod yX2_step, Cond.selects RX2 yX2_step yX2_step, Cond.code yX2_step cX2_step 9 none, Cond.fieldLink RX2 34 "GrayPointers$State" "reader" "LGrayPointers$Side;", Cond.methodLink RX2 136 yX2_seemsEmpty, Cond.instanceMethod yX2_seemsEmpty, Cond.selects RX2 yX2_seemsEmpty yX2_seemsEmpty, Cond.code yX2_seemsEmpty cX2_seemsEmpty 1 (some .boolean), Cond.methodLink RX2 139 yX2_codeOf, Cond.instanceMethod yX2_codeOf, Cond.selects RX2 yX2_codeOf yX2_codeOf, Cond.code yX2_codeOf cX2_codeOf 2 (some .int), Cond.methodLink RX2 142 yX1_tick, Cond.instanceMethod yX1_tick]
def wsX2_stallsWithin_r3 : List Cond := [Cond.selects RX1 yX1_tick yX1_tick, Cond.code yX1_tick cX1_tick 4 none, Cond.fieldLink RX1 26 "GrayPointers$Side" "ticks" "I", Cond.fieldLink RX1 29 "GrayPointers$Side" "torn" "I", Cond.fieldLink RX1 32 "GrayPointers$Side" "first" "I", Cond.fieldLink RX1 35 "GrayPointers$Side" "second" "I", Cond.methodLink RX2 146 yX2_takeWord, Cond.instanceMethod yX2_takeWord, Cond.selects RX2 yX2_takeWord yX2_takeWord, Cond.code yX2_takeWord cX2_takeWord 4 none, Cond.fieldLink RX2 37 "GrayPointers$State" "words" "[I", Cond.fieldLink RX2 41 "GrayPointers$State" "numbers" "[I", Cond.fieldLink RX2 83 "GrayPointers$State" "takenCount" "I", Cond.fieldLink RX2 47 "GrayPointers$State" "came" "[I", Cond.fieldLink RX2 86 "GrayPointers$State" "rightCount" "I", Cond.methodLink RX2 152 yX2_placeOf, Cond.instanceMethod yX2_placeOf, Cond.selects RX2 yX2_placeOf yX2_placeOf, Cond.code yX2_placeOf cX2_placeOf 2 (some .int), Cond.static yX4_valueAt, Cond.code yX4_valueAt cX4_valueAt 2 (some .int), Cond.static yX4_setAt, Cond.code yX4_setAt cX4_setAt 3 none, Cond.methodLink RX2 149 yX2_putWord]
def wsX2_stallsWithin_r4 : List Cond := [Cond.instanceMethod yX2_putWord, Cond.selects RX2 yX2_putWord yX2_putWord, Cond.code yX2_putWord cX2_putWord 3 none, Cond.fieldLink RX2 44 "GrayPointers$State" "waits" "[I", Cond.fieldLink RX2 80 "GrayPointers$State" "putCount" "I"]
def wsX2_stallsWithin : List Cond := .code yX2_stallsWithin cX2_stallsWithin 3 (some .boolean) :: ((wsX2_stallsWithin_r1 ++ (wsX2_stallsWithin_r2 ++ (wsX2_stallsWithin_r3 ++ wsX2_stallsWithin_r4))) ++ wsX20 ++ wsX10)
def wsX2_latestCame : List Cond := .code yX2_latestCame cX2_latestCame 2 (some .int) :: ([.fieldLink RX2 83 "GrayPointers$State" "takenCount" "I", .fieldLink RX2 47 "GrayPointers$State" "came" "[I", .static yX4_valueAt, .initialized RX4, .code yX4_valueAt cX4_valueAt 2 (some .int)] ++ wsX20)
def wsX3_init : List Cond := .code yX3_init cX3_init 1 none :: ([.methodLink RX3 3 objectInit, .instanceMethod objectInit, .code objectInit ⟨#[0xb1]⟩ 1 none, .arrayClass .char, .fieldLink RX3 9 "GrayPointers$Text" "signs" "[C", .arrayClass .int, .fieldLink RX3 15 "GrayPointers$Text" "partWords" "[I", .fieldLink RX3 19 "GrayPointers$Text" "partTimes" "[I"] ++ wsX30)
def wsX3_append : List Cond := .code yX3_append cX3_append 2 (some .boolean) :: ([.fieldLink RX3 22 "GrayPointers$Text" "length" "I", .fieldLink RX3 9 "GrayPointers$Text" "signs" "[C"] ++ wsX30)
def wsX3_hasSign : List Cond := .code yX3_hasSign cX3_hasSign 1 (some .boolean) :: ([.fieldLink RX3 29 "GrayPointers$Text" "cursor" "I", .fieldLink RX3 22 "GrayPointers$Text" "length" "I", .fieldLink RX3 9 "GrayPointers$Text" "signs" "[C"] ++ wsX30)
def wsX3_readSign : List Cond := .code yX3_readSign cX3_readSign 2 (some .boolean) :: ([.fieldLink RX3 9 "GrayPointers$Text" "signs" "[C", .fieldLink RX3 29 "GrayPointers$Text" "cursor" "I", .methodLink RX3 56 yX3_hasSign, .instanceMethod yX3_hasSign, .selects RX3 yX3_hasSign yX3_hasSign, .initialized RX3, .code yX3_hasSign cX3_hasSign 1 (some .boolean), .fieldLink RX3 22 "GrayPointers$Text" "length" "I"] ++ wsX30)
def wsX3_digitAtCursor : List Cond := .code yX3_digitAtCursor cX3_digitAtCursor 1 (some .int) :: ([.fieldLink RX3 9 "GrayPointers$Text" "signs" "[C", .fieldLink RX3 29 "GrayPointers$Text" "cursor" "I", .methodLink RX3 56 yX3_hasSign, .instanceMethod yX3_hasSign, .selects RX3 yX3_hasSign yX3_hasSign, .initialized RX3, .code yX3_hasSign cX3_hasSign 1 (some .boolean), .fieldLink RX3 22 "GrayPointers$Text" "length" "I"] ++ wsX30)
def wsX3_readNumber : List Cond := .code yX3_readNumber cX3_readNumber 4 (some .int) :: ([.fieldLink RX3 29 "GrayPointers$Text" "cursor" "I", .methodLink RX3 52 yX3_digitAtCursor, .instanceMethod yX3_digitAtCursor, .selects RX3 yX3_digitAtCursor yX3_digitAtCursor, .initialized RX3, .code yX3_digitAtCursor cX3_digitAtCursor 1 (some .int), .fieldLink RX3 9 "GrayPointers$Text" "signs" "[C", .methodLink RX3 56 yX3_hasSign, .instanceMethod yX3_hasSign, .selects RX3 yX3_hasSign yX3_hasSign, .code yX3_hasSign cX3_hasSign 1 (some .boolean), .fieldLink RX3 22 "GrayPointers$Text" "length" "I"] ++ wsX30)
def wsX3_addPart : List Cond := .code yX3_addPart cX3_addPart 3 (some .boolean) :: ([.fieldLink RX3 26 "GrayPointers$Text" "parts" "I", .fieldLink RX3 15 "GrayPointers$Text" "partWords" "[I", .fieldLink RX3 19 "GrayPointers$Text" "partTimes" "[I", .static yX4_setAt, .initialized RX4, .code yX4_setAt cX4_setAt 3 none] ++ wsX30)
def wsX3_readPart_r1 : List Cond := [Cond.fieldLink RX3 29 "GrayPointers$Text" "cursor" "I", Cond.methodLink RX3 36 yX3_readSign, Cond.instanceMethod yX3_readSign, Cond.selects RX3 yX3_readSign yX3_readSign, Cond.initialized RX3, Cond.code yX3_readSign cX3_readSign 2 (some .boolean), Cond.fieldLink RX3 9 "GrayPointers$Text" "signs" "[C", Cond.methodLink RX3 56 yX3_hasSign, Cond.instanceMethod yX3_hasSign, Cond.selects RX3 yX3_hasSign yX3_hasSign, Cond.code yX3_hasSign cX3_hasSign 1 (some .boolean), Cond.fieldLink RX3 22 "GrayPointers$Text" "length" "I", Cond.methodLink RX3 44 yX3_readNumber, Cond.instanceMethod yX3_readNumber, Cond.selects RX3 yX3_readNumber yX3_readNumber, Cond.code yX3_readNumber cX3_readNumber 4 (some .int), Cond.methodLink RX3 52 yX3_digitAtCursor, Cond.instanceMethod yX3_digitAtCursor, Cond.selects RX3 yX3_digitAtCursor yX3_digitAtCursor, Cond.code yX3_digitAtCursor cX3_digitAtCursor 1 (some .int), Cond.methodLink RX3 48 yX3_addPart, Cond.instanceMethod yX3_addPart, Cond.selects RX3 yX3_addPart yX3_addPart, Cond.code yX3_addPart cX3_addPart 3 (some .boolean)]
def wsX3_readPart_r2 : List Cond := [Cond.fieldLink RX3 26 "GrayPointers$Text" "parts" "I", Cond.fieldLink RX3 15 "GrayPointers$Text" "partWords" "[I", Cond.fieldLink RX3 19 "GrayPointers$Text" "partTimes" "[I", Cond.static yX4_setAt, Cond.initialized RX4, Cond.code yX4_setAt cX4_setAt 3 none]
def wsX3_readPart : List Cond := .code yX3_readPart cX3_readPart 3 (some .boolean) :: ((wsX3_readPart_r1 ++ wsX3_readPart_r2) ++ wsX30)
def wsX3_read_r1 : List Cond := [Cond.fieldLink RX3 26 "GrayPointers$Text" "parts" "I", Cond.fieldLink RX3 29 "GrayPointers$Text" "cursor" "I", Cond.fieldLink RX3 22 "GrayPointers$Text" "length" "I", Cond.methodLink RX3 32 yX3_readPart, Cond.instanceMethod yX3_readPart, Cond.selects RX3 yX3_readPart yX3_readPart, Cond.initialized RX3, Cond.code yX3_readPart cX3_readPart 3 (some .boolean), Cond.methodLink RX3 36 yX3_readSign, Cond.instanceMethod yX3_readSign, Cond.selects RX3 yX3_readSign yX3_readSign, Cond.code yX3_readSign cX3_readSign 2 (some .boolean), Cond.fieldLink RX3 9 "GrayPointers$Text" "signs" "[C", Cond.methodLink RX3 56 yX3_hasSign, Cond.instanceMethod yX3_hasSign, Cond.selects RX3 yX3_hasSign yX3_hasSign, Cond.code yX3_hasSign cX3_hasSign 1 (some .boolean), Cond.methodLink RX3 44 yX3_readNumber, Cond.instanceMethod yX3_readNumber, Cond.selects RX3 yX3_readNumber yX3_readNumber, Cond.code yX3_readNumber cX3_readNumber 4 (some .int), Cond.methodLink RX3 52 yX3_digitAtCursor, Cond.instanceMethod yX3_digitAtCursor, Cond.selects RX3 yX3_digitAtCursor yX3_digitAtCursor]
def wsX3_read_r2 : List Cond := [Cond.code yX3_digitAtCursor cX3_digitAtCursor 1 (some .int), Cond.methodLink RX3 48 yX3_addPart, Cond.instanceMethod yX3_addPart, Cond.selects RX3 yX3_addPart yX3_addPart, Cond.code yX3_addPart cX3_addPart 3 (some .boolean), Cond.fieldLink RX3 15 "GrayPointers$Text" "partWords" "[I", Cond.fieldLink RX3 19 "GrayPointers$Text" "partTimes" "[I", Cond.static yX4_setAt, Cond.initialized RX4, Cond.code yX4_setAt cX4_setAt 3 none]
def wsX3_read : List Cond := .code yX3_read cX3_read 2 (some .int) :: ((wsX3_read_r1 ++ wsX3_read_r2) ++ wsX30)
def wsX3_wordsInParts : List Cond := .code yX3_wordsInParts cX3_wordsInParts 3 (some .int) :: ([.fieldLink RX3 26 "GrayPointers$Text" "parts" "I", .fieldLink RX3 15 "GrayPointers$Text" "partWords" "[I", .fieldLink RX3 19 "GrayPointers$Text" "partTimes" "[I", .static yX4_valueAt, .initialized RX4, .code yX4_valueAt cX4_valueAt 2 (some .int)] ++ wsX30)
def wsX4_init_r1 : List Cond := [Cond.methodLink RX4 1 objectInit, Cond.instanceMethod objectInit, Cond.code objectInit ⟨#[0xb1]⟩ 1 none, Cond.classLink RX4 7 RX2, Cond.instantiable RX2 15, Cond.initialized RX2, Cond.fieldLink RX4 10 "GrayPointers" "state" "LGrayPointers$State;", Cond.fieldLink RX4 16 "GrayPointers" "trial" "LGrayPointers$State;", Cond.fieldLink RX4 19 "GrayPointers" "snapshot" "LGrayPointers$State;", Cond.classLink RX4 22 RX0, Cond.instantiable RX0 3, Cond.initialized RX0, Cond.fieldLink RX4 25 "GrayPointers" "history" "LGrayPointers$History;", Cond.classLink RX4 29 RX3, Cond.instantiable RX3 6, Cond.initialized RX3, Cond.fieldLink RX4 32 "GrayPointers" "text" "LGrayPointers$Text;", Cond.methodLink RX4 9 yX2_init, Cond.instanceMethod yX2_init, Cond.code yX2_init cX2_init 1 none, Cond.methodLink RX2 3 objectInit, Cond.fieldLink RX2 9 "GrayPointers$State" "k" "I", Cond.fieldLink RX2 15 "GrayPointers$State" "gray" "Z", Cond.fieldLink RX2 19 "GrayPointers$State" "nearFull" "I"]
def wsX4_init_r2 : List Cond := [Cond.fieldLink RX2 22 "GrayPointers$State" "nearEmpty" "I", Cond.classLink RX2 25 RX1, Cond.instantiable RX1 8, Cond.initialized RX1, Cond.fieldLink RX2 30 "GrayPointers$State" "writer" "LGrayPointers$Side;", Cond.fieldLink RX2 34 "GrayPointers$State" "reader" "LGrayPointers$Side;", Cond.arrayClass .int, Cond.fieldLink RX2 37 "GrayPointers$State" "words" "[I", Cond.fieldLink RX2 41 "GrayPointers$State" "numbers" "[I", Cond.fieldLink RX2 44 "GrayPointers$State" "waits" "[I", Cond.fieldLink RX2 47 "GrayPointers$State" "came" "[I", Cond.methodLink RX2 27 yX1_init, Cond.instanceMethod yX1_init, Cond.code yX1_init cX1_init 2 none, Cond.methodLink RX1 3 objectInit, Cond.fieldLink RX1 9 "GrayPointers$Side" "going" "Z", Cond.fieldLink RX1 15 "GrayPointers$Side" "period" "I", Cond.static yX4_fillRow, Cond.initialized RX4, Cond.code yX4_fillRow cX4_fillRow 3 none, Cond.methodLink RX4 24 yX0_init, Cond.instanceMethod yX0_init, Cond.code yX0_init cX0_init 2 none, Cond.methodLink RX0 3 objectInit]
def wsX4_init_r3 : List Cond := [Cond.classLink RX0 9 RX2, Cond.fieldLink RX0 11 "GrayPointers$History" "states" "[LGrayPointers$State;", Cond.methodLink RX0 17 yX2_init, Cond.instanceMethod yX3_init, Cond.code yX3_init cX3_init 1 none, Cond.methodLink RX3 3 objectInit, Cond.arrayClass .char, Cond.fieldLink RX3 9 "GrayPointers$Text" "signs" "[C", Cond.fieldLink RX3 15 "GrayPointers$Text" "partWords" "[I", Cond.fieldLink RX3 19 "GrayPointers$Text" "partTimes" "[I"]
def wsX4_init : List Cond := .code yX4_init cX4_init 1 none :: ((wsX4_init_r1 ++ (wsX4_init_r2 ++ wsX4_init_r3)) ++ wsX20 ++ wsX40 ++ wsX00 ++ wsX30 ++ wsX10)
def wsX4_isWithin : List Cond := .code yX4_isWithin cX4_isWithin 3 (some .boolean) :: ([])
def wsX4_build_r1 : List Cond := [Cond.fieldLink RX4 25 "GrayPointers" "history" "LGrayPointers$History;", Cond.fieldLink RX4 10 "GrayPointers" "state" "LGrayPointers$State;", Cond.methodLink RX4 36 yX4_isWithin, Cond.static yX4_isWithin, Cond.initialized RX4, Cond.code yX4_isWithin cX4_isWithin 3 (some .boolean), Cond.methodLink RX4 40 yX0_add, Cond.instanceMethod yX0_add, Cond.selects RX0 yX0_add yX0_add, Cond.initialized RX0, Cond.code yX0_add cX0_add 3 none, Cond.fieldLink RX0 18 "GrayPointers$History" "size" "I", Cond.fieldLink RX0 22 "GrayPointers$History" "oldest" "I", Cond.static yX4_remainder, Cond.code yX4_remainder cX4_remainder 2 (some .int), Cond.methodLink RX0 29 yX0_stateAt, Cond.instanceMethod yX0_stateAt, Cond.selects RX0 yX0_stateAt yX0_stateAt, Cond.code yX0_stateAt cX0_stateAt 3 (some (.object "GrayPointers$State")), Cond.fieldLink RX0 11 "GrayPointers$History" "states" "[LGrayPointers$State;", Cond.methodLink RX0 33 yX2_copy, Cond.instanceMethod yX2_copy, Cond.selects RX2 yX2_copy yX2_copy, Cond.initialized RX2]
def wsX4_build_r2 : List Cond := [Cond.code yX2_copy cX2_copy 2 none, Cond.fieldLink RX2 9 "GrayPointers$State" "k" "I", Cond.fieldLink RX2 15 "GrayPointers$State" "gray" "Z", Cond.fieldLink RX2 96 "GrayPointers$State" "time" "I", Cond.fieldLink RX2 19 "GrayPointers$State" "nearFull" "I", Cond.fieldLink RX2 22 "GrayPointers$State" "nearEmpty" "I", Cond.fieldLink RX2 30 "GrayPointers$State" "writer" "LGrayPointers$Side;", Cond.fieldLink RX2 34 "GrayPointers$State" "reader" "LGrayPointers$Side;", Cond.fieldLink RX2 37 "GrayPointers$State" "words" "[I", Cond.fieldLink RX2 41 "GrayPointers$State" "numbers" "[I", Cond.fieldLink RX2 44 "GrayPointers$State" "waits" "[I", Cond.fieldLink RX2 89 "GrayPointers$State" "waitCount" "I", Cond.fieldLink RX2 47 "GrayPointers$State" "came" "[I", Cond.fieldLink RX2 80 "GrayPointers$State" "putCount" "I", Cond.fieldLink RX2 83 "GrayPointers$State" "takenCount" "I", Cond.fieldLink RX2 86 "GrayPointers$State" "rightCount" "I", Cond.methodLink RX2 155 yX1_copy, Cond.instanceMethod yX1_copy, Cond.selects RX1 yX1_copy yX1_copy, Cond.initialized RX1, Cond.code yX1_copy cX1_copy 2 none, Cond.fieldLink RX1 15 "GrayPointers$Side" "period" "I", Cond.fieldLink RX1 19 "GrayPointers$Side" "phase" "I", Cond.fieldLink RX1 9 "GrayPointers$Side" "going" "Z"]
def wsX4_build_r3 : List Cond := [Cond.fieldLink RX1 38 "GrayPointers$Side" "pointer" "I", Cond.fieldLink RX1 32 "GrayPointers$Side" "first" "I", Cond.fieldLink RX1 35 "GrayPointers$Side" "second" "I", Cond.fieldLink RX1 26 "GrayPointers$Side" "ticks" "I", Cond.fieldLink RX1 29 "GrayPointers$Side" "torn" "I", Cond.static yX4_copyRow, Cond.code yX4_copyRow cX4_copyRow 3 none, Cond.methodLink RX4 44 yX2_emptyRing, Cond.instanceMethod yX2_emptyRing, Cond.selects RX2 yX2_emptyRing yX2_emptyRing, Cond.code yX2_emptyRing cX2_emptyRing 3 none, Cond.methodLink RX2 77 yX1_clearPointers, Cond.instanceMethod yX1_clearPointers, Cond.selects RX1 yX1_clearPointers yX1_clearPointers, Cond.code yX1_clearPointers cX1_clearPointers 1 none, Cond.static yX4_fillRow, Cond.code yX4_fillRow cX4_fillRow 3 none, Cond.methodLink RX4 52 yX2_depth, Cond.instanceMethod yX2_depth, Cond.selects RX2 yX2_depth yX2_depth, Cond.code yX2_depth cX2_depth 1 (some .int)]
def wsX4_build : List Cond := .code yX4_build cX4_build 3 (some .int) :: ((wsX4_build_r1 ++ (wsX4_build_r2 ++ wsX4_build_r3)) ++ wsX40 ++ wsX20 ++ wsX00 ++ wsX10)
def wsX4_isSide : List Cond := .code yX4_isSide cX4_isSide 1 (some .boolean) :: ([])
def wsX4_setClock_r1 : List Cond := [Cond.fieldLink RX4 10 "GrayPointers" "state" "LGrayPointers$State;", Cond.fieldLink RX4 25 "GrayPointers" "history" "LGrayPointers$History;", Cond.methodLink RX4 56 yX4_isSide, Cond.static yX4_isSide, Cond.initialized RX4, Cond.code yX4_isSide cX4_isSide 1 (some .boolean), Cond.methodLink RX4 36 yX4_isWithin, Cond.static yX4_isWithin, Cond.code yX4_isWithin cX4_isWithin 3 (some .boolean), Cond.methodLink RX4 60 yX2_sideOf, Cond.instanceMethod yX2_sideOf, Cond.selects RX2 yX2_sideOf yX2_sideOf, Cond.initialized RX2, Cond.code yX2_sideOf cX2_sideOf 2 (some (.object "GrayPointers$Side")), Cond.fieldLink RX2 30 "GrayPointers$State" "writer" "LGrayPointers$Side;", Cond.fieldLink RX2 34 "GrayPointers$State" "reader" "LGrayPointers$Side;", Cond.methodLink RX4 40 yX0_add, Cond.instanceMethod yX0_add, Cond.selects RX0 yX0_add yX0_add, Cond.initialized RX0, Cond.code yX0_add cX0_add 3 none, Cond.fieldLink RX0 18 "GrayPointers$History" "size" "I", Cond.fieldLink RX0 22 "GrayPointers$History" "oldest" "I", Cond.static yX4_remainder]
def wsX4_setClock_r2 : List Cond := [Cond.code yX4_remainder cX4_remainder 2 (some .int), Cond.methodLink RX0 29 yX0_stateAt, Cond.instanceMethod yX0_stateAt, Cond.selects RX0 yX0_stateAt yX0_stateAt, Cond.code yX0_stateAt cX0_stateAt 3 (some (.object "GrayPointers$State")), Cond.fieldLink RX0 11 "GrayPointers$History" "states" "[LGrayPointers$State;", Cond.methodLink RX0 33 yX2_copy, Cond.instanceMethod yX2_copy, Cond.selects RX2 yX2_copy yX2_copy, Cond.code yX2_copy cX2_copy 2 none, Cond.fieldLink RX2 9 "GrayPointers$State" "k" "I", Cond.fieldLink RX2 15 "GrayPointers$State" "gray" "Z", Cond.fieldLink RX2 96 "GrayPointers$State" "time" "I", Cond.fieldLink RX2 19 "GrayPointers$State" "nearFull" "I", Cond.fieldLink RX2 22 "GrayPointers$State" "nearEmpty" "I", Cond.fieldLink RX2 37 "GrayPointers$State" "words" "[I", Cond.fieldLink RX2 41 "GrayPointers$State" "numbers" "[I", Cond.fieldLink RX2 44 "GrayPointers$State" "waits" "[I", Cond.fieldLink RX2 89 "GrayPointers$State" "waitCount" "I", Cond.fieldLink RX2 47 "GrayPointers$State" "came" "[I", Cond.fieldLink RX2 80 "GrayPointers$State" "putCount" "I", Cond.fieldLink RX2 83 "GrayPointers$State" "takenCount" "I", Cond.fieldLink RX2 86 "GrayPointers$State" "rightCount" "I", Cond.methodLink RX2 155 yX1_copy]
def wsX4_setClock_r3 : List Cond := [Cond.instanceMethod yX1_copy, Cond.selects RX1 yX1_copy yX1_copy, Cond.initialized RX1, Cond.code yX1_copy cX1_copy 2 none, Cond.fieldLink RX1 15 "GrayPointers$Side" "period" "I", Cond.fieldLink RX1 19 "GrayPointers$Side" "phase" "I", Cond.fieldLink RX1 9 "GrayPointers$Side" "going" "Z", Cond.fieldLink RX1 38 "GrayPointers$Side" "pointer" "I", Cond.fieldLink RX1 32 "GrayPointers$Side" "first" "I", Cond.fieldLink RX1 35 "GrayPointers$Side" "second" "I", Cond.fieldLink RX1 26 "GrayPointers$Side" "ticks" "I", Cond.fieldLink RX1 29 "GrayPointers$Side" "torn" "I", Cond.static yX4_copyRow, Cond.code yX4_copyRow cX4_copyRow 3 none]
def wsX4_setClock : List Cond := .code yX4_setClock cX4_setClock 6 (some .int) :: ((wsX4_setClock_r1 ++ (wsX4_setClock_r2 ++ wsX4_setClock_r3)) ++ wsX40 ++ wsX10 ++ wsX20 ++ wsX00)
def wsX4_start_r1 : List Cond := [Cond.fieldLink RX4 10 "GrayPointers" "state" "LGrayPointers$State;", Cond.fieldLink RX4 25 "GrayPointers" "history" "LGrayPointers$History;", Cond.methodLink RX4 56 yX4_isSide, Cond.static yX4_isSide, Cond.initialized RX4, Cond.code yX4_isSide cX4_isSide 1 (some .boolean), Cond.methodLink RX4 60 yX2_sideOf, Cond.instanceMethod yX2_sideOf, Cond.selects RX2 yX2_sideOf yX2_sideOf, Cond.initialized RX2, Cond.code yX2_sideOf cX2_sideOf 2 (some (.object "GrayPointers$Side")), Cond.fieldLink RX2 30 "GrayPointers$State" "writer" "LGrayPointers$Side;", Cond.fieldLink RX2 34 "GrayPointers$State" "reader" "LGrayPointers$Side;", Cond.methodLink RX4 40 yX0_add, Cond.instanceMethod yX0_add, Cond.selects RX0 yX0_add yX0_add, Cond.initialized RX0, Cond.code yX0_add cX0_add 3 none, Cond.fieldLink RX0 18 "GrayPointers$History" "size" "I", Cond.fieldLink RX0 22 "GrayPointers$History" "oldest" "I", Cond.static yX4_remainder, Cond.code yX4_remainder cX4_remainder 2 (some .int), Cond.methodLink RX0 29 yX0_stateAt, Cond.instanceMethod yX0_stateAt]
def wsX4_start_r2 : List Cond := [Cond.selects RX0 yX0_stateAt yX0_stateAt, Cond.code yX0_stateAt cX0_stateAt 3 (some (.object "GrayPointers$State")), Cond.fieldLink RX0 11 "GrayPointers$History" "states" "[LGrayPointers$State;", Cond.methodLink RX0 33 yX2_copy, Cond.instanceMethod yX2_copy, Cond.selects RX2 yX2_copy yX2_copy, Cond.code yX2_copy cX2_copy 2 none, Cond.fieldLink RX2 9 "GrayPointers$State" "k" "I", Cond.fieldLink RX2 15 "GrayPointers$State" "gray" "Z", Cond.fieldLink RX2 96 "GrayPointers$State" "time" "I", Cond.fieldLink RX2 19 "GrayPointers$State" "nearFull" "I", Cond.fieldLink RX2 22 "GrayPointers$State" "nearEmpty" "I", Cond.fieldLink RX2 37 "GrayPointers$State" "words" "[I", Cond.fieldLink RX2 41 "GrayPointers$State" "numbers" "[I", Cond.fieldLink RX2 44 "GrayPointers$State" "waits" "[I", Cond.fieldLink RX2 89 "GrayPointers$State" "waitCount" "I", Cond.fieldLink RX2 47 "GrayPointers$State" "came" "[I", Cond.fieldLink RX2 80 "GrayPointers$State" "putCount" "I", Cond.fieldLink RX2 83 "GrayPointers$State" "takenCount" "I", Cond.fieldLink RX2 86 "GrayPointers$State" "rightCount" "I", Cond.methodLink RX2 155 yX1_copy, Cond.instanceMethod yX1_copy, Cond.selects RX1 yX1_copy yX1_copy, Cond.initialized RX1]
def wsX4_start_r3 : List Cond := [Cond.code yX1_copy cX1_copy 2 none, Cond.fieldLink RX1 15 "GrayPointers$Side" "period" "I", Cond.fieldLink RX1 19 "GrayPointers$Side" "phase" "I", Cond.fieldLink RX1 9 "GrayPointers$Side" "going" "Z", Cond.fieldLink RX1 38 "GrayPointers$Side" "pointer" "I", Cond.fieldLink RX1 32 "GrayPointers$Side" "first" "I", Cond.fieldLink RX1 35 "GrayPointers$Side" "second" "I", Cond.fieldLink RX1 26 "GrayPointers$Side" "ticks" "I", Cond.fieldLink RX1 29 "GrayPointers$Side" "torn" "I", Cond.static yX4_copyRow, Cond.code yX4_copyRow cX4_copyRow 3 none]
def wsX4_start : List Cond := .code yX4_start cX4_start 4 (some .int) :: ((wsX4_start_r1 ++ (wsX4_start_r2 ++ wsX4_start_r3)) ++ wsX40 ++ wsX10 ++ wsX20 ++ wsX00)
def wsX4_set_r1 : List Cond := [Cond.fieldLink RX4 10 "GrayPointers" "state" "LGrayPointers$State;", Cond.fieldLink RX4 25 "GrayPointers" "history" "LGrayPointers$History;", Cond.methodLink RX4 36 yX4_isWithin, Cond.static yX4_isWithin, Cond.initialized RX4, Cond.code yX4_isWithin cX4_isWithin 3 (some .boolean), Cond.methodLink RX4 40 yX0_add, Cond.instanceMethod yX0_add, Cond.selects RX0 yX0_add yX0_add, Cond.initialized RX0, Cond.code yX0_add cX0_add 3 none, Cond.fieldLink RX0 18 "GrayPointers$History" "size" "I", Cond.fieldLink RX0 22 "GrayPointers$History" "oldest" "I", Cond.static yX4_remainder, Cond.code yX4_remainder cX4_remainder 2 (some .int), Cond.methodLink RX0 29 yX0_stateAt, Cond.instanceMethod yX0_stateAt, Cond.selects RX0 yX0_stateAt yX0_stateAt, Cond.code yX0_stateAt cX0_stateAt 3 (some (.object "GrayPointers$State")), Cond.fieldLink RX0 11 "GrayPointers$History" "states" "[LGrayPointers$State;", Cond.methodLink RX0 33 yX2_copy, Cond.instanceMethod yX2_copy, Cond.selects RX2 yX2_copy yX2_copy, Cond.initialized RX2]
def wsX4_set_r2 : List Cond := [Cond.code yX2_copy cX2_copy 2 none, Cond.fieldLink RX2 9 "GrayPointers$State" "k" "I", Cond.fieldLink RX2 15 "GrayPointers$State" "gray" "Z", Cond.fieldLink RX2 96 "GrayPointers$State" "time" "I", Cond.fieldLink RX2 19 "GrayPointers$State" "nearFull" "I", Cond.fieldLink RX2 22 "GrayPointers$State" "nearEmpty" "I", Cond.fieldLink RX2 30 "GrayPointers$State" "writer" "LGrayPointers$Side;", Cond.fieldLink RX2 34 "GrayPointers$State" "reader" "LGrayPointers$Side;", Cond.fieldLink RX2 37 "GrayPointers$State" "words" "[I", Cond.fieldLink RX2 41 "GrayPointers$State" "numbers" "[I", Cond.fieldLink RX2 44 "GrayPointers$State" "waits" "[I", Cond.fieldLink RX2 89 "GrayPointers$State" "waitCount" "I", Cond.fieldLink RX2 47 "GrayPointers$State" "came" "[I", Cond.fieldLink RX2 80 "GrayPointers$State" "putCount" "I", Cond.fieldLink RX2 83 "GrayPointers$State" "takenCount" "I", Cond.fieldLink RX2 86 "GrayPointers$State" "rightCount" "I", Cond.methodLink RX2 155 yX1_copy, Cond.instanceMethod yX1_copy, Cond.selects RX1 yX1_copy yX1_copy, Cond.initialized RX1, Cond.code yX1_copy cX1_copy 2 none, Cond.fieldLink RX1 15 "GrayPointers$Side" "period" "I", Cond.fieldLink RX1 19 "GrayPointers$Side" "phase" "I", Cond.fieldLink RX1 9 "GrayPointers$Side" "going" "Z"]
def wsX4_set_r3 : List Cond := [Cond.fieldLink RX1 38 "GrayPointers$Side" "pointer" "I", Cond.fieldLink RX1 32 "GrayPointers$Side" "first" "I", Cond.fieldLink RX1 35 "GrayPointers$Side" "second" "I", Cond.fieldLink RX1 26 "GrayPointers$Side" "ticks" "I", Cond.fieldLink RX1 29 "GrayPointers$Side" "torn" "I", Cond.static yX4_copyRow, Cond.code yX4_copyRow cX4_copyRow 3 none]
def wsX4_set : List Cond := .code yX4_set cX4_set 4 (some .int) :: ((wsX4_set_r1 ++ (wsX4_set_r2 ++ wsX4_set_r3)) ++ wsX40 ++ wsX20 ++ wsX00 ++ wsX10)
def wsX4_push_r1 : List Cond := [Cond.fieldLink RX4 10 "GrayPointers" "state" "LGrayPointers$State;", Cond.fieldLink RX4 25 "GrayPointers" "history" "LGrayPointers$History;", Cond.methodLink RX4 36 yX4_isWithin, Cond.static yX4_isWithin, Cond.initialized RX4, Cond.code yX4_isWithin cX4_isWithin 3 (some .boolean), Cond.methodLink RX4 40 yX0_add, Cond.instanceMethod yX0_add, Cond.selects RX0 yX0_add yX0_add, Cond.initialized RX0, Cond.code yX0_add cX0_add 3 none, Cond.fieldLink RX0 18 "GrayPointers$History" "size" "I", Cond.fieldLink RX0 22 "GrayPointers$History" "oldest" "I", Cond.static yX4_remainder, Cond.code yX4_remainder cX4_remainder 2 (some .int), Cond.methodLink RX0 29 yX0_stateAt, Cond.instanceMethod yX0_stateAt, Cond.selects RX0 yX0_stateAt yX0_stateAt, Cond.code yX0_stateAt cX0_stateAt 3 (some (.object "GrayPointers$State")), Cond.fieldLink RX0 11 "GrayPointers$History" "states" "[LGrayPointers$State;", Cond.methodLink RX0 33 yX2_copy, Cond.instanceMethod yX2_copy, Cond.selects RX2 yX2_copy yX2_copy, Cond.initialized RX2]
def wsX4_push_r2 : List Cond := [Cond.code yX2_copy cX2_copy 2 none, Cond.fieldLink RX2 9 "GrayPointers$State" "k" "I", Cond.fieldLink RX2 15 "GrayPointers$State" "gray" "Z", Cond.fieldLink RX2 96 "GrayPointers$State" "time" "I", Cond.fieldLink RX2 19 "GrayPointers$State" "nearFull" "I", Cond.fieldLink RX2 22 "GrayPointers$State" "nearEmpty" "I", Cond.fieldLink RX2 30 "GrayPointers$State" "writer" "LGrayPointers$Side;", Cond.fieldLink RX2 34 "GrayPointers$State" "reader" "LGrayPointers$Side;", Cond.fieldLink RX2 37 "GrayPointers$State" "words" "[I", Cond.fieldLink RX2 41 "GrayPointers$State" "numbers" "[I", Cond.fieldLink RX2 44 "GrayPointers$State" "waits" "[I", Cond.fieldLink RX2 89 "GrayPointers$State" "waitCount" "I", Cond.fieldLink RX2 47 "GrayPointers$State" "came" "[I", Cond.fieldLink RX2 80 "GrayPointers$State" "putCount" "I", Cond.fieldLink RX2 83 "GrayPointers$State" "takenCount" "I", Cond.fieldLink RX2 86 "GrayPointers$State" "rightCount" "I", Cond.methodLink RX2 155 yX1_copy, Cond.instanceMethod yX1_copy, Cond.selects RX1 yX1_copy yX1_copy, Cond.initialized RX1, Cond.code yX1_copy cX1_copy 2 none, Cond.fieldLink RX1 15 "GrayPointers$Side" "period" "I", Cond.fieldLink RX1 19 "GrayPointers$Side" "phase" "I", Cond.fieldLink RX1 9 "GrayPointers$Side" "going" "Z"]
def wsX4_push_r3 : List Cond := [Cond.fieldLink RX1 38 "GrayPointers$Side" "pointer" "I", Cond.fieldLink RX1 32 "GrayPointers$Side" "first" "I", Cond.fieldLink RX1 35 "GrayPointers$Side" "second" "I", Cond.fieldLink RX1 26 "GrayPointers$Side" "ticks" "I", Cond.fieldLink RX1 29 "GrayPointers$Side" "torn" "I", Cond.static yX4_copyRow, Cond.code yX4_copyRow cX4_copyRow 3 none, Cond.methodLink RX4 85 yX2_letWait, Cond.instanceMethod yX2_letWait, Cond.selects RX2 yX2_letWait yX2_letWait, Cond.code yX2_letWait cX2_letWait 4 (some .boolean), Cond.static yX4_setAt, Cond.code yX4_setAt cX4_setAt 3 none]
def wsX4_push : List Cond := .code yX4_push cX4_push 2 (some .int) :: ((wsX4_push_r1 ++ (wsX4_push_r2 ++ wsX4_push_r3)) ++ wsX40 ++ wsX20 ++ wsX00 ++ wsX10)
def wsX4_pushAll_r1 : List Cond := [Cond.fieldLink RX4 32 "GrayPointers" "text" "LGrayPointers$Text;", Cond.fieldLink RX4 16 "GrayPointers" "trial" "LGrayPointers$State;", Cond.fieldLink RX4 10 "GrayPointers" "state" "LGrayPointers$State;", Cond.fieldLink RX4 25 "GrayPointers" "history" "LGrayPointers$History;", Cond.methodLink RX4 89 yX3_read, Cond.instanceMethod yX3_read, Cond.selects RX3 yX3_read yX3_read, Cond.initialized RX3, Cond.code yX3_read cX3_read 2 (some .int), Cond.fieldLink RX3 26 "GrayPointers$Text" "parts" "I", Cond.fieldLink RX3 29 "GrayPointers$Text" "cursor" "I", Cond.fieldLink RX3 22 "GrayPointers$Text" "length" "I", Cond.methodLink RX3 32 yX3_readPart, Cond.instanceMethod yX3_readPart, Cond.selects RX3 yX3_readPart yX3_readPart, Cond.code yX3_readPart cX3_readPart 3 (some .boolean), Cond.methodLink RX3 36 yX3_readSign, Cond.instanceMethod yX3_readSign, Cond.selects RX3 yX3_readSign yX3_readSign, Cond.code yX3_readSign cX3_readSign 2 (some .boolean), Cond.fieldLink RX3 9 "GrayPointers$Text" "signs" "[C", Cond.methodLink RX3 56 yX3_hasSign, Cond.instanceMethod yX3_hasSign, Cond.selects RX3 yX3_hasSign yX3_hasSign]
def wsX4_pushAll_r2 : List Cond := [Cond.code yX3_hasSign cX3_hasSign 1 (some .boolean), Cond.methodLink RX3 44 yX3_readNumber, Cond.instanceMethod yX3_readNumber, Cond.selects RX3 yX3_readNumber yX3_readNumber, Cond.code yX3_readNumber cX3_readNumber 4 (some .int), Cond.methodLink RX3 52 yX3_digitAtCursor, Cond.instanceMethod yX3_digitAtCursor, Cond.selects RX3 yX3_digitAtCursor yX3_digitAtCursor, Cond.code yX3_digitAtCursor cX3_digitAtCursor 1 (some .int), Cond.methodLink RX3 48 yX3_addPart, Cond.instanceMethod yX3_addPart, Cond.selects RX3 yX3_addPart yX3_addPart, Cond.code yX3_addPart cX3_addPart 3 (some .boolean), Cond.fieldLink RX3 15 "GrayPointers$Text" "partWords" "[I", Cond.fieldLink RX3 19 "GrayPointers$Text" "partTimes" "[I", Cond.static yX4_setAt, Cond.initialized RX4, Cond.code yX4_setAt cX4_setAt 3 none, Cond.methodLink RX4 92 yX2_copy, Cond.instanceMethod yX2_copy, Cond.selects RX2 yX2_copy yX2_copy, Cond.initialized RX2, Cond.code yX2_copy cX2_copy 2 none, Cond.fieldLink RX2 9 "GrayPointers$State" "k" "I"]
def wsX4_pushAll_r3 : List Cond := [Cond.fieldLink RX2 15 "GrayPointers$State" "gray" "Z", Cond.fieldLink RX2 96 "GrayPointers$State" "time" "I", Cond.fieldLink RX2 19 "GrayPointers$State" "nearFull" "I", Cond.fieldLink RX2 22 "GrayPointers$State" "nearEmpty" "I", Cond.fieldLink RX2 30 "GrayPointers$State" "writer" "LGrayPointers$Side;", Cond.fieldLink RX2 34 "GrayPointers$State" "reader" "LGrayPointers$Side;", Cond.fieldLink RX2 37 "GrayPointers$State" "words" "[I", Cond.fieldLink RX2 41 "GrayPointers$State" "numbers" "[I", Cond.fieldLink RX2 44 "GrayPointers$State" "waits" "[I", Cond.fieldLink RX2 89 "GrayPointers$State" "waitCount" "I", Cond.fieldLink RX2 47 "GrayPointers$State" "came" "[I", Cond.fieldLink RX2 80 "GrayPointers$State" "putCount" "I", Cond.fieldLink RX2 83 "GrayPointers$State" "takenCount" "I", Cond.fieldLink RX2 86 "GrayPointers$State" "rightCount" "I", Cond.methodLink RX2 155 yX1_copy, Cond.instanceMethod yX1_copy, Cond.selects RX1 yX1_copy yX1_copy, Cond.initialized RX1, Cond.code yX1_copy cX1_copy 2 none, Cond.fieldLink RX1 15 "GrayPointers$Side" "period" "I", Cond.fieldLink RX1 19 "GrayPointers$Side" "phase" "I", Cond.fieldLink RX1 9 "GrayPointers$Side" "going" "Z", Cond.fieldLink RX1 38 "GrayPointers$Side" "pointer" "I", Cond.fieldLink RX1 32 "GrayPointers$Side" "first" "I"]
def wsX4_pushAll_r4 : List Cond := [Cond.fieldLink RX1 35 "GrayPointers$Side" "second" "I", Cond.fieldLink RX1 26 "GrayPointers$Side" "ticks" "I", Cond.fieldLink RX1 29 "GrayPointers$Side" "torn" "I", Cond.static yX4_copyRow, Cond.code yX4_copyRow cX4_copyRow 3 none, Cond.methodLink RX4 95 yX2_follow, Cond.instanceMethod yX2_follow, Cond.selects RX2 yX2_follow yX2_follow, Cond.code yX2_follow cX2_follow 5 (some .boolean), Cond.static yX4_valueAt, Cond.code yX4_valueAt cX4_valueAt 2 (some .int), Cond.methodLink RX2 118 yX2_letWait, Cond.instanceMethod yX2_letWait, Cond.selects RX2 yX2_letWait yX2_letWait, Cond.code yX2_letWait cX2_letWait 4 (some .boolean), Cond.methodLink RX2 122 yX2_hasTimeFor, Cond.instanceMethod yX2_hasTimeFor, Cond.selects RX2 yX2_hasTimeFor yX2_hasTimeFor, Cond.code yX2_hasTimeFor cX2_hasTimeFor 2 (some .boolean), Cond.constant RX2 99 (1000000), Cond.methodLink RX2 126 yX2_letPass, Cond.instanceMethod yX2_letPass, Cond.selects RX2 yX2_letPass yX2_letPass, Cond.code yX2_letPass cX2_letPass 3 none]
def wsX4_pushAll_r5 : List Cond := [Cond.methodLink RX2 100 yX2_step, Cond.instanceMethod yX2_step, Cond.selects RX2 yX2_step yX2_step, Cond.code yX2_step cX2_step 9 none, Cond.methodLink RX2 129 yX1_ticksAt, Cond.instanceMethod yX1_ticksAt, Cond.selects RX1 yX1_ticksAt yX1_ticksAt, Cond.code yX1_ticksAt cX1_ticksAt 2 (some .boolean), Cond.static yX4_remainder, Cond.code yX4_remainder cX4_remainder 2 (some .int), Cond.methodLink RX2 132 yX2_seemsFull, Cond.instanceMethod yX2_seemsFull, Cond.selects RX2 yX2_seemsFull yX2_seemsFull, Cond.code yX2_seemsFull cX2_seemsFull 1 (some .boolean), Cond.methodLink RX2 64 yX2_pointerOf, Cond.instanceMethod yX2_pointerOf, Cond.selects RX2 yX2_pointerOf yX2_pointerOf, Cond.code yX2_pointerOf cX2_pointerOf 4 (some .int), Cond.methodLink RX2 54 yX2_depth, Cond.instanceMethod yX2_depth, Cond.selects RX2 yX2_depth yX2_depth, Cond.code yX2_depth cX2_depth 1 (some .int), Cond.methodLink RX2 68 yX2_around, Cond.instanceMethod yX2_around]
def wsX4_pushAll_r6 : List Cond := [Cond.selects RX2 yX2_around yX2_around, Cond.code yX2_around cX2_around 2 (some .int), Cond.methodLink RX2 136 yX2_seemsEmpty, Cond.instanceMethod yX2_seemsEmpty, Cond.selects RX2 yX2_seemsEmpty yX2_seemsEmpty, Cond.code yX2_seemsEmpty cX2_seemsEmpty 1 (some .boolean), Cond.methodLink RX2 139 yX2_codeOf, Cond.instanceMethod yX2_codeOf, Cond.selects RX2 yX2_codeOf yX2_codeOf, Cond.code yX2_codeOf cX2_codeOf 2 (some .int), Cond.methodLink RX2 142 yX1_tick, Cond.instanceMethod yX1_tick, Cond.selects RX1 yX1_tick yX1_tick, Cond.code yX1_tick cX1_tick 4 none, Cond.methodLink RX2 146 yX2_takeWord, Cond.instanceMethod yX2_takeWord, Cond.selects RX2 yX2_takeWord yX2_takeWord, Cond.code yX2_takeWord cX2_takeWord 4 none, Cond.methodLink RX2 152 yX2_placeOf, Cond.instanceMethod yX2_placeOf, Cond.selects RX2 yX2_placeOf yX2_placeOf, Cond.code yX2_placeOf cX2_placeOf 2 (some .int), Cond.methodLink RX2 149 yX2_putWord, Cond.instanceMethod yX2_putWord]
def wsX4_pushAll_r7 : List Cond := [Cond.selects RX2 yX2_putWord yX2_putWord, Cond.code yX2_putWord cX2_putWord 3 none, Cond.methodLink RX4 40 yX0_add, Cond.instanceMethod yX0_add, Cond.selects RX0 yX0_add yX0_add, Cond.initialized RX0, Cond.code yX0_add cX0_add 3 none, Cond.fieldLink RX0 18 "GrayPointers$History" "size" "I", Cond.fieldLink RX0 22 "GrayPointers$History" "oldest" "I", Cond.methodLink RX0 29 yX0_stateAt, Cond.instanceMethod yX0_stateAt, Cond.selects RX0 yX0_stateAt yX0_stateAt, Cond.code yX0_stateAt cX0_stateAt 3 (some (.object "GrayPointers$State")), Cond.fieldLink RX0 11 "GrayPointers$History" "states" "[LGrayPointers$State;", Cond.methodLink RX0 33 yX2_copy, Cond.methodLink RX4 99 yX3_wordsInParts, Cond.instanceMethod yX3_wordsInParts, Cond.selects RX3 yX3_wordsInParts yX3_wordsInParts, Cond.code yX3_wordsInParts cX3_wordsInParts 3 (some .int)]
def wsX4_pushAll : List Cond := .code yX4_pushAll cX4_pushAll 2 (some .int) :: ((wsX4_pushAll_r1 ++ (wsX4_pushAll_r2 ++ (wsX4_pushAll_r3 ++ (wsX4_pushAll_r4 ++ (wsX4_pushAll_r5 ++ (wsX4_pushAll_r6 ++ wsX4_pushAll_r7)))))) ++ wsX40 ++ wsX30 ++ wsX20 ++ wsX10 ++ wsX00)
def wsX4_pass_r1 : List Cond := [Cond.fieldLink RX4 10 "GrayPointers" "state" "LGrayPointers$State;", Cond.fieldLink RX4 25 "GrayPointers" "history" "LGrayPointers$History;", Cond.methodLink RX4 36 yX4_isWithin, Cond.static yX4_isWithin, Cond.initialized RX4, Cond.code yX4_isWithin cX4_isWithin 3 (some .boolean), Cond.methodLink RX4 102 yX2_hasTimeFor, Cond.instanceMethod yX2_hasTimeFor, Cond.selects RX2 yX2_hasTimeFor yX2_hasTimeFor, Cond.initialized RX2, Cond.code yX2_hasTimeFor cX2_hasTimeFor 2 (some .boolean), Cond.fieldLink RX2 96 "GrayPointers$State" "time" "I", Cond.constant RX2 99 (1000000), Cond.methodLink RX4 40 yX0_add, Cond.instanceMethod yX0_add, Cond.selects RX0 yX0_add yX0_add, Cond.initialized RX0, Cond.code yX0_add cX0_add 3 none, Cond.fieldLink RX0 18 "GrayPointers$History" "size" "I", Cond.fieldLink RX0 22 "GrayPointers$History" "oldest" "I", Cond.static yX4_remainder, Cond.code yX4_remainder cX4_remainder 2 (some .int), Cond.methodLink RX0 29 yX0_stateAt, Cond.instanceMethod yX0_stateAt]
def wsX4_pass_r2 : List Cond := [Cond.selects RX0 yX0_stateAt yX0_stateAt, Cond.code yX0_stateAt cX0_stateAt 3 (some (.object "GrayPointers$State")), Cond.fieldLink RX0 11 "GrayPointers$History" "states" "[LGrayPointers$State;", Cond.methodLink RX0 33 yX2_copy, Cond.instanceMethod yX2_copy, Cond.selects RX2 yX2_copy yX2_copy, Cond.code yX2_copy cX2_copy 2 none, Cond.fieldLink RX2 9 "GrayPointers$State" "k" "I", Cond.fieldLink RX2 15 "GrayPointers$State" "gray" "Z", Cond.fieldLink RX2 19 "GrayPointers$State" "nearFull" "I", Cond.fieldLink RX2 22 "GrayPointers$State" "nearEmpty" "I", Cond.fieldLink RX2 30 "GrayPointers$State" "writer" "LGrayPointers$Side;", Cond.fieldLink RX2 34 "GrayPointers$State" "reader" "LGrayPointers$Side;", Cond.fieldLink RX2 37 "GrayPointers$State" "words" "[I", Cond.fieldLink RX2 41 "GrayPointers$State" "numbers" "[I", Cond.fieldLink RX2 44 "GrayPointers$State" "waits" "[I", Cond.fieldLink RX2 89 "GrayPointers$State" "waitCount" "I", Cond.fieldLink RX2 47 "GrayPointers$State" "came" "[I", Cond.fieldLink RX2 80 "GrayPointers$State" "putCount" "I", Cond.fieldLink RX2 83 "GrayPointers$State" "takenCount" "I", Cond.fieldLink RX2 86 "GrayPointers$State" "rightCount" "I", Cond.methodLink RX2 155 yX1_copy, Cond.instanceMethod yX1_copy, Cond.selects RX1 yX1_copy yX1_copy]
def wsX4_pass_r3 : List Cond := [Cond.initialized RX1, Cond.code yX1_copy cX1_copy 2 none, Cond.fieldLink RX1 15 "GrayPointers$Side" "period" "I", Cond.fieldLink RX1 19 "GrayPointers$Side" "phase" "I", Cond.fieldLink RX1 9 "GrayPointers$Side" "going" "Z", Cond.fieldLink RX1 38 "GrayPointers$Side" "pointer" "I", Cond.fieldLink RX1 32 "GrayPointers$Side" "first" "I", Cond.fieldLink RX1 35 "GrayPointers$Side" "second" "I", Cond.fieldLink RX1 26 "GrayPointers$Side" "ticks" "I", Cond.fieldLink RX1 29 "GrayPointers$Side" "torn" "I", Cond.static yX4_copyRow, Cond.code yX4_copyRow cX4_copyRow 3 none, Cond.methodLink RX4 108 yX2_letPass, Cond.instanceMethod yX2_letPass, Cond.selects RX2 yX2_letPass yX2_letPass, Cond.code yX2_letPass cX2_letPass 3 none, Cond.methodLink RX2 100 yX2_step, Cond.instanceMethod yX2_step, Cond.selects RX2 yX2_step yX2_step, Cond.code yX2_step cX2_step 9 none, Cond.methodLink RX2 129 yX1_ticksAt, Cond.instanceMethod yX1_ticksAt, Cond.selects RX1 yX1_ticksAt yX1_ticksAt, Cond.code yX1_ticksAt cX1_ticksAt 2 (some .boolean)]
def wsX4_pass_r4 : List Cond := [Cond.methodLink RX2 132 yX2_seemsFull, Cond.instanceMethod yX2_seemsFull, Cond.selects RX2 yX2_seemsFull yX2_seemsFull, Cond.code yX2_seemsFull cX2_seemsFull 1 (some .boolean), Cond.methodLink RX2 64 yX2_pointerOf, Cond.instanceMethod yX2_pointerOf, Cond.selects RX2 yX2_pointerOf yX2_pointerOf, Cond.code yX2_pointerOf cX2_pointerOf 4 (some .int), Cond.methodLink RX2 54 yX2_depth, Cond.instanceMethod yX2_depth, Cond.selects RX2 yX2_depth yX2_depth, Cond.code yX2_depth cX2_depth 1 (some .int), Cond.methodLink RX2 68 yX2_around, Cond.instanceMethod yX2_around, Cond.selects RX2 yX2_around yX2_around, Cond.code yX2_around cX2_around 2 (some .int), Cond.methodLink RX2 136 yX2_seemsEmpty, Cond.instanceMethod yX2_seemsEmpty, Cond.selects RX2 yX2_seemsEmpty yX2_seemsEmpty, Cond.code yX2_seemsEmpty cX2_seemsEmpty 1 (some .boolean), Cond.methodLink RX2 139 yX2_codeOf, Cond.instanceMethod yX2_codeOf, Cond.selects RX2 yX2_codeOf yX2_codeOf, Cond.code yX2_codeOf cX2_codeOf 2 (some .int)]
def wsX4_pass_r5 : List Cond := [Cond.methodLink RX2 142 yX1_tick, Cond.instanceMethod yX1_tick, Cond.selects RX1 yX1_tick yX1_tick, Cond.code yX1_tick cX1_tick 4 none, Cond.methodLink RX2 146 yX2_takeWord, Cond.instanceMethod yX2_takeWord, Cond.selects RX2 yX2_takeWord yX2_takeWord, Cond.code yX2_takeWord cX2_takeWord 4 none, Cond.methodLink RX2 152 yX2_placeOf, Cond.instanceMethod yX2_placeOf, Cond.selects RX2 yX2_placeOf yX2_placeOf, Cond.code yX2_placeOf cX2_placeOf 2 (some .int), Cond.static yX4_valueAt, Cond.code yX4_valueAt cX4_valueAt 2 (some .int), Cond.static yX4_setAt, Cond.code yX4_setAt cX4_setAt 3 none, Cond.methodLink RX2 149 yX2_putWord, Cond.instanceMethod yX2_putWord, Cond.selects RX2 yX2_putWord yX2_putWord, Cond.code yX2_putWord cX2_putWord 3 none]
def wsX4_pass : List Cond := .code yX4_pass cX4_pass 3 (some .int) :: ((wsX4_pass_r1 ++ (wsX4_pass_r2 ++ (wsX4_pass_r3 ++ (wsX4_pass_r4 ++ wsX4_pass_r5)))) ++ wsX40 ++ wsX20 ++ wsX00 ++ wsX10)
def wsX4_type : List Cond := .code yX4_type cX4_type 2 (some .int) :: ([.fieldLink RX4 32 "GrayPointers" "text" "LGrayPointers$Text;", .methodLink RX4 112 yX3_append, .instanceMethod yX3_append, .selects RX3 yX3_append yX3_append, .initialized RX3, .code yX3_append cX3_append 2 (some .boolean), .fieldLink RX3 22 "GrayPointers$Text" "length" "I", .fieldLink RX3 9 "GrayPointers$Text" "signs" "[C"] ++ wsX40 ++ wsX30)
def wsX4_clearText : List Cond := .code yX4_clearText cX4_clearText 2 (some .int) :: ([.fieldLink RX4 32 "GrayPointers" "text" "LGrayPointers$Text;"] ++ wsX40 ++ wsX30)
def wsX4_undo_r1 : List Cond := [Cond.fieldLink RX4 25 "GrayPointers" "history" "LGrayPointers$History;", Cond.fieldLink RX4 10 "GrayPointers" "state" "LGrayPointers$State;", Cond.methodLink RX4 119 yX0_moveLatestTo, Cond.instanceMethod yX0_moveLatestTo, Cond.selects RX0 yX0_moveLatestTo yX0_moveLatestTo, Cond.initialized RX0, Cond.code yX0_moveLatestTo cX0_moveLatestTo 3 (some .boolean), Cond.fieldLink RX0 18 "GrayPointers$History" "size" "I", Cond.methodLink RX0 29 yX0_stateAt, Cond.instanceMethod yX0_stateAt, Cond.selects RX0 yX0_stateAt yX0_stateAt, Cond.code yX0_stateAt cX0_stateAt 3 (some (.object "GrayPointers$State")), Cond.fieldLink RX0 22 "GrayPointers$History" "oldest" "I", Cond.fieldLink RX0 11 "GrayPointers$History" "states" "[LGrayPointers$State;", Cond.static yX4_remainder, Cond.initialized RX4, Cond.code yX4_remainder cX4_remainder 2 (some .int), Cond.methodLink RX0 33 yX2_copy, Cond.instanceMethod yX2_copy, Cond.selects RX2 yX2_copy yX2_copy, Cond.initialized RX2, Cond.code yX2_copy cX2_copy 2 none, Cond.fieldLink RX2 9 "GrayPointers$State" "k" "I", Cond.fieldLink RX2 15 "GrayPointers$State" "gray" "Z"]
def wsX4_undo_r2 : List Cond := [Cond.fieldLink RX2 96 "GrayPointers$State" "time" "I", Cond.fieldLink RX2 19 "GrayPointers$State" "nearFull" "I", Cond.fieldLink RX2 22 "GrayPointers$State" "nearEmpty" "I", Cond.fieldLink RX2 30 "GrayPointers$State" "writer" "LGrayPointers$Side;", Cond.fieldLink RX2 34 "GrayPointers$State" "reader" "LGrayPointers$Side;", Cond.fieldLink RX2 37 "GrayPointers$State" "words" "[I", Cond.fieldLink RX2 41 "GrayPointers$State" "numbers" "[I", Cond.fieldLink RX2 44 "GrayPointers$State" "waits" "[I", Cond.fieldLink RX2 89 "GrayPointers$State" "waitCount" "I", Cond.fieldLink RX2 47 "GrayPointers$State" "came" "[I", Cond.fieldLink RX2 80 "GrayPointers$State" "putCount" "I", Cond.fieldLink RX2 83 "GrayPointers$State" "takenCount" "I", Cond.fieldLink RX2 86 "GrayPointers$State" "rightCount" "I", Cond.methodLink RX2 155 yX1_copy, Cond.instanceMethod yX1_copy, Cond.selects RX1 yX1_copy yX1_copy, Cond.initialized RX1, Cond.code yX1_copy cX1_copy 2 none, Cond.fieldLink RX1 15 "GrayPointers$Side" "period" "I", Cond.fieldLink RX1 19 "GrayPointers$Side" "phase" "I", Cond.fieldLink RX1 9 "GrayPointers$Side" "going" "Z", Cond.fieldLink RX1 38 "GrayPointers$Side" "pointer" "I", Cond.fieldLink RX1 32 "GrayPointers$Side" "first" "I", Cond.fieldLink RX1 35 "GrayPointers$Side" "second" "I"]
def wsX4_undo_r3 : List Cond := [Cond.fieldLink RX1 26 "GrayPointers$Side" "ticks" "I", Cond.fieldLink RX1 29 "GrayPointers$Side" "torn" "I", Cond.static yX4_copyRow, Cond.code yX4_copyRow cX4_copyRow 3 none]
def wsX4_undo : List Cond := .code yX4_undo cX4_undo 1 (some .int) :: ((wsX4_undo_r1 ++ (wsX4_undo_r2 ++ wsX4_undo_r3)) ++ wsX40 ++ wsX00 ++ wsX20 ++ wsX10)
def wsX4_keep_r1 : List Cond := [Cond.fieldLink RX4 19 "GrayPointers" "snapshot" "LGrayPointers$State;", Cond.fieldLink RX4 10 "GrayPointers" "state" "LGrayPointers$State;", Cond.fieldLink RX4 126 "GrayPointers" "snapshotTaken" "Z", Cond.methodLink RX4 92 yX2_copy, Cond.instanceMethod yX2_copy, Cond.selects RX2 yX2_copy yX2_copy, Cond.initialized RX2, Cond.code yX2_copy cX2_copy 2 none, Cond.fieldLink RX2 9 "GrayPointers$State" "k" "I", Cond.fieldLink RX2 15 "GrayPointers$State" "gray" "Z", Cond.fieldLink RX2 96 "GrayPointers$State" "time" "I", Cond.fieldLink RX2 19 "GrayPointers$State" "nearFull" "I", Cond.fieldLink RX2 22 "GrayPointers$State" "nearEmpty" "I", Cond.fieldLink RX2 30 "GrayPointers$State" "writer" "LGrayPointers$Side;", Cond.fieldLink RX2 34 "GrayPointers$State" "reader" "LGrayPointers$Side;", Cond.fieldLink RX2 37 "GrayPointers$State" "words" "[I", Cond.fieldLink RX2 41 "GrayPointers$State" "numbers" "[I", Cond.fieldLink RX2 44 "GrayPointers$State" "waits" "[I", Cond.fieldLink RX2 89 "GrayPointers$State" "waitCount" "I", Cond.fieldLink RX2 47 "GrayPointers$State" "came" "[I", Cond.fieldLink RX2 80 "GrayPointers$State" "putCount" "I", Cond.fieldLink RX2 83 "GrayPointers$State" "takenCount" "I", Cond.fieldLink RX2 86 "GrayPointers$State" "rightCount" "I", Cond.methodLink RX2 155 yX1_copy]
def wsX4_keep_r2 : List Cond := [Cond.instanceMethod yX1_copy, Cond.selects RX1 yX1_copy yX1_copy, Cond.initialized RX1, Cond.code yX1_copy cX1_copy 2 none, Cond.fieldLink RX1 15 "GrayPointers$Side" "period" "I", Cond.fieldLink RX1 19 "GrayPointers$Side" "phase" "I", Cond.fieldLink RX1 9 "GrayPointers$Side" "going" "Z", Cond.fieldLink RX1 38 "GrayPointers$Side" "pointer" "I", Cond.fieldLink RX1 32 "GrayPointers$Side" "first" "I", Cond.fieldLink RX1 35 "GrayPointers$Side" "second" "I", Cond.fieldLink RX1 26 "GrayPointers$Side" "ticks" "I", Cond.fieldLink RX1 29 "GrayPointers$Side" "torn" "I", Cond.static yX4_copyRow, Cond.initialized RX4, Cond.code yX4_copyRow cX4_copyRow 3 none]
def wsX4_keep : List Cond := .code yX4_keep cX4_keep 1 (some .int) :: ((wsX4_keep_r1 ++ wsX4_keep_r2) ++ wsX40 ++ wsX20 ++ wsX10)
def wsX4_restore_r1 : List Cond := [Cond.fieldLink RX4 126 "GrayPointers" "snapshotTaken" "Z", Cond.fieldLink RX4 25 "GrayPointers" "history" "LGrayPointers$History;", Cond.fieldLink RX4 10 "GrayPointers" "state" "LGrayPointers$State;", Cond.fieldLink RX4 19 "GrayPointers" "snapshot" "LGrayPointers$State;", Cond.methodLink RX4 40 yX0_add, Cond.instanceMethod yX0_add, Cond.selects RX0 yX0_add yX0_add, Cond.initialized RX0, Cond.code yX0_add cX0_add 3 none, Cond.fieldLink RX0 18 "GrayPointers$History" "size" "I", Cond.fieldLink RX0 22 "GrayPointers$History" "oldest" "I", Cond.static yX4_remainder, Cond.initialized RX4, Cond.code yX4_remainder cX4_remainder 2 (some .int), Cond.methodLink RX0 29 yX0_stateAt, Cond.instanceMethod yX0_stateAt, Cond.selects RX0 yX0_stateAt yX0_stateAt, Cond.code yX0_stateAt cX0_stateAt 3 (some (.object "GrayPointers$State")), Cond.fieldLink RX0 11 "GrayPointers$History" "states" "[LGrayPointers$State;", Cond.methodLink RX0 33 yX2_copy, Cond.instanceMethod yX2_copy, Cond.selects RX2 yX2_copy yX2_copy, Cond.initialized RX2, Cond.code yX2_copy cX2_copy 2 none]
def wsX4_restore_r2 : List Cond := [Cond.fieldLink RX2 9 "GrayPointers$State" "k" "I", Cond.fieldLink RX2 15 "GrayPointers$State" "gray" "Z", Cond.fieldLink RX2 96 "GrayPointers$State" "time" "I", Cond.fieldLink RX2 19 "GrayPointers$State" "nearFull" "I", Cond.fieldLink RX2 22 "GrayPointers$State" "nearEmpty" "I", Cond.fieldLink RX2 30 "GrayPointers$State" "writer" "LGrayPointers$Side;", Cond.fieldLink RX2 34 "GrayPointers$State" "reader" "LGrayPointers$Side;", Cond.fieldLink RX2 37 "GrayPointers$State" "words" "[I", Cond.fieldLink RX2 41 "GrayPointers$State" "numbers" "[I", Cond.fieldLink RX2 44 "GrayPointers$State" "waits" "[I", Cond.fieldLink RX2 89 "GrayPointers$State" "waitCount" "I", Cond.fieldLink RX2 47 "GrayPointers$State" "came" "[I", Cond.fieldLink RX2 80 "GrayPointers$State" "putCount" "I", Cond.fieldLink RX2 83 "GrayPointers$State" "takenCount" "I", Cond.fieldLink RX2 86 "GrayPointers$State" "rightCount" "I", Cond.methodLink RX2 155 yX1_copy, Cond.instanceMethod yX1_copy, Cond.selects RX1 yX1_copy yX1_copy, Cond.initialized RX1, Cond.code yX1_copy cX1_copy 2 none, Cond.fieldLink RX1 15 "GrayPointers$Side" "period" "I", Cond.fieldLink RX1 19 "GrayPointers$Side" "phase" "I", Cond.fieldLink RX1 9 "GrayPointers$Side" "going" "Z", Cond.fieldLink RX1 38 "GrayPointers$Side" "pointer" "I"]
def wsX4_restore_r3 : List Cond := [Cond.fieldLink RX1 32 "GrayPointers$Side" "first" "I", Cond.fieldLink RX1 35 "GrayPointers$Side" "second" "I", Cond.fieldLink RX1 26 "GrayPointers$Side" "ticks" "I", Cond.fieldLink RX1 29 "GrayPointers$Side" "torn" "I", Cond.static yX4_copyRow, Cond.code yX4_copyRow cX4_copyRow 3 none, Cond.methodLink RX4 92 yX2_copy]
def wsX4_restore : List Cond := .code yX4_restore cX4_restore 1 (some .int) :: ((wsX4_restore_r1 ++ (wsX4_restore_r2 ++ wsX4_restore_r3)) ++ wsX40 ++ wsX20 ++ wsX00 ++ wsX10)
def wsX4_asNumber : List Cond := .code yX4_asNumber cX4_asNumber 1 (some .int) :: ([])
def wsX4_side_r1 : List Cond := [Cond.fieldLink RX4 10 "GrayPointers" "state" "LGrayPointers$State;", Cond.methodLink RX4 56 yX4_isSide, Cond.static yX4_isSide, Cond.initialized RX4, Cond.code yX4_isSide cX4_isSide 1 (some .boolean), Cond.methodLink RX4 60 yX2_sideOf, Cond.instanceMethod yX2_sideOf, Cond.selects RX2 yX2_sideOf yX2_sideOf, Cond.initialized RX2, Cond.code yX2_sideOf cX2_sideOf 2 (some (.object "GrayPointers$Side")), Cond.fieldLink RX2 30 "GrayPointers$State" "writer" "LGrayPointers$Side;", Cond.fieldLink RX2 34 "GrayPointers$State" "reader" "LGrayPointers$Side;", Cond.methodLink RX4 129 yX4_asNumber, Cond.static yX4_asNumber, Cond.code yX4_asNumber cX4_asNumber 1 (some .int), Cond.methodLink RX4 136 yX2_codeOf, Cond.instanceMethod yX2_codeOf, Cond.selects RX2 yX2_codeOf yX2_codeOf, Cond.code yX2_codeOf cX2_codeOf 2 (some .int), Cond.fieldLink RX2 15 "GrayPointers$State" "gray" "Z", Cond.methodLink RX4 146 yX2_pointerOf, Cond.instanceMethod yX2_pointerOf, Cond.selects RX2 yX2_pointerOf yX2_pointerOf, Cond.code yX2_pointerOf cX2_pointerOf 4 (some .int)]
def wsX4_side_r2 : List Cond := [Cond.methodLink RX4 149 yX2_fillToWriter, Cond.instanceMethod yX2_fillToWriter, Cond.selects RX2 yX2_fillToWriter yX2_fillToWriter, Cond.code yX2_fillToWriter cX2_fillToWriter 1 (some .int), Cond.methodLink RX2 64 yX2_pointerOf, Cond.methodLink RX2 68 yX2_around, Cond.instanceMethod yX2_around, Cond.selects RX2 yX2_around yX2_around, Cond.code yX2_around cX2_around 2 (some .int), Cond.methodLink RX2 54 yX2_depth, Cond.instanceMethod yX2_depth, Cond.selects RX2 yX2_depth yX2_depth, Cond.code yX2_depth cX2_depth 1 (some .int), Cond.fieldLink RX2 9 "GrayPointers$State" "k" "I", Cond.methodLink RX4 152 yX2_fillToReader, Cond.instanceMethod yX2_fillToReader, Cond.selects RX2 yX2_fillToReader yX2_fillToReader, Cond.code yX2_fillToReader cX2_fillToReader 1 (some .int), Cond.methodLink RX4 155 yX2_seemsFull, Cond.instanceMethod yX2_seemsFull, Cond.selects RX2 yX2_seemsFull yX2_seemsFull, Cond.code yX2_seemsFull cX2_seemsFull 1 (some .boolean), Cond.methodLink RX4 159 yX2_seemsEmpty, Cond.instanceMethod yX2_seemsEmpty]
def wsX4_side_r3 : List Cond := [Cond.selects RX2 yX2_seemsEmpty yX2_seemsEmpty, Cond.code yX2_seemsEmpty cX2_seemsEmpty 1 (some .boolean), Cond.methodLink RX4 162 yX2_seemsNearFull, Cond.instanceMethod yX2_seemsNearFull, Cond.selects RX2 yX2_seemsNearFull yX2_seemsNearFull, Cond.code yX2_seemsNearFull cX2_seemsNearFull 1 (some .boolean), Cond.fieldLink RX2 19 "GrayPointers$State" "nearFull" "I", Cond.methodLink RX2 71 yX2_fillToWriter, Cond.methodLink RX4 165 yX2_seemsNearEmpty, Cond.instanceMethod yX2_seemsNearEmpty, Cond.selects RX2 yX2_seemsNearEmpty yX2_seemsNearEmpty, Cond.code yX2_seemsNearEmpty cX2_seemsNearEmpty 1 (some .boolean), Cond.fieldLink RX2 22 "GrayPointers$State" "nearEmpty" "I", Cond.methodLink RX2 74 yX2_fillToReader, Cond.methodLink RX4 168 yX1_timesToTick, Cond.instanceMethod yX1_timesToTick, Cond.selects RX1 yX1_timesToTick yX1_timesToTick, Cond.initialized RX1, Cond.code yX1_timesToTick cX1_timesToTick 2 (some .int), Cond.fieldLink RX1 9 "GrayPointers$Side" "going" "Z", Cond.fieldLink RX1 15 "GrayPointers$Side" "period" "I", Cond.fieldLink RX1 19 "GrayPointers$Side" "phase" "I", Cond.static yX4_remainder, Cond.code yX4_remainder cX4_remainder 2 (some .int)]
def wsX4_side : List Cond := .code yX4_side cX4_side 4 (some .int) :: ((wsX4_side_r1 ++ (wsX4_side_r2 ++ wsX4_side_r3)) ++ wsX40 ++ wsX10 ++ wsX20)
def wsX4_place : List Cond := .code yX4_place cX4_place 3 (some .int) :: ([.fieldLink RX4 10 "GrayPointers" "state" "LGrayPointers$State;", .methodLink RX4 52 yX2_depth, .instanceMethod yX2_depth, .selects RX2 yX2_depth yX2_depth, .initialized RX2, .code yX2_depth cX2_depth 1 (some .int), .fieldLink RX2 9 "GrayPointers$State" "k" "I", .methodLink RX4 36 yX4_isWithin, .static yX4_isWithin, .initialized RX4, .code yX4_isWithin cX4_isWithin 3 (some .boolean), .methodLink RX4 181 yX4_valueAt, .static yX4_valueAt, .code yX4_valueAt cX4_valueAt 2 (some .int)] ++ wsX40 ++ wsX20)
def wsX4_waiting : List Cond := .code yX4_waiting cX4_waiting 2 (some .int) :: ([.fieldLink RX4 10 "GrayPointers" "state" "LGrayPointers$State;", .methodLink RX4 181 yX4_valueAt, .static yX4_valueAt, .initialized RX4, .code yX4_valueAt cX4_valueAt 2 (some .int)] ++ wsX40 ++ wsX20)
def wsX4_taken : List Cond := .code yX4_taken cX4_taken 2 (some .int) :: ([.fieldLink RX4 10 "GrayPointers" "state" "LGrayPointers$State;", .methodLink RX4 191 yX2_latestCame, .instanceMethod yX2_latestCame, .selects RX2 yX2_latestCame yX2_latestCame, .initialized RX2, .code yX2_latestCame cX2_latestCame 2 (some .int), .fieldLink RX2 83 "GrayPointers$State" "takenCount" "I", .fieldLink RX2 47 "GrayPointers$State" "came" "[I", .static yX4_valueAt, .initialized RX4, .code yX4_valueAt cX4_valueAt 2 (some .int)] ++ wsX40 ++ wsX20)
def wsX4_doneIn_r1 : List Cond := [Cond.fieldLink RX4 16 "GrayPointers" "trial" "LGrayPointers$State;", Cond.fieldLink RX4 10 "GrayPointers" "state" "LGrayPointers$State;", Cond.methodLink RX4 92 yX2_copy, Cond.instanceMethod yX2_copy, Cond.selects RX2 yX2_copy yX2_copy, Cond.initialized RX2, Cond.code yX2_copy cX2_copy 2 none, Cond.fieldLink RX2 9 "GrayPointers$State" "k" "I", Cond.fieldLink RX2 15 "GrayPointers$State" "gray" "Z", Cond.fieldLink RX2 96 "GrayPointers$State" "time" "I", Cond.fieldLink RX2 19 "GrayPointers$State" "nearFull" "I", Cond.fieldLink RX2 22 "GrayPointers$State" "nearEmpty" "I", Cond.fieldLink RX2 30 "GrayPointers$State" "writer" "LGrayPointers$Side;", Cond.fieldLink RX2 34 "GrayPointers$State" "reader" "LGrayPointers$Side;", Cond.fieldLink RX2 37 "GrayPointers$State" "words" "[I", Cond.fieldLink RX2 41 "GrayPointers$State" "numbers" "[I", Cond.fieldLink RX2 44 "GrayPointers$State" "waits" "[I", Cond.fieldLink RX2 89 "GrayPointers$State" "waitCount" "I", Cond.fieldLink RX2 47 "GrayPointers$State" "came" "[I", Cond.fieldLink RX2 80 "GrayPointers$State" "putCount" "I", Cond.fieldLink RX2 83 "GrayPointers$State" "takenCount" "I", Cond.fieldLink RX2 86 "GrayPointers$State" "rightCount" "I", Cond.methodLink RX2 155 yX1_copy, Cond.instanceMethod yX1_copy]
def wsX4_doneIn_r2 : List Cond := [Cond.selects RX1 yX1_copy yX1_copy, Cond.initialized RX1, Cond.code yX1_copy cX1_copy 2 none, Cond.fieldLink RX1 15 "GrayPointers$Side" "period" "I", Cond.fieldLink RX1 19 "GrayPointers$Side" "phase" "I", Cond.fieldLink RX1 9 "GrayPointers$Side" "going" "Z", Cond.fieldLink RX1 38 "GrayPointers$Side" "pointer" "I", Cond.fieldLink RX1 32 "GrayPointers$Side" "first" "I", Cond.fieldLink RX1 35 "GrayPointers$Side" "second" "I", Cond.fieldLink RX1 26 "GrayPointers$Side" "ticks" "I", Cond.fieldLink RX1 29 "GrayPointers$Side" "torn" "I", Cond.static yX4_copyRow, Cond.initialized RX4, Cond.code yX4_copyRow cX4_copyRow 3 none, Cond.methodLink RX4 194 yX2_isDone, Cond.instanceMethod yX2_isDone, Cond.selects RX2 yX2_isDone yX2_isDone, Cond.code yX2_isDone cX2_isDone 1 (some .boolean), Cond.methodLink RX4 197 yX2_step, Cond.instanceMethod yX2_step, Cond.selects RX2 yX2_step yX2_step, Cond.code yX2_step cX2_step 9 none, Cond.methodLink RX2 129 yX1_ticksAt, Cond.instanceMethod yX1_ticksAt]
def wsX4_doneIn_r3 : List Cond := [Cond.selects RX1 yX1_ticksAt yX1_ticksAt, Cond.code yX1_ticksAt cX1_ticksAt 2 (some .boolean), Cond.static yX4_remainder, Cond.code yX4_remainder cX4_remainder 2 (some .int), Cond.methodLink RX2 132 yX2_seemsFull, Cond.instanceMethod yX2_seemsFull, Cond.selects RX2 yX2_seemsFull yX2_seemsFull, Cond.code yX2_seemsFull cX2_seemsFull 1 (some .boolean), Cond.methodLink RX2 64 yX2_pointerOf, Cond.instanceMethod yX2_pointerOf, Cond.selects RX2 yX2_pointerOf yX2_pointerOf, Cond.code yX2_pointerOf cX2_pointerOf 4 (some .int), Cond.methodLink RX2 54 yX2_depth, Cond.instanceMethod yX2_depth, Cond.selects RX2 yX2_depth yX2_depth, Cond.code yX2_depth cX2_depth 1 (some .int), Cond.methodLink RX2 68 yX2_around, Cond.instanceMethod yX2_around, Cond.selects RX2 yX2_around yX2_around, Cond.code yX2_around cX2_around 2 (some .int), Cond.methodLink RX2 136 yX2_seemsEmpty, Cond.instanceMethod yX2_seemsEmpty, Cond.selects RX2 yX2_seemsEmpty yX2_seemsEmpty, Cond.code yX2_seemsEmpty cX2_seemsEmpty 1 (some .boolean)]
def wsX4_doneIn_r4 : List Cond := [Cond.methodLink RX2 139 yX2_codeOf, Cond.instanceMethod yX2_codeOf, Cond.selects RX2 yX2_codeOf yX2_codeOf, Cond.code yX2_codeOf cX2_codeOf 2 (some .int), Cond.methodLink RX2 142 yX1_tick, Cond.instanceMethod yX1_tick, Cond.selects RX1 yX1_tick yX1_tick, Cond.code yX1_tick cX1_tick 4 none, Cond.methodLink RX2 146 yX2_takeWord, Cond.instanceMethod yX2_takeWord, Cond.selects RX2 yX2_takeWord yX2_takeWord, Cond.code yX2_takeWord cX2_takeWord 4 none, Cond.methodLink RX2 152 yX2_placeOf, Cond.instanceMethod yX2_placeOf, Cond.selects RX2 yX2_placeOf yX2_placeOf, Cond.code yX2_placeOf cX2_placeOf 2 (some .int), Cond.static yX4_valueAt, Cond.code yX4_valueAt cX4_valueAt 2 (some .int), Cond.static yX4_setAt, Cond.code yX4_setAt cX4_setAt 3 none, Cond.methodLink RX2 149 yX2_putWord, Cond.instanceMethod yX2_putWord, Cond.selects RX2 yX2_putWord yX2_putWord, Cond.code yX2_putWord cX2_putWord 3 none]
def wsX4_doneIn : List Cond := .code yX4_doneIn cX4_doneIn 2 (some .int) :: ((wsX4_doneIn_r1 ++ (wsX4_doneIn_r2 ++ (wsX4_doneIn_r3 ++ wsX4_doneIn_r4))) ++ wsX40 ++ wsX20 ++ wsX10)
def wsX4_leastDepth_r1 : List Cond := [Cond.fieldLink RX4 16 "GrayPointers" "trial" "LGrayPointers$State;", Cond.fieldLink RX4 10 "GrayPointers" "state" "LGrayPointers$State;", Cond.methodLink RX4 36 yX4_isWithin, Cond.static yX4_isWithin, Cond.initialized RX4, Cond.code yX4_isWithin cX4_isWithin 3 (some .boolean), Cond.methodLink RX4 92 yX2_copy, Cond.instanceMethod yX2_copy, Cond.selects RX2 yX2_copy yX2_copy, Cond.initialized RX2, Cond.code yX2_copy cX2_copy 2 none, Cond.fieldLink RX2 9 "GrayPointers$State" "k" "I", Cond.fieldLink RX2 15 "GrayPointers$State" "gray" "Z", Cond.fieldLink RX2 96 "GrayPointers$State" "time" "I", Cond.fieldLink RX2 19 "GrayPointers$State" "nearFull" "I", Cond.fieldLink RX2 22 "GrayPointers$State" "nearEmpty" "I", Cond.fieldLink RX2 30 "GrayPointers$State" "writer" "LGrayPointers$Side;", Cond.fieldLink RX2 34 "GrayPointers$State" "reader" "LGrayPointers$Side;", Cond.fieldLink RX2 37 "GrayPointers$State" "words" "[I", Cond.fieldLink RX2 41 "GrayPointers$State" "numbers" "[I", Cond.fieldLink RX2 44 "GrayPointers$State" "waits" "[I", Cond.fieldLink RX2 89 "GrayPointers$State" "waitCount" "I", Cond.fieldLink RX2 47 "GrayPointers$State" "came" "[I", Cond.fieldLink RX2 80 "GrayPointers$State" "putCount" "I"]
def wsX4_leastDepth_r2 : List Cond := [Cond.fieldLink RX2 83 "GrayPointers$State" "takenCount" "I", Cond.fieldLink RX2 86 "GrayPointers$State" "rightCount" "I", Cond.methodLink RX2 155 yX1_copy, Cond.instanceMethod yX1_copy, Cond.selects RX1 yX1_copy yX1_copy, Cond.initialized RX1, Cond.code yX1_copy cX1_copy 2 none, Cond.fieldLink RX1 15 "GrayPointers$Side" "period" "I", Cond.fieldLink RX1 19 "GrayPointers$Side" "phase" "I", Cond.fieldLink RX1 9 "GrayPointers$Side" "going" "Z", Cond.fieldLink RX1 38 "GrayPointers$Side" "pointer" "I", Cond.fieldLink RX1 32 "GrayPointers$Side" "first" "I", Cond.fieldLink RX1 35 "GrayPointers$Side" "second" "I", Cond.fieldLink RX1 26 "GrayPointers$Side" "ticks" "I", Cond.fieldLink RX1 29 "GrayPointers$Side" "torn" "I", Cond.static yX4_copyRow, Cond.code yX4_copyRow cX4_copyRow 3 none, Cond.methodLink RX4 44 yX2_emptyRing, Cond.instanceMethod yX2_emptyRing, Cond.selects RX2 yX2_emptyRing yX2_emptyRing, Cond.code yX2_emptyRing cX2_emptyRing 3 none, Cond.methodLink RX2 77 yX1_clearPointers, Cond.instanceMethod yX1_clearPointers, Cond.selects RX1 yX1_clearPointers yX1_clearPointers]
def wsX4_leastDepth_r3 : List Cond := [Cond.code yX1_clearPointers cX1_clearPointers 1 none, Cond.static yX4_fillRow, Cond.code yX4_fillRow cX4_fillRow 3 none, Cond.methodLink RX4 203 yX2_stallsWithin, Cond.instanceMethod yX2_stallsWithin, Cond.selects RX2 yX2_stallsWithin yX2_stallsWithin, Cond.code yX2_stallsWithin cX2_stallsWithin 3 (some .boolean), Cond.methodLink RX2 129 yX1_ticksAt, Cond.instanceMethod yX1_ticksAt, Cond.selects RX1 yX1_ticksAt yX1_ticksAt, Cond.code yX1_ticksAt cX1_ticksAt 2 (some .boolean), Cond.static yX4_remainder, Cond.code yX4_remainder cX4_remainder 2 (some .int), Cond.methodLink RX2 132 yX2_seemsFull, Cond.instanceMethod yX2_seemsFull, Cond.selects RX2 yX2_seemsFull yX2_seemsFull, Cond.code yX2_seemsFull cX2_seemsFull 1 (some .boolean), Cond.methodLink RX2 64 yX2_pointerOf, Cond.instanceMethod yX2_pointerOf, Cond.selects RX2 yX2_pointerOf yX2_pointerOf, Cond.code yX2_pointerOf cX2_pointerOf 4 (some .int), Cond.methodLink RX2 54 yX2_depth, Cond.instanceMethod yX2_depth, Cond.selects RX2 yX2_depth yX2_depth]
def wsX4_leastDepth_r4 : List Cond := [Cond.code yX2_depth cX2_depth 1 (some .int), Cond.methodLink RX2 68 yX2_around, Cond.instanceMethod yX2_around, Cond.selects RX2 yX2_around yX2_around, Cond.code yX2_around cX2_around 2 (some .int), Cond.methodLink RX2 100 yX2_step, Cond.instanceMethod yX2_step, Cond.selects RX2 yX2_step yX2_step, Cond.code yX2_step cX2_step 9 none, Cond.methodLink RX2 136 yX2_seemsEmpty, Cond.instanceMethod yX2_seemsEmpty, Cond.selects RX2 yX2_seemsEmpty yX2_seemsEmpty, Cond.code yX2_seemsEmpty cX2_seemsEmpty 1 (some .boolean), Cond.methodLink RX2 139 yX2_codeOf, Cond.instanceMethod yX2_codeOf, Cond.selects RX2 yX2_codeOf yX2_codeOf, Cond.code yX2_codeOf cX2_codeOf 2 (some .int), Cond.methodLink RX2 142 yX1_tick, Cond.instanceMethod yX1_tick, Cond.selects RX1 yX1_tick yX1_tick, Cond.code yX1_tick cX1_tick 4 none, Cond.methodLink RX2 146 yX2_takeWord, Cond.instanceMethod yX2_takeWord, Cond.selects RX2 yX2_takeWord yX2_takeWord]
def wsX4_leastDepth_r5 : List Cond := [Cond.code yX2_takeWord cX2_takeWord 4 none, Cond.methodLink RX2 152 yX2_placeOf, Cond.instanceMethod yX2_placeOf, Cond.selects RX2 yX2_placeOf yX2_placeOf, Cond.code yX2_placeOf cX2_placeOf 2 (some .int), Cond.static yX4_valueAt, Cond.code yX4_valueAt cX4_valueAt 2 (some .int), Cond.static yX4_setAt, Cond.code yX4_setAt cX4_setAt 3 none, Cond.methodLink RX2 149 yX2_putWord, Cond.instanceMethod yX2_putWord, Cond.selects RX2 yX2_putWord yX2_putWord, Cond.code yX2_putWord cX2_putWord 3 none]
def wsX4_leastDepth : List Cond := .code yX4_leastDepth cX4_leastDepth 3 (some .int) :: ((wsX4_leastDepth_r1 ++ (wsX4_leastDepth_r2 ++ (wsX4_leastDepth_r3 ++ (wsX4_leastDepth_r4 ++ wsX4_leastDepth_r5)))) ++ wsX40 ++ wsX20 ++ wsX10)
def wsX4_count : List Cond := .code yX4_count cX4_count 2 (some .int) :: ([.fieldLink RX4 10 "GrayPointers" "state" "LGrayPointers$State;", .fieldLink RX4 25 "GrayPointers" "history" "LGrayPointers$History;", .fieldLink RX4 32 "GrayPointers" "text" "LGrayPointers$Text;", .methodLink RX4 52 yX2_depth, .instanceMethod yX2_depth, .selects RX2 yX2_depth yX2_depth, .initialized RX2, .code yX2_depth cX2_depth 1 (some .int), .fieldLink RX2 9 "GrayPointers$State" "k" "I", .methodLink RX4 129 yX4_asNumber, .static yX4_asNumber, .initialized RX4, .code yX4_asNumber cX4_asNumber 1 (some .int), .methodLink RX4 216 yX2_around, .instanceMethod yX2_around, .selects RX2 yX2_around yX2_around, .code yX2_around cX2_around 2 (some .int), .methodLink RX2 54 yX2_depth] ++ wsX40 ++ wsX20 ++ wsX10 ++ wsX00 ++ wsX30)
def wsX5_to : List Cond := .code yX5_to cX5_to 4 none :: ([.fieldLink RX5 7 "GrayPointersModel" "all" "[I"] ++ wsX50)
def wsX5_builds : List Cond := .code yX5_builds cX5_builds 5 none :: ([.fieldLink RX5 7 "GrayPointersModel" "all" "[I", .methodLink RX5 68 yX5_to, .instanceMethod yX5_to, .selects RX5 yX5_to yX5_to, .initialized RX5, .code yX5_to cX5_to 4 none] ++ wsX50)
def wsX5_init : List Cond := .code yX5_init cX5_init 1 none :: ([.methodLink RX5 1 objectInit, .instanceMethod objectInit, .code objectInit ⟨#[0xb1]⟩ 1 none, .arrayClass .int, .fieldLink RX5 7 "GrayPointersModel" "all" "[I", .fieldLink RX5 13 "GrayPointersModel" "kept" "[I", .fieldLink RX5 16 "GrayPointersModel" "tried" "[I", .fieldLink RX5 19 "GrayPointersModel" "history" "[I", .fieldLink RX5 22 "GrayPointersModel" "snapshot" "[I", .fieldLink RX5 25 "GrayPointersModel" "text" "[I", .methodLink RX5 28 yX5_builds, .instanceMethod yX5_builds, .selects RX5 yX5_builds yX5_builds, .initialized RX5, .code yX5_builds cX5_builds 5 none, .methodLink RX5 68 yX5_to, .instanceMethod yX5_to, .selects RX5 yX5_to yX5_to, .code yX5_to cX5_to 4 none] ++ wsX50)
def wsX5_in : List Cond := .code yX5_in cX5_in 6 (some .boolean) :: ([])
def wsX5_copy : List Cond := .code yX5_copy cX5_copy 3 none :: ([])
def wsX5_remember : List Cond := .code yX5_remember cX5_remember 1 none :: ([.fieldLink RX5 7 "GrayPointersModel" "all" "[I", .fieldLink RX5 13 "GrayPointersModel" "kept" "[I", .methodLink RX5 32 yX5_copy, .static yX5_copy, .initialized RX5, .code yX5_copy cX5_copy 3 none] ++ wsX50)
def wsX5_acted : List Cond := .code yX5_acted cX5_acted 3 (some .int) :: ([.fieldLink RX5 36 "GrayPointersModel" "historyLong" "I", .fieldLink RX5 19 "GrayPointersModel" "history" "[I", .fieldLink RX5 13 "GrayPointersModel" "kept" "[I"] ++ wsX50)
def wsX5_isSide : List Cond := .code yX5_isSide cX5_isSide 1 (some .boolean) :: ([])
def wsX5_of : List Cond := .code yX5_of cX5_of 3 (some .int) :: ([.fieldLink RX5 7 "GrayPointersModel" "all" "[I"] ++ wsX50)
def wsX5_depth : List Cond := .code yX5_depth cX5_depth 1 (some .int) :: ([.fieldLink RX5 7 "GrayPointersModel" "all" "[I"] ++ wsX50)
def wsX5_codeOf : List Cond := .code yX5_codeOf cX5_codeOf 2 (some .int) :: ([.fieldLink RX5 7 "GrayPointersModel" "all" "[I"] ++ wsX50)
def wsX5_pointerOf : List Cond := .code yX5_pointerOf cX5_pointerOf 5 (some .int) :: ([.fieldLink RX5 7 "GrayPointersModel" "all" "[I"] ++ wsX50)
def wsX5_around : List Cond := .code yX5_around cX5_around 2 (some .int) :: ([.methodLink RX5 40 yX5_depth, .instanceMethod yX5_depth, .selects RX5 yX5_depth yX5_depth, .initialized RX5, .code yX5_depth cX5_depth 1 (some .int), .fieldLink RX5 7 "GrayPointersModel" "all" "[I"] ++ wsX50)
def wsX5_seen : List Cond := .code yX5_seen cX5_seen 2 (some .int) :: ([.methodLink RX5 44 yX5_of, .instanceMethod yX5_of, .selects RX5 yX5_of yX5_of, .initialized RX5, .code yX5_of cX5_of 3 (some .int), .fieldLink RX5 7 "GrayPointersModel" "all" "[I", .methodLink RX5 48 yX5_pointerOf, .instanceMethod yX5_pointerOf, .selects RX5 yX5_pointerOf yX5_pointerOf, .code yX5_pointerOf cX5_pointerOf 5 (some .int)] ++ wsX50)
def wsX5_fillSeen : List Cond := .code yX5_fillSeen cX5_fillSeen 2 (some .int) :: ([.methodLink RX5 44 yX5_of, .instanceMethod yX5_of, .selects RX5 yX5_of yX5_of, .initialized RX5, .code yX5_of cX5_of 3 (some .int), .fieldLink RX5 7 "GrayPointersModel" "all" "[I", .methodLink RX5 52 yX5_seen, .instanceMethod yX5_seen, .selects RX5 yX5_seen yX5_seen, .code yX5_seen cX5_seen 2 (some .int), .methodLink RX5 48 yX5_pointerOf, .instanceMethod yX5_pointerOf, .selects RX5 yX5_pointerOf yX5_pointerOf, .code yX5_pointerOf cX5_pointerOf 5 (some .int), .methodLink RX5 55 yX5_around, .instanceMethod yX5_around, .selects RX5 yX5_around yX5_around, .code yX5_around cX5_around 2 (some .int), .methodLink RX5 40 yX5_depth, .instanceMethod yX5_depth, .selects RX5 yX5_depth yX5_depth, .code yX5_depth cX5_depth 1 (some .int)] ++ wsX50)
def wsX5_seems_r1 : List Cond := [Cond.methodLink RX5 58 yX5_fillSeen, Cond.instanceMethod yX5_fillSeen, Cond.selects RX5 yX5_fillSeen yX5_fillSeen, Cond.initialized RX5, Cond.code yX5_fillSeen cX5_fillSeen 2 (some .int), Cond.methodLink RX5 44 yX5_of, Cond.instanceMethod yX5_of, Cond.selects RX5 yX5_of yX5_of, Cond.code yX5_of cX5_of 3 (some .int), Cond.fieldLink RX5 7 "GrayPointersModel" "all" "[I", Cond.methodLink RX5 52 yX5_seen, Cond.instanceMethod yX5_seen, Cond.selects RX5 yX5_seen yX5_seen, Cond.code yX5_seen cX5_seen 2 (some .int), Cond.methodLink RX5 48 yX5_pointerOf, Cond.instanceMethod yX5_pointerOf, Cond.selects RX5 yX5_pointerOf yX5_pointerOf, Cond.code yX5_pointerOf cX5_pointerOf 5 (some .int), Cond.methodLink RX5 55 yX5_around, Cond.instanceMethod yX5_around, Cond.selects RX5 yX5_around yX5_around, Cond.code yX5_around cX5_around 2 (some .int), Cond.methodLink RX5 40 yX5_depth, Cond.instanceMethod yX5_depth]
def wsX5_seems_r2 : List Cond := [Cond.selects RX5 yX5_depth yX5_depth, Cond.code yX5_depth cX5_depth 1 (some .int)]
def wsX5_seems : List Cond := .code yX5_seems cX5_seems 2 (some .boolean) :: ((wsX5_seems_r1 ++ wsX5_seems_r2) ++ wsX50)
def wsX5_ticksAt : List Cond := .code yX5_ticksAt cX5_ticksAt 3 (some .boolean) :: ([.methodLink RX5 44 yX5_of, .instanceMethod yX5_of, .selects RX5 yX5_of yX5_of, .initialized RX5, .code yX5_of cX5_of 3 (some .int), .fieldLink RX5 7 "GrayPointersModel" "all" "[I"] ++ wsX50)
def wsX5_acts_r1 : List Cond := [Cond.fieldLink RX5 7 "GrayPointersModel" "all" "[I", Cond.methodLink RX5 61 yX5_seems, Cond.instanceMethod yX5_seems, Cond.selects RX5 yX5_seems yX5_seems, Cond.initialized RX5, Cond.code yX5_seems cX5_seems 2 (some .boolean), Cond.methodLink RX5 58 yX5_fillSeen, Cond.instanceMethod yX5_fillSeen, Cond.selects RX5 yX5_fillSeen yX5_fillSeen, Cond.code yX5_fillSeen cX5_fillSeen 2 (some .int), Cond.methodLink RX5 44 yX5_of, Cond.instanceMethod yX5_of, Cond.selects RX5 yX5_of yX5_of, Cond.code yX5_of cX5_of 3 (some .int), Cond.methodLink RX5 52 yX5_seen, Cond.instanceMethod yX5_seen, Cond.selects RX5 yX5_seen yX5_seen, Cond.code yX5_seen cX5_seen 2 (some .int), Cond.methodLink RX5 48 yX5_pointerOf, Cond.instanceMethod yX5_pointerOf, Cond.selects RX5 yX5_pointerOf yX5_pointerOf, Cond.code yX5_pointerOf cX5_pointerOf 5 (some .int), Cond.methodLink RX5 55 yX5_around, Cond.instanceMethod yX5_around]
def wsX5_acts_r2 : List Cond := [Cond.selects RX5 yX5_around yX5_around, Cond.code yX5_around cX5_around 2 (some .int), Cond.methodLink RX5 40 yX5_depth, Cond.instanceMethod yX5_depth, Cond.selects RX5 yX5_depth yX5_depth, Cond.code yX5_depth cX5_depth 1 (some .int)]
def wsX5_acts : List Cond := .code yX5_acts cX5_acts 3 (some .boolean) :: ((wsX5_acts_r1 ++ wsX5_acts_r2) ++ wsX50)
def wsX5_sampleOf : List Cond := .code yX5_sampleOf cX5_sampleOf 5 (some .int) :: ([.methodLink RX5 65 yX5_codeOf, .instanceMethod yX5_codeOf, .selects RX5 yX5_codeOf yX5_codeOf, .initialized RX5, .code yX5_codeOf cX5_codeOf 2 (some .int), .fieldLink RX5 7 "GrayPointersModel" "all" "[I", .methodLink RX5 55 yX5_around, .instanceMethod yX5_around, .selects RX5 yX5_around yX5_around, .code yX5_around cX5_around 2 (some .int), .methodLink RX5 40 yX5_depth, .instanceMethod yX5_depth, .selects RX5 yX5_depth yX5_depth, .code yX5_depth cX5_depth 1 (some .int)] ++ wsX50)
def wsX5_samples : List Cond := .code yX5_samples cX5_samples 4 none :: ([.methodLink RX5 44 yX5_of, .instanceMethod yX5_of, .selects RX5 yX5_of yX5_of, .initialized RX5, .code yX5_of cX5_of 3 (some .int), .fieldLink RX5 7 "GrayPointersModel" "all" "[I", .methodLink RX5 68 yX5_to, .instanceMethod yX5_to, .selects RX5 yX5_to yX5_to, .code yX5_to cX5_to 4 none] ++ wsX50)
def wsX5_tells : List Cond := .code yX5_tells cX5_tells 4 none :: ([.fieldLink RX5 7 "GrayPointersModel" "all" "[I"] ++ wsX50)
def wsX5_takes : List Cond := .code yX5_takes cX5_takes 3 none :: ([.fieldLink RX5 7 "GrayPointersModel" "all" "[I", .methodLink RX5 44 yX5_of, .instanceMethod yX5_of, .selects RX5 yX5_of yX5_of, .initialized RX5, .code yX5_of cX5_of 3 (some .int), .methodLink RX5 40 yX5_depth, .instanceMethod yX5_depth, .selects RX5 yX5_depth yX5_depth, .code yX5_depth cX5_depth 1 (some .int), .methodLink RX5 72 yX5_tells, .instanceMethod yX5_tells, .selects RX5 yX5_tells yX5_tells, .code yX5_tells cX5_tells 4 none, .methodLink RX5 55 yX5_around, .instanceMethod yX5_around, .selects RX5 yX5_around yX5_around, .code yX5_around cX5_around 2 (some .int), .methodLink RX5 68 yX5_to, .instanceMethod yX5_to, .selects RX5 yX5_to yX5_to, .code yX5_to cX5_to 4 none] ++ wsX50)
def wsX5_puts : List Cond := .code yX5_puts cX5_puts 3 none :: ([.fieldLink RX5 7 "GrayPointersModel" "all" "[I", .methodLink RX5 44 yX5_of, .instanceMethod yX5_of, .selects RX5 yX5_of yX5_of, .initialized RX5, .code yX5_of cX5_of 3 (some .int), .methodLink RX5 40 yX5_depth, .instanceMethod yX5_depth, .selects RX5 yX5_depth yX5_depth, .code yX5_depth cX5_depth 1 (some .int), .methodLink RX5 55 yX5_around, .instanceMethod yX5_around, .selects RX5 yX5_around yX5_around, .code yX5_around cX5_around 2 (some .int), .methodLink RX5 68 yX5_to, .instanceMethod yX5_to, .selects RX5 yX5_to yX5_to, .code yX5_to cX5_to 4 none] ++ wsX50)
def wsX5_passes_r1 : List Cond := [Cond.fieldLink RX5 7 "GrayPointersModel" "all" "[I", Cond.methodLink RX5 76 yX5_ticksAt, Cond.instanceMethod yX5_ticksAt, Cond.selects RX5 yX5_ticksAt yX5_ticksAt, Cond.initialized RX5, Cond.code yX5_ticksAt cX5_ticksAt 3 (some .boolean), Cond.methodLink RX5 44 yX5_of, Cond.instanceMethod yX5_of, Cond.selects RX5 yX5_of yX5_of, Cond.code yX5_of cX5_of 3 (some .int), Cond.methodLink RX5 80 yX5_acts, Cond.instanceMethod yX5_acts, Cond.selects RX5 yX5_acts yX5_acts, Cond.code yX5_acts cX5_acts 3 (some .boolean), Cond.methodLink RX5 61 yX5_seems, Cond.instanceMethod yX5_seems, Cond.selects RX5 yX5_seems yX5_seems, Cond.code yX5_seems cX5_seems 2 (some .boolean), Cond.methodLink RX5 58 yX5_fillSeen, Cond.instanceMethod yX5_fillSeen, Cond.selects RX5 yX5_fillSeen yX5_fillSeen, Cond.code yX5_fillSeen cX5_fillSeen 2 (some .int), Cond.methodLink RX5 52 yX5_seen, Cond.instanceMethod yX5_seen]
def wsX5_passes_r2 : List Cond := [Cond.selects RX5 yX5_seen yX5_seen, Cond.code yX5_seen cX5_seen 2 (some .int), Cond.methodLink RX5 48 yX5_pointerOf, Cond.instanceMethod yX5_pointerOf, Cond.selects RX5 yX5_pointerOf yX5_pointerOf, Cond.code yX5_pointerOf cX5_pointerOf 5 (some .int), Cond.methodLink RX5 55 yX5_around, Cond.instanceMethod yX5_around, Cond.selects RX5 yX5_around yX5_around, Cond.code yX5_around cX5_around 2 (some .int), Cond.methodLink RX5 40 yX5_depth, Cond.instanceMethod yX5_depth, Cond.selects RX5 yX5_depth yX5_depth, Cond.code yX5_depth cX5_depth 1 (some .int), Cond.methodLink RX5 84 yX5_sampleOf, Cond.instanceMethod yX5_sampleOf, Cond.selects RX5 yX5_sampleOf yX5_sampleOf, Cond.code yX5_sampleOf cX5_sampleOf 5 (some .int), Cond.methodLink RX5 65 yX5_codeOf, Cond.instanceMethod yX5_codeOf, Cond.selects RX5 yX5_codeOf yX5_codeOf, Cond.code yX5_codeOf cX5_codeOf 2 (some .int), Cond.methodLink RX5 88 yX5_samples, Cond.instanceMethod yX5_samples]
def wsX5_passes_r3 : List Cond := [Cond.selects RX5 yX5_samples yX5_samples, Cond.code yX5_samples cX5_samples 4 none, Cond.methodLink RX5 68 yX5_to, Cond.instanceMethod yX5_to, Cond.selects RX5 yX5_to yX5_to, Cond.code yX5_to cX5_to 4 none, Cond.methodLink RX5 92 yX5_takes, Cond.instanceMethod yX5_takes, Cond.selects RX5 yX5_takes yX5_takes, Cond.code yX5_takes cX5_takes 3 none, Cond.methodLink RX5 72 yX5_tells, Cond.instanceMethod yX5_tells, Cond.selects RX5 yX5_tells yX5_tells, Cond.code yX5_tells cX5_tells 4 none, Cond.methodLink RX5 95 yX5_puts, Cond.instanceMethod yX5_puts, Cond.selects RX5 yX5_puts yX5_puts, Cond.code yX5_puts cX5_puts 3 none]
def wsX5_passes : List Cond := .code yX5_passes cX5_passes 9 (some .boolean) :: ((wsX5_passes_r1 ++ (wsX5_passes_r2 ++ wsX5_passes_r3)) ++ wsX50)
def wsX5_passMany_r1 : List Cond := [Cond.methodLink RX5 98 yX5_passes, Cond.instanceMethod yX5_passes, Cond.selects RX5 yX5_passes yX5_passes, Cond.initialized RX5, Cond.code yX5_passes cX5_passes 9 (some .boolean), Cond.fieldLink RX5 7 "GrayPointersModel" "all" "[I", Cond.methodLink RX5 76 yX5_ticksAt, Cond.instanceMethod yX5_ticksAt, Cond.selects RX5 yX5_ticksAt yX5_ticksAt, Cond.code yX5_ticksAt cX5_ticksAt 3 (some .boolean), Cond.methodLink RX5 44 yX5_of, Cond.instanceMethod yX5_of, Cond.selects RX5 yX5_of yX5_of, Cond.code yX5_of cX5_of 3 (some .int), Cond.methodLink RX5 80 yX5_acts, Cond.instanceMethod yX5_acts, Cond.selects RX5 yX5_acts yX5_acts, Cond.code yX5_acts cX5_acts 3 (some .boolean), Cond.methodLink RX5 61 yX5_seems, Cond.instanceMethod yX5_seems, Cond.selects RX5 yX5_seems yX5_seems, Cond.code yX5_seems cX5_seems 2 (some .boolean), Cond.methodLink RX5 58 yX5_fillSeen, Cond.instanceMethod yX5_fillSeen]
def wsX5_passMany_r2 : List Cond := [Cond.selects RX5 yX5_fillSeen yX5_fillSeen, Cond.code yX5_fillSeen cX5_fillSeen 2 (some .int), Cond.methodLink RX5 52 yX5_seen, Cond.instanceMethod yX5_seen, Cond.selects RX5 yX5_seen yX5_seen, Cond.code yX5_seen cX5_seen 2 (some .int), Cond.methodLink RX5 48 yX5_pointerOf, Cond.instanceMethod yX5_pointerOf, Cond.selects RX5 yX5_pointerOf yX5_pointerOf, Cond.code yX5_pointerOf cX5_pointerOf 5 (some .int), Cond.methodLink RX5 55 yX5_around, Cond.instanceMethod yX5_around, Cond.selects RX5 yX5_around yX5_around, Cond.code yX5_around cX5_around 2 (some .int), Cond.methodLink RX5 40 yX5_depth, Cond.instanceMethod yX5_depth, Cond.selects RX5 yX5_depth yX5_depth, Cond.code yX5_depth cX5_depth 1 (some .int), Cond.methodLink RX5 84 yX5_sampleOf, Cond.instanceMethod yX5_sampleOf, Cond.selects RX5 yX5_sampleOf yX5_sampleOf, Cond.code yX5_sampleOf cX5_sampleOf 5 (some .int), Cond.methodLink RX5 65 yX5_codeOf, Cond.instanceMethod yX5_codeOf]
def wsX5_passMany_r3 : List Cond := [Cond.selects RX5 yX5_codeOf yX5_codeOf, Cond.code yX5_codeOf cX5_codeOf 2 (some .int), Cond.methodLink RX5 88 yX5_samples, Cond.instanceMethod yX5_samples, Cond.selects RX5 yX5_samples yX5_samples, Cond.code yX5_samples cX5_samples 4 none, Cond.methodLink RX5 68 yX5_to, Cond.instanceMethod yX5_to, Cond.selects RX5 yX5_to yX5_to, Cond.code yX5_to cX5_to 4 none, Cond.methodLink RX5 92 yX5_takes, Cond.instanceMethod yX5_takes, Cond.selects RX5 yX5_takes yX5_takes, Cond.code yX5_takes cX5_takes 3 none, Cond.methodLink RX5 72 yX5_tells, Cond.instanceMethod yX5_tells, Cond.selects RX5 yX5_tells yX5_tells, Cond.code yX5_tells cX5_tells 4 none, Cond.methodLink RX5 95 yX5_puts, Cond.instanceMethod yX5_puts, Cond.selects RX5 yX5_puts yX5_puts, Cond.code yX5_puts cX5_puts 3 none]
def wsX5_passMany : List Cond := .code yX5_passMany cX5_passMany 3 none :: ((wsX5_passMany_r1 ++ (wsX5_passMany_r2 ++ wsX5_passMany_r3)) ++ wsX50)
def wsX5_build_r1 : List Cond := [Cond.constantLong RX5 102 (4), Cond.methodLink RX5 104 yX5_in, Cond.static yX5_in, Cond.initialized RX5, Cond.code yX5_in cX5_in 6 (some .boolean), Cond.methodLink RX5 108 yX5_remember, Cond.instanceMethod yX5_remember, Cond.selects RX5 yX5_remember yX5_remember, Cond.code yX5_remember cX5_remember 1 none, Cond.fieldLink RX5 7 "GrayPointersModel" "all" "[I", Cond.fieldLink RX5 13 "GrayPointersModel" "kept" "[I", Cond.methodLink RX5 32 yX5_copy, Cond.static yX5_copy, Cond.code yX5_copy cX5_copy 3 none, Cond.methodLink RX5 28 yX5_builds, Cond.instanceMethod yX5_builds, Cond.selects RX5 yX5_builds yX5_builds, Cond.code yX5_builds cX5_builds 5 none, Cond.methodLink RX5 68 yX5_to, Cond.instanceMethod yX5_to, Cond.selects RX5 yX5_to yX5_to, Cond.code yX5_to cX5_to 4 none, Cond.methodLink RX5 40 yX5_depth, Cond.instanceMethod yX5_depth]
def wsX5_build_r2 : List Cond := [Cond.selects RX5 yX5_depth yX5_depth, Cond.code yX5_depth cX5_depth 1 (some .int), Cond.methodLink RX5 111 yX5_acted, Cond.instanceMethod yX5_acted, Cond.selects RX5 yX5_acted yX5_acted, Cond.code yX5_acted cX5_acted 3 (some .int), Cond.fieldLink RX5 36 "GrayPointersModel" "historyLong" "I", Cond.fieldLink RX5 19 "GrayPointersModel" "history" "[I"]
def wsX5_build : List Cond := .code yX5_build cX5_build 3 (some .int) :: ((wsX5_build_r1 ++ wsX5_build_r2) ++ wsX50)
def wsX5_setClock_r1 : List Cond := [Cond.constantLong RX5 117 (50), Cond.constantLong RX5 119 (49), Cond.methodLink RX5 114 yX5_isSide, Cond.static yX5_isSide, Cond.initialized RX5, Cond.code yX5_isSide cX5_isSide 1 (some .boolean), Cond.methodLink RX5 104 yX5_in, Cond.static yX5_in, Cond.code yX5_in cX5_in 6 (some .boolean), Cond.methodLink RX5 44 yX5_of, Cond.instanceMethod yX5_of, Cond.selects RX5 yX5_of yX5_of, Cond.code yX5_of cX5_of 3 (some .int), Cond.fieldLink RX5 7 "GrayPointersModel" "all" "[I", Cond.methodLink RX5 108 yX5_remember, Cond.instanceMethod yX5_remember, Cond.selects RX5 yX5_remember yX5_remember, Cond.code yX5_remember cX5_remember 1 none, Cond.fieldLink RX5 13 "GrayPointersModel" "kept" "[I", Cond.methodLink RX5 32 yX5_copy, Cond.static yX5_copy, Cond.code yX5_copy cX5_copy 3 none, Cond.methodLink RX5 68 yX5_to, Cond.instanceMethod yX5_to]
def wsX5_setClock_r2 : List Cond := [Cond.selects RX5 yX5_to yX5_to, Cond.code yX5_to cX5_to 4 none, Cond.methodLink RX5 111 yX5_acted, Cond.instanceMethod yX5_acted, Cond.selects RX5 yX5_acted yX5_acted, Cond.code yX5_acted cX5_acted 3 (some .int), Cond.fieldLink RX5 36 "GrayPointersModel" "historyLong" "I", Cond.fieldLink RX5 19 "GrayPointersModel" "history" "[I"]
def wsX5_setClock : List Cond := .code yX5_setClock cX5_setClock 5 (some .int) :: ((wsX5_setClock_r1 ++ wsX5_setClock_r2) ++ wsX50)
def wsX5_start_r1 : List Cond := [Cond.fieldLink RX5 7 "GrayPointersModel" "all" "[I", Cond.methodLink RX5 114 yX5_isSide, Cond.static yX5_isSide, Cond.initialized RX5, Cond.code yX5_isSide cX5_isSide 1 (some .boolean), Cond.methodLink RX5 44 yX5_of, Cond.instanceMethod yX5_of, Cond.selects RX5 yX5_of yX5_of, Cond.code yX5_of cX5_of 3 (some .int), Cond.methodLink RX5 108 yX5_remember, Cond.instanceMethod yX5_remember, Cond.selects RX5 yX5_remember yX5_remember, Cond.code yX5_remember cX5_remember 1 none, Cond.fieldLink RX5 13 "GrayPointersModel" "kept" "[I", Cond.methodLink RX5 32 yX5_copy, Cond.static yX5_copy, Cond.code yX5_copy cX5_copy 3 none, Cond.methodLink RX5 68 yX5_to, Cond.instanceMethod yX5_to, Cond.selects RX5 yX5_to yX5_to, Cond.code yX5_to cX5_to 4 none, Cond.methodLink RX5 111 yX5_acted, Cond.instanceMethod yX5_acted, Cond.selects RX5 yX5_acted yX5_acted]
def wsX5_start_r2 : List Cond := [Cond.code yX5_acted cX5_acted 3 (some .int), Cond.fieldLink RX5 36 "GrayPointersModel" "historyLong" "I", Cond.fieldLink RX5 19 "GrayPointersModel" "history" "[I"]
def wsX5_start : List Cond := .code yX5_start cX5_start 4 (some .int) :: ((wsX5_start_r1 ++ wsX5_start_r2) ++ wsX50)
def wsX5_set : List Cond := .code yX5_set cX5_set 4 (some .int) :: ([.constantLong RX5 121 (15), .fieldLink RX5 7 "GrayPointersModel" "all" "[I", .methodLink RX5 104 yX5_in, .static yX5_in, .initialized RX5, .code yX5_in cX5_in 6 (some .boolean), .methodLink RX5 108 yX5_remember, .instanceMethod yX5_remember, .selects RX5 yX5_remember yX5_remember, .code yX5_remember cX5_remember 1 none, .fieldLink RX5 13 "GrayPointersModel" "kept" "[I", .methodLink RX5 32 yX5_copy, .static yX5_copy, .code yX5_copy cX5_copy 3 none, .methodLink RX5 111 yX5_acted, .instanceMethod yX5_acted, .selects RX5 yX5_acted yX5_acted, .code yX5_acted cX5_acted 3 (some .int), .fieldLink RX5 36 "GrayPointersModel" "historyLong" "I", .fieldLink RX5 19 "GrayPointersModel" "history" "[I"] ++ wsX50)
def wsX5_waits : List Cond := .code yX5_waits cX5_waits 2 none :: ([.fieldLink RX5 7 "GrayPointersModel" "all" "[I"] ++ wsX50)
def wsX5_push : List Cond := .code yX5_push cX5_push 2 (some .int) :: ([.constantLong RX5 123 (99), .fieldLink RX5 7 "GrayPointersModel" "all" "[I", .methodLink RX5 104 yX5_in, .static yX5_in, .initialized RX5, .code yX5_in cX5_in 6 (some .boolean), .methodLink RX5 108 yX5_remember, .instanceMethod yX5_remember, .selects RX5 yX5_remember yX5_remember, .code yX5_remember cX5_remember 1 none, .fieldLink RX5 13 "GrayPointersModel" "kept" "[I", .methodLink RX5 32 yX5_copy, .static yX5_copy, .code yX5_copy cX5_copy 3 none, .methodLink RX5 125 yX5_waits, .instanceMethod yX5_waits, .selects RX5 yX5_waits yX5_waits, .code yX5_waits cX5_waits 2 none, .methodLink RX5 111 yX5_acted, .instanceMethod yX5_acted, .selects RX5 yX5_acted yX5_acted, .code yX5_acted cX5_acted 3 (some .int), .fieldLink RX5 36 "GrayPointersModel" "historyLong" "I", .fieldLink RX5 19 "GrayPointersModel" "history" "[I"] ++ wsX50)
def wsX5_pass_r1 : List Cond := [Cond.constantLong RX5 129 (500), Cond.fieldLink RX5 7 "GrayPointersModel" "all" "[I", Cond.constant RX5 131 (1000000), Cond.methodLink RX5 104 yX5_in, Cond.static yX5_in, Cond.initialized RX5, Cond.code yX5_in cX5_in 6 (some .boolean), Cond.methodLink RX5 108 yX5_remember, Cond.instanceMethod yX5_remember, Cond.selects RX5 yX5_remember yX5_remember, Cond.code yX5_remember cX5_remember 1 none, Cond.fieldLink RX5 13 "GrayPointersModel" "kept" "[I", Cond.methodLink RX5 32 yX5_copy, Cond.static yX5_copy, Cond.code yX5_copy cX5_copy 3 none, Cond.methodLink RX5 132 yX5_passMany, Cond.instanceMethod yX5_passMany, Cond.selects RX5 yX5_passMany yX5_passMany, Cond.code yX5_passMany cX5_passMany 3 none, Cond.methodLink RX5 98 yX5_passes, Cond.instanceMethod yX5_passes, Cond.selects RX5 yX5_passes yX5_passes, Cond.code yX5_passes cX5_passes 9 (some .boolean), Cond.methodLink RX5 76 yX5_ticksAt]
def wsX5_pass_r2 : List Cond := [Cond.instanceMethod yX5_ticksAt, Cond.selects RX5 yX5_ticksAt yX5_ticksAt, Cond.code yX5_ticksAt cX5_ticksAt 3 (some .boolean), Cond.methodLink RX5 44 yX5_of, Cond.instanceMethod yX5_of, Cond.selects RX5 yX5_of yX5_of, Cond.code yX5_of cX5_of 3 (some .int), Cond.methodLink RX5 80 yX5_acts, Cond.instanceMethod yX5_acts, Cond.selects RX5 yX5_acts yX5_acts, Cond.code yX5_acts cX5_acts 3 (some .boolean), Cond.methodLink RX5 61 yX5_seems, Cond.instanceMethod yX5_seems, Cond.selects RX5 yX5_seems yX5_seems, Cond.code yX5_seems cX5_seems 2 (some .boolean), Cond.methodLink RX5 58 yX5_fillSeen, Cond.instanceMethod yX5_fillSeen, Cond.selects RX5 yX5_fillSeen yX5_fillSeen, Cond.code yX5_fillSeen cX5_fillSeen 2 (some .int), Cond.methodLink RX5 52 yX5_seen, Cond.instanceMethod yX5_seen, Cond.selects RX5 yX5_seen yX5_seen, Cond.code yX5_seen cX5_seen 2 (some .int), Cond.methodLink RX5 48 yX5_pointerOf]
def wsX5_pass_r3 : List Cond := [Cond.instanceMethod yX5_pointerOf, Cond.selects RX5 yX5_pointerOf yX5_pointerOf, Cond.code yX5_pointerOf cX5_pointerOf 5 (some .int), Cond.methodLink RX5 55 yX5_around, Cond.instanceMethod yX5_around, Cond.selects RX5 yX5_around yX5_around, Cond.code yX5_around cX5_around 2 (some .int), Cond.methodLink RX5 40 yX5_depth, Cond.instanceMethod yX5_depth, Cond.selects RX5 yX5_depth yX5_depth, Cond.code yX5_depth cX5_depth 1 (some .int), Cond.methodLink RX5 84 yX5_sampleOf, Cond.instanceMethod yX5_sampleOf, Cond.selects RX5 yX5_sampleOf yX5_sampleOf, Cond.code yX5_sampleOf cX5_sampleOf 5 (some .int), Cond.methodLink RX5 65 yX5_codeOf, Cond.instanceMethod yX5_codeOf, Cond.selects RX5 yX5_codeOf yX5_codeOf, Cond.code yX5_codeOf cX5_codeOf 2 (some .int), Cond.methodLink RX5 88 yX5_samples, Cond.instanceMethod yX5_samples, Cond.selects RX5 yX5_samples yX5_samples, Cond.code yX5_samples cX5_samples 4 none, Cond.methodLink RX5 68 yX5_to]
def wsX5_pass_r4 : List Cond := [Cond.instanceMethod yX5_to, Cond.selects RX5 yX5_to yX5_to, Cond.code yX5_to cX5_to 4 none, Cond.methodLink RX5 92 yX5_takes, Cond.instanceMethod yX5_takes, Cond.selects RX5 yX5_takes yX5_takes, Cond.code yX5_takes cX5_takes 3 none, Cond.methodLink RX5 72 yX5_tells, Cond.instanceMethod yX5_tells, Cond.selects RX5 yX5_tells yX5_tells, Cond.code yX5_tells cX5_tells 4 none, Cond.methodLink RX5 95 yX5_puts, Cond.instanceMethod yX5_puts, Cond.selects RX5 yX5_puts yX5_puts, Cond.code yX5_puts cX5_puts 3 none, Cond.methodLink RX5 111 yX5_acted, Cond.instanceMethod yX5_acted, Cond.selects RX5 yX5_acted yX5_acted, Cond.code yX5_acted cX5_acted 3 (some .int), Cond.fieldLink RX5 36 "GrayPointersModel" "historyLong" "I", Cond.fieldLink RX5 19 "GrayPointersModel" "history" "[I"]
def wsX5_pass : List Cond := .code yX5_pass cX5_pass 3 (some .int) :: ((wsX5_pass_r1 ++ (wsX5_pass_r2 ++ (wsX5_pass_r3 ++ wsX5_pass_r4))) ++ wsX50)
def wsX5_type : List Cond := .code yX5_type cX5_type 2 (some .int) :: ([.fieldLink RX5 135 "GrayPointersModel" "textLong" "I", .fieldLink RX5 25 "GrayPointersModel" "text" "[I"] ++ wsX50)
def wsX5_clearText : List Cond := .code yX5_clearText cX5_clearText 2 (some .int) :: ([.fieldLink RX5 135 "GrayPointersModel" "textLong" "I"] ++ wsX50)
def wsX5_isHere : List Cond := .code yX5_isHere cX5_isHere 3 (some .boolean) :: ([.fieldLink RX5 138 "GrayPointersModel" "spot" "I", .fieldLink RX5 135 "GrayPointersModel" "textLong" "I", .fieldLink RX5 25 "GrayPointersModel" "text" "[I", .methodLink RX5 104 yX5_in, .static yX5_in, .initialized RX5, .code yX5_in cX5_in 6 (some .boolean)] ++ wsX50)
def wsX5_takesSign : List Cond := .code yX5_takesSign cX5_takesSign 3 (some .boolean) :: ([.fieldLink RX5 138 "GrayPointersModel" "spot" "I", .methodLink RX5 141 yX5_isHere, .instanceMethod yX5_isHere, .selects RX5 yX5_isHere yX5_isHere, .initialized RX5, .code yX5_isHere cX5_isHere 3 (some .boolean), .fieldLink RX5 135 "GrayPointersModel" "textLong" "I", .fieldLink RX5 25 "GrayPointersModel" "text" "[I", .methodLink RX5 104 yX5_in, .static yX5_in, .code yX5_in cX5_in 6 (some .boolean)] ++ wsX50)
def wsX5_readsNumber : List Cond := .code yX5_readsNumber cX5_readsNumber 2 (some .boolean) :: ([.fieldLink RX5 25 "GrayPointersModel" "text" "[I", .fieldLink RX5 138 "GrayPointersModel" "spot" "I", .fieldLink RX5 144 "GrayPointersModel" "number" "I", .methodLink RX5 141 yX5_isHere, .instanceMethod yX5_isHere, .selects RX5 yX5_isHere yX5_isHere, .initialized RX5, .code yX5_isHere cX5_isHere 3 (some .boolean), .fieldLink RX5 135 "GrayPointersModel" "textLong" "I", .methodLink RX5 104 yX5_in, .static yX5_in, .code yX5_in cX5_in 6 (some .boolean)] ++ wsX50)
def wsX5_readsPart : List Cond := .code yX5_readsPart cX5_readsPart 2 (some .boolean) :: ([.fieldLink RX5 147 "GrayPointersModel" "oftenRead" "I", .fieldLink RX5 150 "GrayPointersModel" "timesRead" "I", .fieldLink RX5 144 "GrayPointersModel" "number" "I", .fieldLink RX5 159 "GrayPointersModel" "wordRead" "I", .fieldLink RX5 25 "GrayPointersModel" "text" "[I", .fieldLink RX5 138 "GrayPointersModel" "spot" "I", .methodLink RX5 153 yX5_takesSign, .instanceMethod yX5_takesSign, .selects RX5 yX5_takesSign yX5_takesSign, .initialized RX5, .code yX5_takesSign cX5_takesSign 3 (some .boolean), .methodLink RX5 141 yX5_isHere, .instanceMethod yX5_isHere, .selects RX5 yX5_isHere yX5_isHere, .code yX5_isHere cX5_isHere 3 (some .boolean), .fieldLink RX5 135 "GrayPointersModel" "textLong" "I", .methodLink RX5 104 yX5_in, .static yX5_in, .code yX5_in cX5_in 6 (some .boolean), .methodLink RX5 156 yX5_readsNumber, .instanceMethod yX5_readsNumber, .selects RX5 yX5_readsNumber yX5_readsNumber, .code yX5_readsNumber cX5_readsNumber 2 (some .boolean)] ++ wsX50)
def wsX5_fault_r1 : List Cond := [Cond.fieldLink RX5 138 "GrayPointersModel" "spot" "I", Cond.fieldLink RX5 135 "GrayPointersModel" "textLong" "I", Cond.methodLink RX5 162 yX5_readsPart, Cond.instanceMethod yX5_readsPart, Cond.selects RX5 yX5_readsPart yX5_readsPart, Cond.initialized RX5, Cond.code yX5_readsPart cX5_readsPart 2 (some .boolean), Cond.fieldLink RX5 147 "GrayPointersModel" "oftenRead" "I", Cond.fieldLink RX5 150 "GrayPointersModel" "timesRead" "I", Cond.fieldLink RX5 144 "GrayPointersModel" "number" "I", Cond.fieldLink RX5 159 "GrayPointersModel" "wordRead" "I", Cond.fieldLink RX5 25 "GrayPointersModel" "text" "[I", Cond.methodLink RX5 153 yX5_takesSign, Cond.instanceMethod yX5_takesSign, Cond.selects RX5 yX5_takesSign yX5_takesSign, Cond.code yX5_takesSign cX5_takesSign 3 (some .boolean), Cond.methodLink RX5 141 yX5_isHere, Cond.instanceMethod yX5_isHere, Cond.selects RX5 yX5_isHere yX5_isHere, Cond.code yX5_isHere cX5_isHere 3 (some .boolean), Cond.methodLink RX5 104 yX5_in, Cond.static yX5_in, Cond.code yX5_in cX5_in 6 (some .boolean), Cond.methodLink RX5 156 yX5_readsNumber]
def wsX5_fault_r2 : List Cond := [Cond.instanceMethod yX5_readsNumber, Cond.selects RX5 yX5_readsNumber yX5_readsNumber, Cond.code yX5_readsNumber cX5_readsNumber 2 (some .boolean)]
def wsX5_fault : List Cond := .code yX5_fault cX5_fault 2 (some .int) :: ((wsX5_fault_r1 ++ wsX5_fault_r2) ++ wsX50)
def wsX5_doesText_r1 : List Cond := [Cond.fieldLink RX5 138 "GrayPointersModel" "spot" "I", Cond.fieldLink RX5 7 "GrayPointersModel" "all" "[I", Cond.fieldLink RX5 147 "GrayPointersModel" "oftenRead" "I", Cond.fieldLink RX5 150 "GrayPointersModel" "timesRead" "I", Cond.constant RX5 131 (1000000), Cond.fieldLink RX5 159 "GrayPointersModel" "wordRead" "I", Cond.methodLink RX5 162 yX5_readsPart, Cond.instanceMethod yX5_readsPart, Cond.selects RX5 yX5_readsPart yX5_readsPart, Cond.initialized RX5, Cond.code yX5_readsPart cX5_readsPart 2 (some .boolean), Cond.fieldLink RX5 144 "GrayPointersModel" "number" "I", Cond.fieldLink RX5 25 "GrayPointersModel" "text" "[I", Cond.methodLink RX5 153 yX5_takesSign, Cond.instanceMethod yX5_takesSign, Cond.selects RX5 yX5_takesSign yX5_takesSign, Cond.code yX5_takesSign cX5_takesSign 3 (some .boolean), Cond.methodLink RX5 141 yX5_isHere, Cond.instanceMethod yX5_isHere, Cond.selects RX5 yX5_isHere yX5_isHere, Cond.code yX5_isHere cX5_isHere 3 (some .boolean), Cond.fieldLink RX5 135 "GrayPointersModel" "textLong" "I", Cond.methodLink RX5 104 yX5_in, Cond.static yX5_in]
def wsX5_doesText_r2 : List Cond := [Cond.code yX5_in cX5_in 6 (some .boolean), Cond.methodLink RX5 156 yX5_readsNumber, Cond.instanceMethod yX5_readsNumber, Cond.selects RX5 yX5_readsNumber yX5_readsNumber, Cond.code yX5_readsNumber cX5_readsNumber 2 (some .boolean), Cond.methodLink RX5 125 yX5_waits, Cond.instanceMethod yX5_waits, Cond.selects RX5 yX5_waits yX5_waits, Cond.code yX5_waits cX5_waits 2 none, Cond.methodLink RX5 132 yX5_passMany, Cond.instanceMethod yX5_passMany, Cond.selects RX5 yX5_passMany yX5_passMany, Cond.code yX5_passMany cX5_passMany 3 none, Cond.methodLink RX5 98 yX5_passes, Cond.instanceMethod yX5_passes, Cond.selects RX5 yX5_passes yX5_passes, Cond.code yX5_passes cX5_passes 9 (some .boolean), Cond.methodLink RX5 76 yX5_ticksAt, Cond.instanceMethod yX5_ticksAt, Cond.selects RX5 yX5_ticksAt yX5_ticksAt, Cond.code yX5_ticksAt cX5_ticksAt 3 (some .boolean), Cond.methodLink RX5 44 yX5_of, Cond.instanceMethod yX5_of, Cond.selects RX5 yX5_of yX5_of]
def wsX5_doesText_r3 : List Cond := [Cond.code yX5_of cX5_of 3 (some .int), Cond.methodLink RX5 80 yX5_acts, Cond.instanceMethod yX5_acts, Cond.selects RX5 yX5_acts yX5_acts, Cond.code yX5_acts cX5_acts 3 (some .boolean), Cond.methodLink RX5 61 yX5_seems, Cond.instanceMethod yX5_seems, Cond.selects RX5 yX5_seems yX5_seems, Cond.code yX5_seems cX5_seems 2 (some .boolean), Cond.methodLink RX5 58 yX5_fillSeen, Cond.instanceMethod yX5_fillSeen, Cond.selects RX5 yX5_fillSeen yX5_fillSeen, Cond.code yX5_fillSeen cX5_fillSeen 2 (some .int), Cond.methodLink RX5 52 yX5_seen, Cond.instanceMethod yX5_seen, Cond.selects RX5 yX5_seen yX5_seen, Cond.code yX5_seen cX5_seen 2 (some .int), Cond.methodLink RX5 48 yX5_pointerOf, Cond.instanceMethod yX5_pointerOf, Cond.selects RX5 yX5_pointerOf yX5_pointerOf, Cond.code yX5_pointerOf cX5_pointerOf 5 (some .int), Cond.methodLink RX5 55 yX5_around, Cond.instanceMethod yX5_around, Cond.selects RX5 yX5_around yX5_around]
def wsX5_doesText_r4 : List Cond := [Cond.code yX5_around cX5_around 2 (some .int), Cond.methodLink RX5 40 yX5_depth, Cond.instanceMethod yX5_depth, Cond.selects RX5 yX5_depth yX5_depth, Cond.code yX5_depth cX5_depth 1 (some .int), Cond.methodLink RX5 84 yX5_sampleOf, Cond.instanceMethod yX5_sampleOf, Cond.selects RX5 yX5_sampleOf yX5_sampleOf, Cond.code yX5_sampleOf cX5_sampleOf 5 (some .int), Cond.methodLink RX5 65 yX5_codeOf, Cond.instanceMethod yX5_codeOf, Cond.selects RX5 yX5_codeOf yX5_codeOf, Cond.code yX5_codeOf cX5_codeOf 2 (some .int), Cond.methodLink RX5 88 yX5_samples, Cond.instanceMethod yX5_samples, Cond.selects RX5 yX5_samples yX5_samples, Cond.code yX5_samples cX5_samples 4 none, Cond.methodLink RX5 68 yX5_to, Cond.instanceMethod yX5_to, Cond.selects RX5 yX5_to yX5_to, Cond.code yX5_to cX5_to 4 none, Cond.methodLink RX5 92 yX5_takes, Cond.instanceMethod yX5_takes, Cond.selects RX5 yX5_takes yX5_takes]
def wsX5_doesText_r5 : List Cond := [Cond.code yX5_takes cX5_takes 3 none, Cond.methodLink RX5 72 yX5_tells, Cond.instanceMethod yX5_tells, Cond.selects RX5 yX5_tells yX5_tells, Cond.code yX5_tells cX5_tells 4 none, Cond.methodLink RX5 95 yX5_puts, Cond.instanceMethod yX5_puts, Cond.selects RX5 yX5_puts yX5_puts, Cond.code yX5_puts cX5_puts 3 none]
def wsX5_doesText : List Cond := .code yX5_doesText cX5_doesText 5 (some .int) :: ((wsX5_doesText_r1 ++ (wsX5_doesText_r2 ++ (wsX5_doesText_r3 ++ (wsX5_doesText_r4 ++ wsX5_doesText_r5)))) ++ wsX50)
def wsX5_pushAll_r1 : List Cond := [Cond.fieldLink RX5 13 "GrayPointersModel" "kept" "[I", Cond.fieldLink RX5 7 "GrayPointersModel" "all" "[I", Cond.methodLink RX5 165 yX5_fault, Cond.instanceMethod yX5_fault, Cond.selects RX5 yX5_fault yX5_fault, Cond.initialized RX5, Cond.code yX5_fault cX5_fault 2 (some .int), Cond.fieldLink RX5 138 "GrayPointersModel" "spot" "I", Cond.fieldLink RX5 135 "GrayPointersModel" "textLong" "I", Cond.methodLink RX5 162 yX5_readsPart, Cond.instanceMethod yX5_readsPart, Cond.selects RX5 yX5_readsPart yX5_readsPart, Cond.code yX5_readsPart cX5_readsPart 2 (some .boolean), Cond.fieldLink RX5 147 "GrayPointersModel" "oftenRead" "I", Cond.fieldLink RX5 150 "GrayPointersModel" "timesRead" "I", Cond.fieldLink RX5 144 "GrayPointersModel" "number" "I", Cond.fieldLink RX5 159 "GrayPointersModel" "wordRead" "I", Cond.fieldLink RX5 25 "GrayPointersModel" "text" "[I", Cond.methodLink RX5 153 yX5_takesSign, Cond.instanceMethod yX5_takesSign, Cond.selects RX5 yX5_takesSign yX5_takesSign, Cond.code yX5_takesSign cX5_takesSign 3 (some .boolean), Cond.methodLink RX5 141 yX5_isHere, Cond.instanceMethod yX5_isHere]
def wsX5_pushAll_r2 : List Cond := [Cond.selects RX5 yX5_isHere yX5_isHere, Cond.code yX5_isHere cX5_isHere 3 (some .boolean), Cond.methodLink RX5 104 yX5_in, Cond.static yX5_in, Cond.code yX5_in cX5_in 6 (some .boolean), Cond.methodLink RX5 156 yX5_readsNumber, Cond.instanceMethod yX5_readsNumber, Cond.selects RX5 yX5_readsNumber yX5_readsNumber, Cond.code yX5_readsNumber cX5_readsNumber 2 (some .boolean), Cond.methodLink RX5 108 yX5_remember, Cond.instanceMethod yX5_remember, Cond.selects RX5 yX5_remember yX5_remember, Cond.code yX5_remember cX5_remember 1 none, Cond.methodLink RX5 32 yX5_copy, Cond.static yX5_copy, Cond.code yX5_copy cX5_copy 3 none, Cond.methodLink RX5 168 yX5_doesText, Cond.instanceMethod yX5_doesText, Cond.selects RX5 yX5_doesText yX5_doesText, Cond.code yX5_doesText cX5_doesText 5 (some .int), Cond.constant RX5 131 (1000000), Cond.methodLink RX5 125 yX5_waits, Cond.instanceMethod yX5_waits, Cond.selects RX5 yX5_waits yX5_waits]
def wsX5_pushAll_r3 : List Cond := [Cond.code yX5_waits cX5_waits 2 none, Cond.methodLink RX5 132 yX5_passMany, Cond.instanceMethod yX5_passMany, Cond.selects RX5 yX5_passMany yX5_passMany, Cond.code yX5_passMany cX5_passMany 3 none, Cond.methodLink RX5 98 yX5_passes, Cond.instanceMethod yX5_passes, Cond.selects RX5 yX5_passes yX5_passes, Cond.code yX5_passes cX5_passes 9 (some .boolean), Cond.methodLink RX5 76 yX5_ticksAt, Cond.instanceMethod yX5_ticksAt, Cond.selects RX5 yX5_ticksAt yX5_ticksAt, Cond.code yX5_ticksAt cX5_ticksAt 3 (some .boolean), Cond.methodLink RX5 44 yX5_of, Cond.instanceMethod yX5_of, Cond.selects RX5 yX5_of yX5_of, Cond.code yX5_of cX5_of 3 (some .int), Cond.methodLink RX5 80 yX5_acts, Cond.instanceMethod yX5_acts, Cond.selects RX5 yX5_acts yX5_acts, Cond.code yX5_acts cX5_acts 3 (some .boolean), Cond.methodLink RX5 61 yX5_seems, Cond.instanceMethod yX5_seems, Cond.selects RX5 yX5_seems yX5_seems]
def wsX5_pushAll_r4 : List Cond := [Cond.code yX5_seems cX5_seems 2 (some .boolean), Cond.methodLink RX5 58 yX5_fillSeen, Cond.instanceMethod yX5_fillSeen, Cond.selects RX5 yX5_fillSeen yX5_fillSeen, Cond.code yX5_fillSeen cX5_fillSeen 2 (some .int), Cond.methodLink RX5 52 yX5_seen, Cond.instanceMethod yX5_seen, Cond.selects RX5 yX5_seen yX5_seen, Cond.code yX5_seen cX5_seen 2 (some .int), Cond.methodLink RX5 48 yX5_pointerOf, Cond.instanceMethod yX5_pointerOf, Cond.selects RX5 yX5_pointerOf yX5_pointerOf, Cond.code yX5_pointerOf cX5_pointerOf 5 (some .int), Cond.methodLink RX5 55 yX5_around, Cond.instanceMethod yX5_around, Cond.selects RX5 yX5_around yX5_around, Cond.code yX5_around cX5_around 2 (some .int), Cond.methodLink RX5 40 yX5_depth, Cond.instanceMethod yX5_depth, Cond.selects RX5 yX5_depth yX5_depth, Cond.code yX5_depth cX5_depth 1 (some .int), Cond.methodLink RX5 84 yX5_sampleOf, Cond.instanceMethod yX5_sampleOf, Cond.selects RX5 yX5_sampleOf yX5_sampleOf]
def wsX5_pushAll_r5 : List Cond := [Cond.code yX5_sampleOf cX5_sampleOf 5 (some .int), Cond.methodLink RX5 65 yX5_codeOf, Cond.instanceMethod yX5_codeOf, Cond.selects RX5 yX5_codeOf yX5_codeOf, Cond.code yX5_codeOf cX5_codeOf 2 (some .int), Cond.methodLink RX5 88 yX5_samples, Cond.instanceMethod yX5_samples, Cond.selects RX5 yX5_samples yX5_samples, Cond.code yX5_samples cX5_samples 4 none, Cond.methodLink RX5 68 yX5_to, Cond.instanceMethod yX5_to, Cond.selects RX5 yX5_to yX5_to, Cond.code yX5_to cX5_to 4 none, Cond.methodLink RX5 92 yX5_takes, Cond.instanceMethod yX5_takes, Cond.selects RX5 yX5_takes yX5_takes, Cond.code yX5_takes cX5_takes 3 none, Cond.methodLink RX5 72 yX5_tells, Cond.instanceMethod yX5_tells, Cond.selects RX5 yX5_tells yX5_tells, Cond.code yX5_tells cX5_tells 4 none, Cond.methodLink RX5 95 yX5_puts, Cond.instanceMethod yX5_puts, Cond.selects RX5 yX5_puts yX5_puts]
def wsX5_pushAll_r6 : List Cond := [Cond.code yX5_puts cX5_puts 3 none, Cond.methodLink RX5 111 yX5_acted, Cond.instanceMethod yX5_acted, Cond.selects RX5 yX5_acted yX5_acted, Cond.code yX5_acted cX5_acted 3 (some .int), Cond.fieldLink RX5 36 "GrayPointersModel" "historyLong" "I", Cond.fieldLink RX5 19 "GrayPointersModel" "history" "[I"]
def wsX5_pushAll : List Cond := .code yX5_pushAll cX5_pushAll 3 (some .int) :: ((wsX5_pushAll_r1 ++ (wsX5_pushAll_r2 ++ (wsX5_pushAll_r3 ++ (wsX5_pushAll_r4 ++ (wsX5_pushAll_r5 ++ wsX5_pushAll_r6))))) ++ wsX50)
def wsX5_undo : List Cond := .code yX5_undo cX5_undo 2 (some .int) :: ([.fieldLink RX5 36 "GrayPointersModel" "historyLong" "I", .fieldLink RX5 7 "GrayPointersModel" "all" "[I", .fieldLink RX5 19 "GrayPointersModel" "history" "[I"] ++ wsX50)
def wsX5_keep : List Cond := .code yX5_keep cX5_keep 1 (some .int) :: ([.fieldLink RX5 7 "GrayPointersModel" "all" "[I", .fieldLink RX5 22 "GrayPointersModel" "snapshot" "[I", .fieldLink RX5 171 "GrayPointersModel" "isTaken" "I", .methodLink RX5 32 yX5_copy, .static yX5_copy, .initialized RX5, .code yX5_copy cX5_copy 3 none] ++ wsX50)
def wsX5_restore : List Cond := .code yX5_restore cX5_restore 1 (some .int) :: ([.fieldLink RX5 171 "GrayPointersModel" "isTaken" "I", .fieldLink RX5 22 "GrayPointersModel" "snapshot" "[I", .fieldLink RX5 7 "GrayPointersModel" "all" "[I", .methodLink RX5 108 yX5_remember, .instanceMethod yX5_remember, .selects RX5 yX5_remember yX5_remember, .initialized RX5, .code yX5_remember cX5_remember 1 none, .fieldLink RX5 13 "GrayPointersModel" "kept" "[I", .methodLink RX5 32 yX5_copy, .static yX5_copy, .code yX5_copy cX5_copy 3 none, .methodLink RX5 111 yX5_acted, .instanceMethod yX5_acted, .selects RX5 yX5_acted yX5_acted, .code yX5_acted cX5_acted 3 (some .int), .fieldLink RX5 36 "GrayPointersModel" "historyLong" "I", .fieldLink RX5 19 "GrayPointersModel" "history" "[I"] ++ wsX50)
def wsX5_isAlmost_r1 : List Cond := [Cond.fieldLink RX5 7 "GrayPointersModel" "all" "[I", Cond.methodLink RX5 58 yX5_fillSeen, Cond.instanceMethod yX5_fillSeen, Cond.selects RX5 yX5_fillSeen yX5_fillSeen, Cond.initialized RX5, Cond.code yX5_fillSeen cX5_fillSeen 2 (some .int), Cond.methodLink RX5 44 yX5_of, Cond.instanceMethod yX5_of, Cond.selects RX5 yX5_of yX5_of, Cond.code yX5_of cX5_of 3 (some .int), Cond.methodLink RX5 52 yX5_seen, Cond.instanceMethod yX5_seen, Cond.selects RX5 yX5_seen yX5_seen, Cond.code yX5_seen cX5_seen 2 (some .int), Cond.methodLink RX5 48 yX5_pointerOf, Cond.instanceMethod yX5_pointerOf, Cond.selects RX5 yX5_pointerOf yX5_pointerOf, Cond.code yX5_pointerOf cX5_pointerOf 5 (some .int), Cond.methodLink RX5 55 yX5_around, Cond.instanceMethod yX5_around, Cond.selects RX5 yX5_around yX5_around, Cond.code yX5_around cX5_around 2 (some .int), Cond.methodLink RX5 40 yX5_depth, Cond.instanceMethod yX5_depth]
def wsX5_isAlmost_r2 : List Cond := [Cond.selects RX5 yX5_depth yX5_depth, Cond.code yX5_depth cX5_depth 1 (some .int)]
def wsX5_isAlmost : List Cond := .code yX5_isAlmost cX5_isAlmost 2 (some .boolean) :: ((wsX5_isAlmost_r1 ++ wsX5_isAlmost_r2) ++ wsX50)
def wsX5_untilTick : List Cond := .code yX5_untilTick cX5_untilTick 3 (some .int) :: ([.fieldLink RX5 7 "GrayPointersModel" "all" "[I", .methodLink RX5 44 yX5_of, .instanceMethod yX5_of, .selects RX5 yX5_of yX5_of, .initialized RX5, .code yX5_of cX5_of 3 (some .int)] ++ wsX50)
def wsX5_side_r1 : List Cond := [Cond.methodLink RX5 114 yX5_isSide, Cond.static yX5_isSide, Cond.initialized RX5, Cond.code yX5_isSide cX5_isSide 1 (some .boolean), Cond.methodLink RX5 44 yX5_of, Cond.instanceMethod yX5_of, Cond.selects RX5 yX5_of yX5_of, Cond.code yX5_of cX5_of 3 (some .int), Cond.fieldLink RX5 7 "GrayPointersModel" "all" "[I", Cond.methodLink RX5 65 yX5_codeOf, Cond.instanceMethod yX5_codeOf, Cond.selects RX5 yX5_codeOf yX5_codeOf, Cond.code yX5_codeOf cX5_codeOf 2 (some .int), Cond.methodLink RX5 52 yX5_seen, Cond.instanceMethod yX5_seen, Cond.selects RX5 yX5_seen yX5_seen, Cond.code yX5_seen cX5_seen 2 (some .int), Cond.methodLink RX5 48 yX5_pointerOf, Cond.instanceMethod yX5_pointerOf, Cond.selects RX5 yX5_pointerOf yX5_pointerOf, Cond.code yX5_pointerOf cX5_pointerOf 5 (some .int), Cond.methodLink RX5 58 yX5_fillSeen, Cond.instanceMethod yX5_fillSeen, Cond.selects RX5 yX5_fillSeen yX5_fillSeen]
def wsX5_side_r2 : List Cond := [Cond.code yX5_fillSeen cX5_fillSeen 2 (some .int), Cond.methodLink RX5 55 yX5_around, Cond.instanceMethod yX5_around, Cond.selects RX5 yX5_around yX5_around, Cond.code yX5_around cX5_around 2 (some .int), Cond.methodLink RX5 40 yX5_depth, Cond.instanceMethod yX5_depth, Cond.selects RX5 yX5_depth yX5_depth, Cond.code yX5_depth cX5_depth 1 (some .int), Cond.methodLink RX5 61 yX5_seems, Cond.instanceMethod yX5_seems, Cond.selects RX5 yX5_seems yX5_seems, Cond.code yX5_seems cX5_seems 2 (some .boolean), Cond.methodLink RX5 174 yX5_isAlmost, Cond.instanceMethod yX5_isAlmost, Cond.selects RX5 yX5_isAlmost yX5_isAlmost, Cond.code yX5_isAlmost cX5_isAlmost 2 (some .boolean), Cond.methodLink RX5 177 yX5_untilTick, Cond.instanceMethod yX5_untilTick, Cond.selects RX5 yX5_untilTick yX5_untilTick, Cond.code yX5_untilTick cX5_untilTick 3 (some .int)]
def wsX5_side : List Cond := .code yX5_side cX5_side 3 (some .int) :: ((wsX5_side_r1 ++ wsX5_side_r2) ++ wsX50)
def wsX5_place : List Cond := .code yX5_place cX5_place 3 (some .int) :: ([.fieldLink RX5 7 "GrayPointersModel" "all" "[I", .methodLink RX5 40 yX5_depth, .instanceMethod yX5_depth, .selects RX5 yX5_depth yX5_depth, .initialized RX5, .code yX5_depth cX5_depth 1 (some .int), .methodLink RX5 104 yX5_in, .static yX5_in, .code yX5_in cX5_in 6 (some .boolean)] ++ wsX50)
def wsX5_waiting : List Cond := .code yX5_waiting cX5_waiting 2 (some .int) :: ([.fieldLink RX5 7 "GrayPointersModel" "all" "[I"] ++ wsX50)
def wsX5_taken : List Cond := .code yX5_taken cX5_taken 2 (some .int) :: ([.fieldLink RX5 7 "GrayPointersModel" "all" "[I"] ++ wsX50)
def wsX5_isDone : List Cond := .code yX5_isDone cX5_isDone 1 (some .boolean) :: ([.fieldLink RX5 7 "GrayPointersModel" "all" "[I"] ++ wsX50)
def wsX5_doneIn_r1 : List Cond := [Cond.fieldLink RX5 7 "GrayPointersModel" "all" "[I", Cond.fieldLink RX5 16 "GrayPointersModel" "tried" "[I", Cond.methodLink RX5 32 yX5_copy, Cond.static yX5_copy, Cond.initialized RX5, Cond.code yX5_copy cX5_copy 3 none, Cond.methodLink RX5 180 yX5_isDone, Cond.instanceMethod yX5_isDone, Cond.selects RX5 yX5_isDone yX5_isDone, Cond.code yX5_isDone cX5_isDone 1 (some .boolean), Cond.methodLink RX5 98 yX5_passes, Cond.instanceMethod yX5_passes, Cond.selects RX5 yX5_passes yX5_passes, Cond.code yX5_passes cX5_passes 9 (some .boolean), Cond.methodLink RX5 76 yX5_ticksAt, Cond.instanceMethod yX5_ticksAt, Cond.selects RX5 yX5_ticksAt yX5_ticksAt, Cond.code yX5_ticksAt cX5_ticksAt 3 (some .boolean), Cond.methodLink RX5 44 yX5_of, Cond.instanceMethod yX5_of, Cond.selects RX5 yX5_of yX5_of, Cond.code yX5_of cX5_of 3 (some .int), Cond.methodLink RX5 80 yX5_acts, Cond.instanceMethod yX5_acts]
def wsX5_doneIn_r2 : List Cond := [Cond.selects RX5 yX5_acts yX5_acts, Cond.code yX5_acts cX5_acts 3 (some .boolean), Cond.methodLink RX5 61 yX5_seems, Cond.instanceMethod yX5_seems, Cond.selects RX5 yX5_seems yX5_seems, Cond.code yX5_seems cX5_seems 2 (some .boolean), Cond.methodLink RX5 58 yX5_fillSeen, Cond.instanceMethod yX5_fillSeen, Cond.selects RX5 yX5_fillSeen yX5_fillSeen, Cond.code yX5_fillSeen cX5_fillSeen 2 (some .int), Cond.methodLink RX5 52 yX5_seen, Cond.instanceMethod yX5_seen, Cond.selects RX5 yX5_seen yX5_seen, Cond.code yX5_seen cX5_seen 2 (some .int), Cond.methodLink RX5 48 yX5_pointerOf, Cond.instanceMethod yX5_pointerOf, Cond.selects RX5 yX5_pointerOf yX5_pointerOf, Cond.code yX5_pointerOf cX5_pointerOf 5 (some .int), Cond.methodLink RX5 55 yX5_around, Cond.instanceMethod yX5_around, Cond.selects RX5 yX5_around yX5_around, Cond.code yX5_around cX5_around 2 (some .int), Cond.methodLink RX5 40 yX5_depth, Cond.instanceMethod yX5_depth]
def wsX5_doneIn_r3 : List Cond := [Cond.selects RX5 yX5_depth yX5_depth, Cond.code yX5_depth cX5_depth 1 (some .int), Cond.methodLink RX5 84 yX5_sampleOf, Cond.instanceMethod yX5_sampleOf, Cond.selects RX5 yX5_sampleOf yX5_sampleOf, Cond.code yX5_sampleOf cX5_sampleOf 5 (some .int), Cond.methodLink RX5 65 yX5_codeOf, Cond.instanceMethod yX5_codeOf, Cond.selects RX5 yX5_codeOf yX5_codeOf, Cond.code yX5_codeOf cX5_codeOf 2 (some .int), Cond.methodLink RX5 88 yX5_samples, Cond.instanceMethod yX5_samples, Cond.selects RX5 yX5_samples yX5_samples, Cond.code yX5_samples cX5_samples 4 none, Cond.methodLink RX5 68 yX5_to, Cond.instanceMethod yX5_to, Cond.selects RX5 yX5_to yX5_to, Cond.code yX5_to cX5_to 4 none, Cond.methodLink RX5 92 yX5_takes, Cond.instanceMethod yX5_takes, Cond.selects RX5 yX5_takes yX5_takes, Cond.code yX5_takes cX5_takes 3 none, Cond.methodLink RX5 72 yX5_tells, Cond.instanceMethod yX5_tells]
def wsX5_doneIn_r4 : List Cond := [Cond.selects RX5 yX5_tells yX5_tells, Cond.code yX5_tells cX5_tells 4 none, Cond.methodLink RX5 95 yX5_puts, Cond.instanceMethod yX5_puts, Cond.selects RX5 yX5_puts yX5_puts, Cond.code yX5_puts cX5_puts 3 none]
def wsX5_doneIn : List Cond := .code yX5_doneIn cX5_doneIn 2 (some .int) :: ((wsX5_doneIn_r1 ++ (wsX5_doneIn_r2 ++ (wsX5_doneIn_r3 ++ wsX5_doneIn_r4))) ++ wsX50)
def wsX5_isEnough_r1 : List Cond := [Cond.fieldLink RX5 16 "GrayPointersModel" "tried" "[I", Cond.fieldLink RX5 7 "GrayPointersModel" "all" "[I", Cond.methodLink RX5 32 yX5_copy, Cond.static yX5_copy, Cond.initialized RX5, Cond.code yX5_copy cX5_copy 3 none, Cond.methodLink RX5 28 yX5_builds, Cond.instanceMethod yX5_builds, Cond.selects RX5 yX5_builds yX5_builds, Cond.code yX5_builds cX5_builds 5 none, Cond.methodLink RX5 68 yX5_to, Cond.instanceMethod yX5_to, Cond.selects RX5 yX5_to yX5_to, Cond.code yX5_to cX5_to 4 none, Cond.methodLink RX5 125 yX5_waits, Cond.instanceMethod yX5_waits, Cond.selects RX5 yX5_waits yX5_waits, Cond.code yX5_waits cX5_waits 2 none, Cond.methodLink RX5 98 yX5_passes, Cond.instanceMethod yX5_passes, Cond.selects RX5 yX5_passes yX5_passes, Cond.code yX5_passes cX5_passes 9 (some .boolean), Cond.methodLink RX5 76 yX5_ticksAt, Cond.instanceMethod yX5_ticksAt]
def wsX5_isEnough_r2 : List Cond := [Cond.selects RX5 yX5_ticksAt yX5_ticksAt, Cond.code yX5_ticksAt cX5_ticksAt 3 (some .boolean), Cond.methodLink RX5 44 yX5_of, Cond.instanceMethod yX5_of, Cond.selects RX5 yX5_of yX5_of, Cond.code yX5_of cX5_of 3 (some .int), Cond.methodLink RX5 80 yX5_acts, Cond.instanceMethod yX5_acts, Cond.selects RX5 yX5_acts yX5_acts, Cond.code yX5_acts cX5_acts 3 (some .boolean), Cond.methodLink RX5 61 yX5_seems, Cond.instanceMethod yX5_seems, Cond.selects RX5 yX5_seems yX5_seems, Cond.code yX5_seems cX5_seems 2 (some .boolean), Cond.methodLink RX5 58 yX5_fillSeen, Cond.instanceMethod yX5_fillSeen, Cond.selects RX5 yX5_fillSeen yX5_fillSeen, Cond.code yX5_fillSeen cX5_fillSeen 2 (some .int), Cond.methodLink RX5 52 yX5_seen, Cond.instanceMethod yX5_seen, Cond.selects RX5 yX5_seen yX5_seen, Cond.code yX5_seen cX5_seen 2 (some .int), Cond.methodLink RX5 48 yX5_pointerOf, Cond.instanceMethod yX5_pointerOf]
def wsX5_isEnough_r3 : List Cond := [Cond.selects RX5 yX5_pointerOf yX5_pointerOf, Cond.code yX5_pointerOf cX5_pointerOf 5 (some .int), Cond.methodLink RX5 55 yX5_around, Cond.instanceMethod yX5_around, Cond.selects RX5 yX5_around yX5_around, Cond.code yX5_around cX5_around 2 (some .int), Cond.methodLink RX5 40 yX5_depth, Cond.instanceMethod yX5_depth, Cond.selects RX5 yX5_depth yX5_depth, Cond.code yX5_depth cX5_depth 1 (some .int), Cond.methodLink RX5 84 yX5_sampleOf, Cond.instanceMethod yX5_sampleOf, Cond.selects RX5 yX5_sampleOf yX5_sampleOf, Cond.code yX5_sampleOf cX5_sampleOf 5 (some .int), Cond.methodLink RX5 65 yX5_codeOf, Cond.instanceMethod yX5_codeOf, Cond.selects RX5 yX5_codeOf yX5_codeOf, Cond.code yX5_codeOf cX5_codeOf 2 (some .int), Cond.methodLink RX5 88 yX5_samples, Cond.instanceMethod yX5_samples, Cond.selects RX5 yX5_samples yX5_samples, Cond.code yX5_samples cX5_samples 4 none, Cond.methodLink RX5 92 yX5_takes, Cond.instanceMethod yX5_takes]
def wsX5_isEnough_r4 : List Cond := [Cond.selects RX5 yX5_takes yX5_takes, Cond.code yX5_takes cX5_takes 3 none, Cond.methodLink RX5 72 yX5_tells, Cond.instanceMethod yX5_tells, Cond.selects RX5 yX5_tells yX5_tells, Cond.code yX5_tells cX5_tells 4 none, Cond.methodLink RX5 95 yX5_puts, Cond.instanceMethod yX5_puts, Cond.selects RX5 yX5_puts yX5_puts, Cond.code yX5_puts cX5_puts 3 none]
def wsX5_isEnough : List Cond := .code yX5_isEnough cX5_isEnough 5 (some .boolean) :: ((wsX5_isEnough_r1 ++ (wsX5_isEnough_r2 ++ (wsX5_isEnough_r3 ++ wsX5_isEnough_r4))) ++ wsX50)
def wsX5_leastDepth_r1 : List Cond := [Cond.constantLong RX5 129 (500), Cond.fieldLink RX5 7 "GrayPointersModel" "all" "[I", Cond.fieldLink RX5 16 "GrayPointersModel" "tried" "[I", Cond.methodLink RX5 104 yX5_in, Cond.static yX5_in, Cond.initialized RX5, Cond.code yX5_in cX5_in 6 (some .boolean), Cond.methodLink RX5 32 yX5_copy, Cond.static yX5_copy, Cond.code yX5_copy cX5_copy 3 none, Cond.methodLink RX5 183 yX5_isEnough, Cond.instanceMethod yX5_isEnough, Cond.selects RX5 yX5_isEnough yX5_isEnough, Cond.code yX5_isEnough cX5_isEnough 5 (some .boolean), Cond.methodLink RX5 28 yX5_builds, Cond.instanceMethod yX5_builds, Cond.selects RX5 yX5_builds yX5_builds, Cond.code yX5_builds cX5_builds 5 none, Cond.methodLink RX5 68 yX5_to, Cond.instanceMethod yX5_to, Cond.selects RX5 yX5_to yX5_to, Cond.code yX5_to cX5_to 4 none, Cond.methodLink RX5 125 yX5_waits, Cond.instanceMethod yX5_waits]
def wsX5_leastDepth_r2 : List Cond := [Cond.selects RX5 yX5_waits yX5_waits, Cond.code yX5_waits cX5_waits 2 none, Cond.methodLink RX5 98 yX5_passes, Cond.instanceMethod yX5_passes, Cond.selects RX5 yX5_passes yX5_passes, Cond.code yX5_passes cX5_passes 9 (some .boolean), Cond.methodLink RX5 76 yX5_ticksAt, Cond.instanceMethod yX5_ticksAt, Cond.selects RX5 yX5_ticksAt yX5_ticksAt, Cond.code yX5_ticksAt cX5_ticksAt 3 (some .boolean), Cond.methodLink RX5 44 yX5_of, Cond.instanceMethod yX5_of, Cond.selects RX5 yX5_of yX5_of, Cond.code yX5_of cX5_of 3 (some .int), Cond.methodLink RX5 80 yX5_acts, Cond.instanceMethod yX5_acts, Cond.selects RX5 yX5_acts yX5_acts, Cond.code yX5_acts cX5_acts 3 (some .boolean), Cond.methodLink RX5 61 yX5_seems, Cond.instanceMethod yX5_seems, Cond.selects RX5 yX5_seems yX5_seems, Cond.code yX5_seems cX5_seems 2 (some .boolean), Cond.methodLink RX5 58 yX5_fillSeen, Cond.instanceMethod yX5_fillSeen]
def wsX5_leastDepth_r3 : List Cond := [Cond.selects RX5 yX5_fillSeen yX5_fillSeen, Cond.code yX5_fillSeen cX5_fillSeen 2 (some .int), Cond.methodLink RX5 52 yX5_seen, Cond.instanceMethod yX5_seen, Cond.selects RX5 yX5_seen yX5_seen, Cond.code yX5_seen cX5_seen 2 (some .int), Cond.methodLink RX5 48 yX5_pointerOf, Cond.instanceMethod yX5_pointerOf, Cond.selects RX5 yX5_pointerOf yX5_pointerOf, Cond.code yX5_pointerOf cX5_pointerOf 5 (some .int), Cond.methodLink RX5 55 yX5_around, Cond.instanceMethod yX5_around, Cond.selects RX5 yX5_around yX5_around, Cond.code yX5_around cX5_around 2 (some .int), Cond.methodLink RX5 40 yX5_depth, Cond.instanceMethod yX5_depth, Cond.selects RX5 yX5_depth yX5_depth, Cond.code yX5_depth cX5_depth 1 (some .int), Cond.methodLink RX5 84 yX5_sampleOf, Cond.instanceMethod yX5_sampleOf, Cond.selects RX5 yX5_sampleOf yX5_sampleOf, Cond.code yX5_sampleOf cX5_sampleOf 5 (some .int), Cond.methodLink RX5 65 yX5_codeOf, Cond.instanceMethod yX5_codeOf]
def wsX5_leastDepth_r4 : List Cond := [Cond.selects RX5 yX5_codeOf yX5_codeOf, Cond.code yX5_codeOf cX5_codeOf 2 (some .int), Cond.methodLink RX5 88 yX5_samples, Cond.instanceMethod yX5_samples, Cond.selects RX5 yX5_samples yX5_samples, Cond.code yX5_samples cX5_samples 4 none, Cond.methodLink RX5 92 yX5_takes, Cond.instanceMethod yX5_takes, Cond.selects RX5 yX5_takes yX5_takes, Cond.code yX5_takes cX5_takes 3 none, Cond.methodLink RX5 72 yX5_tells, Cond.instanceMethod yX5_tells, Cond.selects RX5 yX5_tells yX5_tells, Cond.code yX5_tells cX5_tells 4 none, Cond.methodLink RX5 95 yX5_puts, Cond.instanceMethod yX5_puts, Cond.selects RX5 yX5_puts yX5_puts, Cond.code yX5_puts cX5_puts 3 none]
def wsX5_leastDepth : List Cond := .code yX5_leastDepth cX5_leastDepth 3 (some .int) :: ((wsX5_leastDepth_r1 ++ (wsX5_leastDepth_r2 ++ (wsX5_leastDepth_r3 ++ wsX5_leastDepth_r4))) ++ wsX50)
def wsX5_count : List Cond := .code yX5_count cX5_count 2 (some .int) :: ([.fieldLink RX5 7 "GrayPointersModel" "all" "[I", .fieldLink RX5 36 "GrayPointersModel" "historyLong" "I", .fieldLink RX5 135 "GrayPointersModel" "textLong" "I", .methodLink RX5 40 yX5_depth, .instanceMethod yX5_depth, .selects RX5 yX5_depth yX5_depth, .initialized RX5, .code yX5_depth cX5_depth 1 (some .int), .methodLink RX5 44 yX5_of, .instanceMethod yX5_of, .selects RX5 yX5_of yX5_of, .code yX5_of cX5_of 3 (some .int), .methodLink RX5 55 yX5_around, .instanceMethod yX5_around, .selects RX5 yX5_around yX5_around, .code yX5_around cX5_around 2 (some .int)] ++ wsX50)
def wsL_law_r1 : List Cond := [Cond.classLink RL 7 RX4, Cond.instantiable RX4 6, Cond.initialized RX4, Cond.classLink RL 10 RX5, Cond.instantiable RX5 14, Cond.initialized RX5, Cond.methodLink RL 9 yX4_init, Cond.instanceMethod yX4_init, Cond.code yX4_init cX4_init 1 none, Cond.methodLink RX4 1 objectInit, Cond.instanceMethod objectInit, Cond.code objectInit ⟨#[0xb1]⟩ 1 none, Cond.classLink RX4 7 RX2, Cond.instantiable RX2 15, Cond.initialized RX2, Cond.fieldLink RX4 10 "GrayPointers" "state" "LGrayPointers$State;", Cond.fieldLink RX4 16 "GrayPointers" "trial" "LGrayPointers$State;", Cond.fieldLink RX4 19 "GrayPointers" "snapshot" "LGrayPointers$State;", Cond.classLink RX4 22 RX0, Cond.instantiable RX0 3, Cond.initialized RX0, Cond.fieldLink RX4 25 "GrayPointers" "history" "LGrayPointers$History;", Cond.classLink RX4 29 RX3, Cond.instantiable RX3 6]
def wsL_law_r2 : List Cond := [Cond.initialized RX3, Cond.fieldLink RX4 32 "GrayPointers" "text" "LGrayPointers$Text;", Cond.methodLink RX4 9 yX2_init, Cond.instanceMethod yX2_init, Cond.code yX2_init cX2_init 1 none, Cond.methodLink RX2 3 objectInit, Cond.fieldLink RX2 9 "GrayPointers$State" "k" "I", Cond.fieldLink RX2 15 "GrayPointers$State" "gray" "Z", Cond.fieldLink RX2 19 "GrayPointers$State" "nearFull" "I", Cond.fieldLink RX2 22 "GrayPointers$State" "nearEmpty" "I", Cond.classLink RX2 25 RX1, Cond.instantiable RX1 8, Cond.initialized RX1, Cond.fieldLink RX2 30 "GrayPointers$State" "writer" "LGrayPointers$Side;", Cond.fieldLink RX2 34 "GrayPointers$State" "reader" "LGrayPointers$Side;", Cond.arrayClass .int, Cond.fieldLink RX2 37 "GrayPointers$State" "words" "[I", Cond.fieldLink RX2 41 "GrayPointers$State" "numbers" "[I", Cond.fieldLink RX2 44 "GrayPointers$State" "waits" "[I", Cond.fieldLink RX2 47 "GrayPointers$State" "came" "[I", Cond.methodLink RX2 27 yX1_init, Cond.instanceMethod yX1_init, Cond.code yX1_init cX1_init 2 none, Cond.methodLink RX1 3 objectInit]
def wsL_law_r3 : List Cond := [Cond.fieldLink RX1 9 "GrayPointers$Side" "going" "Z", Cond.fieldLink RX1 15 "GrayPointers$Side" "period" "I", Cond.static yX4_fillRow, Cond.code yX4_fillRow cX4_fillRow 3 none, Cond.methodLink RX4 24 yX0_init, Cond.instanceMethod yX0_init, Cond.code yX0_init cX0_init 2 none, Cond.methodLink RX0 3 objectInit, Cond.classLink RX0 9 RX2, Cond.fieldLink RX0 11 "GrayPointers$History" "states" "[LGrayPointers$State;", Cond.methodLink RX0 17 yX2_init, Cond.instanceMethod yX3_init, Cond.code yX3_init cX3_init 1 none, Cond.methodLink RX3 3 objectInit, Cond.arrayClass .char, Cond.fieldLink RX3 9 "GrayPointers$Text" "signs" "[C", Cond.fieldLink RX3 15 "GrayPointers$Text" "partWords" "[I", Cond.fieldLink RX3 19 "GrayPointers$Text" "partTimes" "[I", Cond.methodLink RL 12 yX5_init, Cond.instanceMethod yX5_init, Cond.code yX5_init cX5_init 1 none, Cond.methodLink RX5 1 objectInit, Cond.fieldLink RX5 7 "GrayPointersModel" "all" "[I", Cond.fieldLink RX5 13 "GrayPointersModel" "kept" "[I"]
def wsL_law_r4 : List Cond := [Cond.fieldLink RX5 16 "GrayPointersModel" "tried" "[I", Cond.fieldLink RX5 19 "GrayPointersModel" "history" "[I", Cond.fieldLink RX5 22 "GrayPointersModel" "snapshot" "[I", Cond.fieldLink RX5 25 "GrayPointersModel" "text" "[I", Cond.methodLink RX5 28 yX5_builds, Cond.instanceMethod yX5_builds, Cond.selects RX5 yX5_builds yX5_builds, Cond.code yX5_builds cX5_builds 5 none, Cond.methodLink RX5 68 yX5_to, Cond.instanceMethod yX5_to, Cond.selects RX5 yX5_to yX5_to, Cond.code yX5_to cX5_to 4 none, Cond.methodLink RL 13 yX4_build, Cond.instanceMethod yX4_build, Cond.selects RX4 yX4_build yX4_build, Cond.code yX4_build cX4_build 3 (some .int), Cond.methodLink RX4 36 yX4_isWithin, Cond.static yX4_isWithin, Cond.code yX4_isWithin cX4_isWithin 3 (some .boolean), Cond.methodLink RX4 40 yX0_add, Cond.instanceMethod yX0_add, Cond.selects RX0 yX0_add yX0_add, Cond.code yX0_add cX0_add 3 none, Cond.fieldLink RX0 18 "GrayPointers$History" "size" "I"]
def wsL_law_r5 : List Cond := [Cond.fieldLink RX0 22 "GrayPointers$History" "oldest" "I", Cond.static yX4_remainder, Cond.code yX4_remainder cX4_remainder 2 (some .int), Cond.methodLink RX0 29 yX0_stateAt, Cond.instanceMethod yX0_stateAt, Cond.selects RX0 yX0_stateAt yX0_stateAt, Cond.code yX0_stateAt cX0_stateAt 3 (some (.object "GrayPointers$State")), Cond.methodLink RX0 33 yX2_copy, Cond.instanceMethod yX2_copy, Cond.selects RX2 yX2_copy yX2_copy, Cond.code yX2_copy cX2_copy 2 none, Cond.fieldLink RX2 96 "GrayPointers$State" "time" "I", Cond.fieldLink RX2 89 "GrayPointers$State" "waitCount" "I", Cond.fieldLink RX2 80 "GrayPointers$State" "putCount" "I", Cond.fieldLink RX2 83 "GrayPointers$State" "takenCount" "I", Cond.fieldLink RX2 86 "GrayPointers$State" "rightCount" "I", Cond.methodLink RX2 155 yX1_copy, Cond.instanceMethod yX1_copy, Cond.selects RX1 yX1_copy yX1_copy, Cond.code yX1_copy cX1_copy 2 none, Cond.fieldLink RX1 19 "GrayPointers$Side" "phase" "I", Cond.fieldLink RX1 38 "GrayPointers$Side" "pointer" "I", Cond.fieldLink RX1 32 "GrayPointers$Side" "first" "I", Cond.fieldLink RX1 35 "GrayPointers$Side" "second" "I"]
def wsL_law_r6 : List Cond := [Cond.fieldLink RX1 26 "GrayPointers$Side" "ticks" "I", Cond.fieldLink RX1 29 "GrayPointers$Side" "torn" "I", Cond.static yX4_copyRow, Cond.code yX4_copyRow cX4_copyRow 3 none, Cond.methodLink RX4 44 yX2_emptyRing, Cond.instanceMethod yX2_emptyRing, Cond.selects RX2 yX2_emptyRing yX2_emptyRing, Cond.code yX2_emptyRing cX2_emptyRing 3 none, Cond.methodLink RX2 77 yX1_clearPointers, Cond.instanceMethod yX1_clearPointers, Cond.selects RX1 yX1_clearPointers yX1_clearPointers, Cond.code yX1_clearPointers cX1_clearPointers 1 none, Cond.methodLink RX4 52 yX2_depth, Cond.instanceMethod yX2_depth, Cond.selects RX2 yX2_depth yX2_depth, Cond.code yX2_depth cX2_depth 1 (some .int), Cond.methodLink RL 17 yX5_build, Cond.instanceMethod yX5_build, Cond.selects RX5 yX5_build yX5_build, Cond.code yX5_build cX5_build 3 (some .int), Cond.constantLong RX5 102 (4), Cond.methodLink RX5 104 yX5_in, Cond.static yX5_in, Cond.code yX5_in cX5_in 6 (some .boolean)]
def wsL_law_r7 : List Cond := [Cond.methodLink RX5 108 yX5_remember, Cond.instanceMethod yX5_remember, Cond.selects RX5 yX5_remember yX5_remember, Cond.code yX5_remember cX5_remember 1 none, Cond.methodLink RX5 32 yX5_copy, Cond.static yX5_copy, Cond.code yX5_copy cX5_copy 3 none, Cond.methodLink RX5 40 yX5_depth, Cond.instanceMethod yX5_depth, Cond.selects RX5 yX5_depth yX5_depth, Cond.code yX5_depth cX5_depth 1 (some .int), Cond.methodLink RX5 111 yX5_acted, Cond.instanceMethod yX5_acted, Cond.selects RX5 yX5_acted yX5_acted, Cond.code yX5_acted cX5_acted 3 (some .int), Cond.fieldLink RX5 36 "GrayPointersModel" "historyLong" "I", Cond.methodLink RL 18 yX4_setClock, Cond.instanceMethod yX4_setClock, Cond.selects RX4 yX4_setClock yX4_setClock, Cond.code yX4_setClock cX4_setClock 6 (some .int), Cond.methodLink RX4 56 yX4_isSide, Cond.static yX4_isSide, Cond.code yX4_isSide cX4_isSide 1 (some .boolean), Cond.methodLink RX4 60 yX2_sideOf]
def wsL_law_r8 : List Cond := [Cond.instanceMethod yX2_sideOf, Cond.selects RX2 yX2_sideOf yX2_sideOf, Cond.code yX2_sideOf cX2_sideOf 2 (some (.object "GrayPointers$Side")), Cond.methodLink RL 22 yX5_setClock, Cond.instanceMethod yX5_setClock, Cond.selects RX5 yX5_setClock yX5_setClock, Cond.code yX5_setClock cX5_setClock 5 (some .int), Cond.constantLong RX5 117 (50), Cond.constantLong RX5 119 (49), Cond.methodLink RX5 114 yX5_isSide, Cond.static yX5_isSide, Cond.code yX5_isSide cX5_isSide 1 (some .boolean), Cond.methodLink RX5 44 yX5_of, Cond.instanceMethod yX5_of, Cond.selects RX5 yX5_of yX5_of, Cond.code yX5_of cX5_of 3 (some .int), Cond.methodLink RL 23 yX4_start, Cond.instanceMethod yX4_start, Cond.selects RX4 yX4_start yX4_start, Cond.code yX4_start cX4_start 4 (some .int), Cond.methodLink RL 26 yX5_start, Cond.instanceMethod yX5_start, Cond.selects RX5 yX5_start yX5_start, Cond.code yX5_start cX5_start 4 (some .int)]
def wsL_law_r9 : List Cond := [Cond.methodLink RL 27 yX4_set, Cond.instanceMethod yX4_set, Cond.selects RX4 yX4_set yX4_set, Cond.code yX4_set cX4_set 4 (some .int), Cond.methodLink RL 31 yX5_set, Cond.instanceMethod yX5_set, Cond.selects RX5 yX5_set yX5_set, Cond.code yX5_set cX5_set 4 (some .int), Cond.constantLong RX5 121 (15), Cond.methodLink RL 32 yX4_push, Cond.instanceMethod yX4_push, Cond.selects RX4 yX4_push yX4_push, Cond.code yX4_push cX4_push 2 (some .int), Cond.methodLink RX4 85 yX2_letWait, Cond.instanceMethod yX2_letWait, Cond.selects RX2 yX2_letWait yX2_letWait, Cond.code yX2_letWait cX2_letWait 4 (some .boolean), Cond.static yX4_setAt, Cond.code yX4_setAt cX4_setAt 3 none, Cond.methodLink RL 36 yX5_push, Cond.instanceMethod yX5_push, Cond.selects RX5 yX5_push yX5_push, Cond.code yX5_push cX5_push 2 (some .int), Cond.constantLong RX5 123 (99)]
def wsL_law_r10 : List Cond := [Cond.methodLink RX5 125 yX5_waits, Cond.instanceMethod yX5_waits, Cond.selects RX5 yX5_waits yX5_waits, Cond.code yX5_waits cX5_waits 2 none, Cond.methodLink RL 37 yX4_pushAll, Cond.instanceMethod yX4_pushAll, Cond.selects RX4 yX4_pushAll yX4_pushAll, Cond.code yX4_pushAll cX4_pushAll 2 (some .int), Cond.methodLink RX4 89 yX3_read, Cond.instanceMethod yX3_read, Cond.selects RX3 yX3_read yX3_read, Cond.code yX3_read cX3_read 2 (some .int), Cond.fieldLink RX3 26 "GrayPointers$Text" "parts" "I", Cond.fieldLink RX3 29 "GrayPointers$Text" "cursor" "I", Cond.fieldLink RX3 22 "GrayPointers$Text" "length" "I", Cond.methodLink RX3 32 yX3_readPart, Cond.instanceMethod yX3_readPart, Cond.selects RX3 yX3_readPart yX3_readPart, Cond.code yX3_readPart cX3_readPart 3 (some .boolean), Cond.methodLink RX3 36 yX3_readSign, Cond.instanceMethod yX3_readSign, Cond.selects RX3 yX3_readSign yX3_readSign, Cond.code yX3_readSign cX3_readSign 2 (some .boolean), Cond.methodLink RX3 56 yX3_hasSign]
def wsL_law_r11 : List Cond := [Cond.instanceMethod yX3_hasSign, Cond.selects RX3 yX3_hasSign yX3_hasSign, Cond.code yX3_hasSign cX3_hasSign 1 (some .boolean), Cond.methodLink RX3 44 yX3_readNumber, Cond.instanceMethod yX3_readNumber, Cond.selects RX3 yX3_readNumber yX3_readNumber, Cond.code yX3_readNumber cX3_readNumber 4 (some .int), Cond.methodLink RX3 52 yX3_digitAtCursor, Cond.instanceMethod yX3_digitAtCursor, Cond.selects RX3 yX3_digitAtCursor yX3_digitAtCursor, Cond.code yX3_digitAtCursor cX3_digitAtCursor 1 (some .int), Cond.methodLink RX3 48 yX3_addPart, Cond.instanceMethod yX3_addPart, Cond.selects RX3 yX3_addPart yX3_addPart, Cond.code yX3_addPart cX3_addPart 3 (some .boolean), Cond.methodLink RX4 92 yX2_copy, Cond.methodLink RX4 95 yX2_follow, Cond.instanceMethod yX2_follow, Cond.selects RX2 yX2_follow yX2_follow, Cond.code yX2_follow cX2_follow 5 (some .boolean), Cond.static yX4_valueAt, Cond.code yX4_valueAt cX4_valueAt 2 (some .int), Cond.methodLink RX2 118 yX2_letWait, Cond.methodLink RX2 122 yX2_hasTimeFor]
def wsL_law_r12 : List Cond := [Cond.instanceMethod yX2_hasTimeFor, Cond.selects RX2 yX2_hasTimeFor yX2_hasTimeFor, Cond.code yX2_hasTimeFor cX2_hasTimeFor 2 (some .boolean), Cond.constant RX2 99 (1000000), Cond.methodLink RX2 126 yX2_letPass, Cond.instanceMethod yX2_letPass, Cond.selects RX2 yX2_letPass yX2_letPass, Cond.code yX2_letPass cX2_letPass 3 none, Cond.methodLink RX2 100 yX2_step, Cond.instanceMethod yX2_step, Cond.selects RX2 yX2_step yX2_step, Cond.code yX2_step cX2_step 9 none, Cond.methodLink RX2 129 yX1_ticksAt, Cond.instanceMethod yX1_ticksAt, Cond.selects RX1 yX1_ticksAt yX1_ticksAt, Cond.code yX1_ticksAt cX1_ticksAt 2 (some .boolean), Cond.methodLink RX2 132 yX2_seemsFull, Cond.instanceMethod yX2_seemsFull, Cond.selects RX2 yX2_seemsFull yX2_seemsFull, Cond.code yX2_seemsFull cX2_seemsFull 1 (some .boolean), Cond.methodLink RX2 64 yX2_pointerOf, Cond.instanceMethod yX2_pointerOf, Cond.selects RX2 yX2_pointerOf yX2_pointerOf, Cond.code yX2_pointerOf cX2_pointerOf 4 (some .int)]
def wsL_law_r13 : List Cond := [Cond.methodLink RX2 54 yX2_depth, Cond.methodLink RX2 68 yX2_around, Cond.instanceMethod yX2_around, Cond.selects RX2 yX2_around yX2_around, Cond.code yX2_around cX2_around 2 (some .int), Cond.methodLink RX2 136 yX2_seemsEmpty, Cond.instanceMethod yX2_seemsEmpty, Cond.selects RX2 yX2_seemsEmpty yX2_seemsEmpty, Cond.code yX2_seemsEmpty cX2_seemsEmpty 1 (some .boolean), Cond.methodLink RX2 139 yX2_codeOf, Cond.instanceMethod yX2_codeOf, Cond.selects RX2 yX2_codeOf yX2_codeOf, Cond.code yX2_codeOf cX2_codeOf 2 (some .int), Cond.methodLink RX2 142 yX1_tick, Cond.instanceMethod yX1_tick, Cond.selects RX1 yX1_tick yX1_tick, Cond.code yX1_tick cX1_tick 4 none, Cond.methodLink RX2 146 yX2_takeWord, Cond.instanceMethod yX2_takeWord, Cond.selects RX2 yX2_takeWord yX2_takeWord, Cond.code yX2_takeWord cX2_takeWord 4 none, Cond.methodLink RX2 152 yX2_placeOf, Cond.instanceMethod yX2_placeOf, Cond.selects RX2 yX2_placeOf yX2_placeOf]
def wsL_law_r14 : List Cond := [Cond.code yX2_placeOf cX2_placeOf 2 (some .int), Cond.methodLink RX2 149 yX2_putWord, Cond.instanceMethod yX2_putWord, Cond.selects RX2 yX2_putWord yX2_putWord, Cond.code yX2_putWord cX2_putWord 3 none, Cond.methodLink RX4 99 yX3_wordsInParts, Cond.instanceMethod yX3_wordsInParts, Cond.selects RX3 yX3_wordsInParts yX3_wordsInParts, Cond.code yX3_wordsInParts cX3_wordsInParts 3 (some .int), Cond.methodLink RL 41 yX5_pushAll, Cond.instanceMethod yX5_pushAll, Cond.selects RX5 yX5_pushAll yX5_pushAll, Cond.code yX5_pushAll cX5_pushAll 3 (some .int), Cond.methodLink RX5 165 yX5_fault, Cond.instanceMethod yX5_fault, Cond.selects RX5 yX5_fault yX5_fault, Cond.code yX5_fault cX5_fault 2 (some .int), Cond.fieldLink RX5 138 "GrayPointersModel" "spot" "I", Cond.fieldLink RX5 135 "GrayPointersModel" "textLong" "I", Cond.methodLink RX5 162 yX5_readsPart, Cond.instanceMethod yX5_readsPart, Cond.selects RX5 yX5_readsPart yX5_readsPart, Cond.code yX5_readsPart cX5_readsPart 2 (some .boolean), Cond.fieldLink RX5 147 "GrayPointersModel" "oftenRead" "I"]
def wsL_law_r15 : List Cond := [Cond.fieldLink RX5 150 "GrayPointersModel" "timesRead" "I", Cond.fieldLink RX5 144 "GrayPointersModel" "number" "I", Cond.fieldLink RX5 159 "GrayPointersModel" "wordRead" "I", Cond.methodLink RX5 153 yX5_takesSign, Cond.instanceMethod yX5_takesSign, Cond.selects RX5 yX5_takesSign yX5_takesSign, Cond.code yX5_takesSign cX5_takesSign 3 (some .boolean), Cond.methodLink RX5 141 yX5_isHere, Cond.instanceMethod yX5_isHere, Cond.selects RX5 yX5_isHere yX5_isHere, Cond.code yX5_isHere cX5_isHere 3 (some .boolean), Cond.methodLink RX5 156 yX5_readsNumber, Cond.instanceMethod yX5_readsNumber, Cond.selects RX5 yX5_readsNumber yX5_readsNumber, Cond.code yX5_readsNumber cX5_readsNumber 2 (some .boolean), Cond.methodLink RX5 168 yX5_doesText, Cond.instanceMethod yX5_doesText, Cond.selects RX5 yX5_doesText yX5_doesText, Cond.code yX5_doesText cX5_doesText 5 (some .int), Cond.constant RX5 131 (1000000), Cond.methodLink RX5 132 yX5_passMany, Cond.instanceMethod yX5_passMany, Cond.selects RX5 yX5_passMany yX5_passMany, Cond.code yX5_passMany cX5_passMany 3 none]
def wsL_law_r16 : List Cond := [Cond.methodLink RX5 98 yX5_passes, Cond.instanceMethod yX5_passes, Cond.selects RX5 yX5_passes yX5_passes, Cond.code yX5_passes cX5_passes 9 (some .boolean), Cond.methodLink RX5 76 yX5_ticksAt, Cond.instanceMethod yX5_ticksAt, Cond.selects RX5 yX5_ticksAt yX5_ticksAt, Cond.code yX5_ticksAt cX5_ticksAt 3 (some .boolean), Cond.methodLink RX5 80 yX5_acts, Cond.instanceMethod yX5_acts, Cond.selects RX5 yX5_acts yX5_acts, Cond.code yX5_acts cX5_acts 3 (some .boolean), Cond.methodLink RX5 61 yX5_seems, Cond.instanceMethod yX5_seems, Cond.selects RX5 yX5_seems yX5_seems, Cond.code yX5_seems cX5_seems 2 (some .boolean), Cond.methodLink RX5 58 yX5_fillSeen, Cond.instanceMethod yX5_fillSeen, Cond.selects RX5 yX5_fillSeen yX5_fillSeen, Cond.code yX5_fillSeen cX5_fillSeen 2 (some .int), Cond.methodLink RX5 52 yX5_seen, Cond.instanceMethod yX5_seen, Cond.selects RX5 yX5_seen yX5_seen, Cond.code yX5_seen cX5_seen 2 (some .int)]
def wsL_law_r17 : List Cond := [Cond.methodLink RX5 48 yX5_pointerOf, Cond.instanceMethod yX5_pointerOf, Cond.selects RX5 yX5_pointerOf yX5_pointerOf, Cond.code yX5_pointerOf cX5_pointerOf 5 (some .int), Cond.methodLink RX5 55 yX5_around, Cond.instanceMethod yX5_around, Cond.selects RX5 yX5_around yX5_around, Cond.code yX5_around cX5_around 2 (some .int), Cond.methodLink RX5 84 yX5_sampleOf, Cond.instanceMethod yX5_sampleOf, Cond.selects RX5 yX5_sampleOf yX5_sampleOf, Cond.code yX5_sampleOf cX5_sampleOf 5 (some .int), Cond.methodLink RX5 65 yX5_codeOf, Cond.instanceMethod yX5_codeOf, Cond.selects RX5 yX5_codeOf yX5_codeOf, Cond.code yX5_codeOf cX5_codeOf 2 (some .int), Cond.methodLink RX5 88 yX5_samples, Cond.instanceMethod yX5_samples, Cond.selects RX5 yX5_samples yX5_samples, Cond.code yX5_samples cX5_samples 4 none, Cond.methodLink RX5 92 yX5_takes, Cond.instanceMethod yX5_takes, Cond.selects RX5 yX5_takes yX5_takes, Cond.code yX5_takes cX5_takes 3 none]
def wsL_law_r18 : List Cond := [Cond.methodLink RX5 72 yX5_tells, Cond.instanceMethod yX5_tells, Cond.selects RX5 yX5_tells yX5_tells, Cond.code yX5_tells cX5_tells 4 none, Cond.methodLink RX5 95 yX5_puts, Cond.instanceMethod yX5_puts, Cond.selects RX5 yX5_puts yX5_puts, Cond.code yX5_puts cX5_puts 3 none, Cond.methodLink RL 42 yX4_pass, Cond.instanceMethod yX4_pass, Cond.selects RX4 yX4_pass yX4_pass, Cond.code yX4_pass cX4_pass 3 (some .int), Cond.methodLink RX4 102 yX2_hasTimeFor, Cond.methodLink RX4 108 yX2_letPass, Cond.methodLink RL 45 yX5_pass, Cond.instanceMethod yX5_pass, Cond.selects RX5 yX5_pass yX5_pass, Cond.code yX5_pass cX5_pass 3 (some .int), Cond.constantLong RX5 129 (500), Cond.methodLink RL 46 yX4_type, Cond.instanceMethod yX4_type, Cond.selects RX4 yX4_type yX4_type, Cond.code yX4_type cX4_type 2 (some .int), Cond.methodLink RX4 112 yX3_append]
def wsL_law_r19 : List Cond := [Cond.instanceMethod yX3_append, Cond.selects RX3 yX3_append yX3_append, Cond.code yX3_append cX3_append 2 (some .boolean), Cond.methodLink RL 50 yX5_type, Cond.instanceMethod yX5_type, Cond.selects RX5 yX5_type yX5_type, Cond.code yX5_type cX5_type 2 (some .int), Cond.methodLink RL 51 yX4_clearText, Cond.instanceMethod yX4_clearText, Cond.selects RX4 yX4_clearText yX4_clearText, Cond.code yX4_clearText cX4_clearText 2 (some .int), Cond.methodLink RL 54 yX5_clearText, Cond.instanceMethod yX5_clearText, Cond.selects RX5 yX5_clearText yX5_clearText, Cond.code yX5_clearText cX5_clearText 2 (some .int), Cond.methodLink RL 55 yX4_undo, Cond.instanceMethod yX4_undo, Cond.selects RX4 yX4_undo yX4_undo, Cond.code yX4_undo cX4_undo 1 (some .int), Cond.methodLink RX4 119 yX0_moveLatestTo, Cond.instanceMethod yX0_moveLatestTo, Cond.selects RX0 yX0_moveLatestTo yX0_moveLatestTo, Cond.code yX0_moveLatestTo cX0_moveLatestTo 3 (some .boolean), Cond.methodLink RL 58 yX5_undo]
def wsL_law_r20 : List Cond := [Cond.instanceMethod yX5_undo, Cond.selects RX5 yX5_undo yX5_undo, Cond.code yX5_undo cX5_undo 2 (some .int), Cond.methodLink RL 59 yX4_keep, Cond.instanceMethod yX4_keep, Cond.selects RX4 yX4_keep yX4_keep, Cond.code yX4_keep cX4_keep 1 (some .int), Cond.fieldLink RX4 126 "GrayPointers" "snapshotTaken" "Z", Cond.methodLink RL 62 yX5_keep, Cond.instanceMethod yX5_keep, Cond.selects RX5 yX5_keep yX5_keep, Cond.code yX5_keep cX5_keep 1 (some .int), Cond.fieldLink RX5 171 "GrayPointersModel" "isTaken" "I", Cond.methodLink RL 63 yX4_restore, Cond.instanceMethod yX4_restore, Cond.selects RX4 yX4_restore yX4_restore, Cond.code yX4_restore cX4_restore 1 (some .int), Cond.methodLink RL 66 yX5_restore, Cond.instanceMethod yX5_restore, Cond.selects RX5 yX5_restore yX5_restore, Cond.code yX5_restore cX5_restore 1 (some .int), Cond.methodLink RL 67 yX4_side, Cond.instanceMethod yX4_side, Cond.selects RX4 yX4_side yX4_side]
def wsL_law_r21 : List Cond := [Cond.code yX4_side cX4_side 4 (some .int), Cond.methodLink RX4 129 yX4_asNumber, Cond.static yX4_asNumber, Cond.code yX4_asNumber cX4_asNumber 1 (some .int), Cond.methodLink RX4 136 yX2_codeOf, Cond.methodLink RX4 146 yX2_pointerOf, Cond.methodLink RX4 149 yX2_fillToWriter, Cond.instanceMethod yX2_fillToWriter, Cond.selects RX2 yX2_fillToWriter yX2_fillToWriter, Cond.code yX2_fillToWriter cX2_fillToWriter 1 (some .int), Cond.methodLink RX4 152 yX2_fillToReader, Cond.instanceMethod yX2_fillToReader, Cond.selects RX2 yX2_fillToReader yX2_fillToReader, Cond.code yX2_fillToReader cX2_fillToReader 1 (some .int), Cond.methodLink RX4 155 yX2_seemsFull, Cond.methodLink RX4 159 yX2_seemsEmpty, Cond.methodLink RX4 162 yX2_seemsNearFull, Cond.instanceMethod yX2_seemsNearFull, Cond.selects RX2 yX2_seemsNearFull yX2_seemsNearFull, Cond.code yX2_seemsNearFull cX2_seemsNearFull 1 (some .boolean), Cond.methodLink RX2 71 yX2_fillToWriter, Cond.methodLink RX4 165 yX2_seemsNearEmpty, Cond.instanceMethod yX2_seemsNearEmpty, Cond.selects RX2 yX2_seemsNearEmpty yX2_seemsNearEmpty]
def wsL_law_r22 : List Cond := [Cond.code yX2_seemsNearEmpty cX2_seemsNearEmpty 1 (some .boolean), Cond.methodLink RX2 74 yX2_fillToReader, Cond.methodLink RX4 168 yX1_timesToTick, Cond.instanceMethod yX1_timesToTick, Cond.selects RX1 yX1_timesToTick yX1_timesToTick, Cond.code yX1_timesToTick cX1_timesToTick 2 (some .int), Cond.methodLink RL 70 yX5_side, Cond.instanceMethod yX5_side, Cond.selects RX5 yX5_side yX5_side, Cond.code yX5_side cX5_side 3 (some .int), Cond.methodLink RX5 174 yX5_isAlmost, Cond.instanceMethod yX5_isAlmost, Cond.selects RX5 yX5_isAlmost yX5_isAlmost, Cond.code yX5_isAlmost cX5_isAlmost 2 (some .boolean), Cond.methodLink RX5 177 yX5_untilTick, Cond.instanceMethod yX5_untilTick, Cond.selects RX5 yX5_untilTick yX5_untilTick, Cond.code yX5_untilTick cX5_untilTick 3 (some .int), Cond.methodLink RL 71 yX4_place, Cond.instanceMethod yX4_place, Cond.selects RX4 yX4_place yX4_place, Cond.code yX4_place cX4_place 3 (some .int), Cond.methodLink RX4 181 yX4_valueAt, Cond.methodLink RL 74 yX5_place]
def wsL_law_r23 : List Cond := [Cond.instanceMethod yX5_place, Cond.selects RX5 yX5_place yX5_place, Cond.code yX5_place cX5_place 3 (some .int), Cond.methodLink RL 75 yX4_waiting, Cond.instanceMethod yX4_waiting, Cond.selects RX4 yX4_waiting yX4_waiting, Cond.code yX4_waiting cX4_waiting 2 (some .int), Cond.methodLink RL 78 yX5_waiting, Cond.instanceMethod yX5_waiting, Cond.selects RX5 yX5_waiting yX5_waiting, Cond.code yX5_waiting cX5_waiting 2 (some .int), Cond.methodLink RL 79 yX4_taken, Cond.instanceMethod yX4_taken, Cond.selects RX4 yX4_taken yX4_taken, Cond.code yX4_taken cX4_taken 2 (some .int), Cond.methodLink RX4 191 yX2_latestCame, Cond.instanceMethod yX2_latestCame, Cond.selects RX2 yX2_latestCame yX2_latestCame, Cond.code yX2_latestCame cX2_latestCame 2 (some .int), Cond.methodLink RL 82 yX5_taken, Cond.instanceMethod yX5_taken, Cond.selects RX5 yX5_taken yX5_taken, Cond.code yX5_taken cX5_taken 2 (some .int), Cond.methodLink RL 83 yX4_doneIn]
def wsL_law_r24 : List Cond := [Cond.instanceMethod yX4_doneIn, Cond.selects RX4 yX4_doneIn yX4_doneIn, Cond.code yX4_doneIn cX4_doneIn 2 (some .int), Cond.methodLink RX4 194 yX2_isDone, Cond.instanceMethod yX2_isDone, Cond.selects RX2 yX2_isDone yX2_isDone, Cond.code yX2_isDone cX2_isDone 1 (some .boolean), Cond.methodLink RX4 197 yX2_step, Cond.methodLink RL 86 yX5_doneIn, Cond.instanceMethod yX5_doneIn, Cond.selects RX5 yX5_doneIn yX5_doneIn, Cond.code yX5_doneIn cX5_doneIn 2 (some .int), Cond.methodLink RX5 180 yX5_isDone, Cond.instanceMethod yX5_isDone, Cond.selects RX5 yX5_isDone yX5_isDone, Cond.code yX5_isDone cX5_isDone 1 (some .boolean), Cond.methodLink RL 87 yX4_leastDepth, Cond.instanceMethod yX4_leastDepth, Cond.selects RX4 yX4_leastDepth yX4_leastDepth, Cond.code yX4_leastDepth cX4_leastDepth 3 (some .int), Cond.methodLink RX4 203 yX2_stallsWithin, Cond.instanceMethod yX2_stallsWithin, Cond.selects RX2 yX2_stallsWithin yX2_stallsWithin, Cond.code yX2_stallsWithin cX2_stallsWithin 3 (some .boolean)]
def wsL_law_r25 : List Cond := [Cond.methodLink RL 90 yX5_leastDepth, Cond.instanceMethod yX5_leastDepth, Cond.selects RX5 yX5_leastDepth yX5_leastDepth, Cond.code yX5_leastDepth cX5_leastDepth 3 (some .int), Cond.methodLink RX5 183 yX5_isEnough, Cond.instanceMethod yX5_isEnough, Cond.selects RX5 yX5_isEnough yX5_isEnough, Cond.code yX5_isEnough cX5_isEnough 5 (some .boolean), Cond.methodLink RL 91 yX4_count, Cond.instanceMethod yX4_count, Cond.selects RX4 yX4_count yX4_count, Cond.code yX4_count cX4_count 2 (some .int), Cond.methodLink RX4 216 yX2_around, Cond.methodLink RL 94 yX5_count, Cond.instanceMethod yX5_count, Cond.selects RX5 yX5_count yX5_count, Cond.code yX5_count cX5_count 2 (some .int)]
def wsL_law : List Cond := (wsL_law_r1 ++ (wsL_law_r2 ++ (wsL_law_r3 ++ (wsL_law_r4 ++ (wsL_law_r5 ++ (wsL_law_r6 ++ (wsL_law_r7 ++ (wsL_law_r8 ++ (wsL_law_r9 ++ (wsL_law_r10 ++ (wsL_law_r11 ++ (wsL_law_r12 ++ (wsL_law_r13 ++ (wsL_law_r14 ++ (wsL_law_r15 ++ (wsL_law_r16 ++ (wsL_law_r17 ++ (wsL_law_r18 ++ (wsL_law_r19 ++ (wsL_law_r20 ++ (wsL_law_r21 ++ (wsL_law_r22 ++ (wsL_law_r23 ++ (wsL_law_r24 ++ wsL_law_r25)))))))))))))))))))))))) ++ wsX40 ++ wsX50 ++ wsX20 ++ wsX00 ++ wsX30 ++ wsX10 ++ ([] : List Cond)
theorem wsL_law_r1_in : ∀ w ∈ wsL_law_r1, w ∈ lw_tbl := List.forall_mem_cons.mpr ⟨List.mem_of_getElem? (i := 48) (by decide +kernel), List.forall_mem_cons.mpr ⟨List.mem_of_getElem? (i := 49) (by decide +kernel), List.forall_mem_cons.mpr ⟨List.mem_of_getElem? (i := 42) (by decide +kernel), List.forall_mem_cons.mpr ⟨List.mem_of_getElem? (i := 515) (by decide +kernel), List.forall_mem_cons.mpr ⟨List.mem_of_getElem? (i := 516) (by decide +kernel), List.forall_mem_cons.mpr ⟨List.mem_of_getElem? (i := 47) (by decide +kernel), List.forall_mem_cons.mpr ⟨List.mem_of_getElem? (i := 50) (by decide +kernel), List.forall_mem_cons.mpr ⟨List.mem_of_getElem? (i := 51) (by decide +kernel), List.forall_mem_cons.mpr ⟨List.mem_of_getElem? (i := 52) (by decide +kernel), List.forall_mem_cons.mpr ⟨List.mem_of_getElem? (i := 53) (by decide +kernel), List.forall_mem_cons.mpr ⟨List.mem_of_getElem? (i := 54) (by decide +kernel), List.forall_mem_cons.mpr ⟨(by decide +kernel), List.forall_mem_cons.mpr ⟨List.mem_of_getElem? (i := 56) (by decide +kernel), List.forall_mem_cons.mpr ⟨List.mem_of_getElem? (i := 57) (by decide +kernel), List.forall_mem_cons.mpr ⟨List.mem_of_getElem? (i := 43) (by decide +kernel), List.forall_mem_cons.mpr ⟨List.mem_of_getElem? (i := 217) (by decide +kernel), List.forall_mem_cons.mpr ⟨List.mem_of_getElem? (i := 218) (by decide +kernel), List.forall_mem_cons.mpr ⟨List.mem_of_getElem? (i := 219) (by decide +kernel), List.forall_mem_cons.mpr ⟨List.mem_of_getElem? (i := 167) (by decide +kernel), List.forall_mem_cons.mpr ⟨List.mem_of_getElem? (i := 168) (by decide +kernel), List.forall_mem_cons.mpr ⟨List.mem_of_getElem? (i := 45) (by decide +kernel), List.forall_mem_cons.mpr ⟨List.mem_of_getElem? (i := 221) (by decide +kernel), List.forall_mem_cons.mpr ⟨List.mem_of_getElem? (i := 187) (by decide +kernel), List.forall_mem_cons.mpr ⟨List.mem_of_getElem? (i := 188) (by decide +kernel), fun _ h => absurd h List.not_mem_nil⟩⟩⟩⟩⟩⟩⟩⟩⟩⟩⟩⟩⟩⟩⟩⟩⟩⟩⟩⟩⟩⟩⟩⟩
theorem wsL_law_r2_in : ∀ w ∈ wsL_law_r2, w ∈ lw_tbl := List.forall_mem_cons.mpr ⟨List.mem_of_getElem? (i := 46) (by decide +kernel), List.forall_mem_cons.mpr ⟨List.mem_of_getElem? (i := 222) (by decide +kernel), List.forall_mem_cons.mpr ⟨List.mem_of_getElem? (i := 58) (by decide +kernel), List.forall_mem_cons.mpr ⟨List.mem_of_getElem? (i := 59) (by decide +kernel), List.forall_mem_cons.mpr ⟨List.mem_of_getElem? (i := 60) (by decide +kernel), List.forall_mem_cons.mpr ⟨List.mem_of_getElem? (i := 61) (by decide +kernel), List.forall_mem_cons.mpr ⟨List.mem_of_getElem? (i := 106) (by decide +kernel), List.forall_mem_cons.mpr ⟨List.mem_of_getElem? (i := 108) (by decide +kernel), List.forall_mem_cons.mpr ⟨List.mem_of_getElem? (i := 112) (by decide +kernel), List.forall_mem_cons.mpr ⟨List.mem_of_getElem? (i := 114) (by decide +kernel), List.forall_mem_cons.mpr ⟨List.mem_of_getElem? (i := 62) (by decide +kernel), List.forall_mem_cons.mpr ⟨List.mem_of_getElem? (i := 63) (by decide +kernel), List.forall_mem_cons.mpr ⟨List.mem_of_getElem? (i := 44) (by decide +kernel), List.forall_mem_cons.mpr ⟨List.mem_of_getElem? (i := 116) (by decide +kernel), List.forall_mem_cons.mpr ⟨List.mem_of_getElem? (i := 118) (by decide +kernel), List.forall_mem_cons.mpr ⟨List.mem_of_getElem? (i := 166) (by decide +kernel), List.forall_mem_cons.mpr ⟨List.mem_of_getElem? (i := 120) (by decide +kernel), List.forall_mem_cons.mpr ⟨List.mem_of_getElem? (i := 122) (by decide +kernel), List.forall_mem_cons.mpr ⟨List.mem_of_getElem? (i := 124) (by decide +kernel), List.forall_mem_cons.mpr ⟨List.mem_of_getElem? (i := 128) (by decide +kernel), List.forall_mem_cons.mpr ⟨List.mem_of_getElem? (i := 64) (by decide +kernel), List.forall_mem_cons.mpr ⟨List.mem_of_getElem? (i := 65) (by decide +kernel), List.forall_mem_cons.mpr ⟨List.mem_of_getElem? (i := 66) (by decide +kernel), List.forall_mem_cons.mpr ⟨List.mem_of_getElem? (i := 67) (by decide +kernel), fun _ h => absurd h List.not_mem_nil⟩⟩⟩⟩⟩⟩⟩⟩⟩⟩⟩⟩⟩⟩⟩⟩⟩⟩⟩⟩⟩⟩⟩⟩
theorem wsL_law_r3_in : ∀ w ∈ wsL_law_r3, w ∈ lw_tbl := List.forall_mem_cons.mpr ⟨List.mem_of_getElem? (i := 72) (by decide +kernel), List.forall_mem_cons.mpr ⟨List.mem_of_getElem? (i := 68) (by decide +kernel), List.forall_mem_cons.mpr ⟨List.mem_of_getElem? (i := 104) (by decide +kernel), List.forall_mem_cons.mpr ⟨List.mem_of_getElem? (i := 105) (by decide +kernel), List.forall_mem_cons.mpr ⟨List.mem_of_getElem? (i := 169) (by decide +kernel), List.forall_mem_cons.mpr ⟨List.mem_of_getElem? (i := 170) (by decide +kernel), List.forall_mem_cons.mpr ⟨List.mem_of_getElem? (i := 171) (by decide +kernel), List.forall_mem_cons.mpr ⟨List.mem_of_getElem? (i := 172) (by decide +kernel), List.forall_mem_cons.mpr ⟨List.mem_of_getElem? (i := 173) (by decide +kernel), List.forall_mem_cons.mpr ⟨List.mem_of_getElem? (i := 176) (by decide +kernel), List.forall_mem_cons.mpr ⟨List.mem_of_getElem? (i := 175) (by decide +kernel), List.forall_mem_cons.mpr ⟨List.mem_of_getElem? (i := 190) (by decide +kernel), List.forall_mem_cons.mpr ⟨List.mem_of_getElem? (i := 191) (by decide +kernel), List.forall_mem_cons.mpr ⟨List.mem_of_getElem? (i := 192) (by decide +kernel), List.forall_mem_cons.mpr ⟨List.mem_of_getElem? (i := 216) (by decide +kernel), List.forall_mem_cons.mpr ⟨List.mem_of_getElem? (i := 193) (by decide +kernel), List.forall_mem_cons.mpr ⟨List.mem_of_getElem? (i := 196) (by decide +kernel), List.forall_mem_cons.mpr ⟨List.mem_of_getElem? (i := 198) (by decide +kernel), List.forall_mem_cons.mpr ⟨List.mem_of_getElem? (i := 517) (by decide +kernel), List.forall_mem_cons.mpr ⟨List.mem_of_getElem? (i := 518) (by decide +kernel), List.forall_mem_cons.mpr ⟨List.mem_of_getElem? (i := 519) (by decide +kernel), List.forall_mem_cons.mpr ⟨List.mem_of_getElem? (i := 520) (by decide +kernel), List.forall_mem_cons.mpr ⟨List.mem_of_getElem? (i := 529) (by decide +kernel), List.forall_mem_cons.mpr ⟨List.mem_of_getElem? (i := 530) (by decide +kernel), fun _ h => absurd h List.not_mem_nil⟩⟩⟩⟩⟩⟩⟩⟩⟩⟩⟩⟩⟩⟩⟩⟩⟩⟩⟩⟩⟩⟩⟩⟩
theorem wsL_law_r4_in : ∀ w ∈ wsL_law_r4, w ∈ lw_tbl := List.forall_mem_cons.mpr ⟨List.mem_of_getElem? (i := 531) (by decide +kernel), List.forall_mem_cons.mpr ⟨List.mem_of_getElem? (i := 532) (by decide +kernel), List.forall_mem_cons.mpr ⟨List.mem_of_getElem? (i := 534) (by decide +kernel), List.forall_mem_cons.mpr ⟨List.mem_of_getElem? (i := 536) (by decide +kernel), List.forall_mem_cons.mpr ⟨List.mem_of_getElem? (i := 521) (by decide +kernel), List.forall_mem_cons.mpr ⟨List.mem_of_getElem? (i := 523) (by decide +kernel), List.forall_mem_cons.mpr ⟨List.mem_of_getElem? (i := 9) (by decide +kernel), List.forall_mem_cons.mpr ⟨List.mem_of_getElem? (i := 524) (by decide +kernel), List.forall_mem_cons.mpr ⟨List.mem_of_getElem? (i := 525) (by decide +kernel), List.forall_mem_cons.mpr ⟨List.mem_of_getElem? (i := 527) (by decide +kernel), List.forall_mem_cons.mpr ⟨List.mem_of_getElem? (i := 10) (by decide +kernel), List.forall_mem_cons.mpr ⟨List.mem_of_getElem? (i := 528) (by decide +kernel), List.forall_mem_cons.mpr ⟨List.mem_of_getElem? (i := 236) (by decide +kernel), List.forall_mem_cons.mpr ⟨List.mem_of_getElem? (i := 237) (by decide +kernel), List.forall_mem_cons.mpr ⟨List.mem_of_getElem? (i := 238) (by decide +kernel), List.forall_mem_cons.mpr ⟨List.mem_of_getElem? (i := 239) (by decide +kernel), List.forall_mem_cons.mpr ⟨List.mem_of_getElem? (i := 240) (by decide +kernel), List.forall_mem_cons.mpr ⟨List.mem_of_getElem? (i := 241) (by decide +kernel), List.forall_mem_cons.mpr ⟨List.mem_of_getElem? (i := 242) (by decide +kernel), List.forall_mem_cons.mpr ⟨List.mem_of_getElem? (i := 243) (by decide +kernel), List.forall_mem_cons.mpr ⟨List.mem_of_getElem? (i := 244) (by decide +kernel), List.forall_mem_cons.mpr ⟨List.mem_of_getElem? (i := 245) (by decide +kernel), List.forall_mem_cons.mpr ⟨List.mem_of_getElem? (i := 246) (by decide +kernel), List.forall_mem_cons.mpr ⟨List.mem_of_getElem? (i := 178) (by decide +kernel), fun _ h => absurd h List.not_mem_nil⟩⟩⟩⟩⟩⟩⟩⟩⟩⟩⟩⟩⟩⟩⟩⟩⟩⟩⟩⟩⟩⟩⟩⟩
theorem wsL_law_r5_in : ∀ w ∈ wsL_law_r5, w ∈ lw_tbl := List.forall_mem_cons.mpr ⟨List.mem_of_getElem? (i := 177) (by decide +kernel), List.forall_mem_cons.mpr ⟨List.mem_of_getElem? (i := 248) (by decide +kernel), List.forall_mem_cons.mpr ⟨List.mem_of_getElem? (i := 249) (by decide +kernel), List.forall_mem_cons.mpr ⟨List.mem_of_getElem? (i := 250) (by decide +kernel), List.forall_mem_cons.mpr ⟨List.mem_of_getElem? (i := 252) (by decide +kernel), List.forall_mem_cons.mpr ⟨List.mem_of_getElem? (i := 0) (by decide +kernel), List.forall_mem_cons.mpr ⟨List.mem_of_getElem? (i := 253) (by decide +kernel), List.forall_mem_cons.mpr ⟨List.mem_of_getElem? (i := 254) (by decide +kernel), List.forall_mem_cons.mpr ⟨List.mem_of_getElem? (i := 255) (by decide +kernel), List.forall_mem_cons.mpr ⟨List.mem_of_getElem? (i := 256) (by decide +kernel), List.forall_mem_cons.mpr ⟨List.mem_of_getElem? (i := 257) (by decide +kernel), List.forall_mem_cons.mpr ⟨List.mem_of_getElem? (i := 111) (by decide +kernel), List.forall_mem_cons.mpr ⟨List.mem_of_getElem? (i := 127) (by decide +kernel), List.forall_mem_cons.mpr ⟨List.mem_of_getElem? (i := 129) (by decide +kernel), List.forall_mem_cons.mpr ⟨List.mem_of_getElem? (i := 132) (by decide +kernel), List.forall_mem_cons.mpr ⟨List.mem_of_getElem? (i := 133) (by decide +kernel), List.forall_mem_cons.mpr ⟨List.mem_of_getElem? (i := 258) (by decide +kernel), List.forall_mem_cons.mpr ⟨List.mem_of_getElem? (i := 259) (by decide +kernel), List.forall_mem_cons.mpr ⟨List.mem_of_getElem? (i := 260) (by decide +kernel), List.forall_mem_cons.mpr ⟨List.mem_of_getElem? (i := 261) (by decide +kernel), List.forall_mem_cons.mpr ⟨List.mem_of_getElem? (i := 70) (by decide +kernel), List.forall_mem_cons.mpr ⟨List.mem_of_getElem? (i := 74) (by decide +kernel), List.forall_mem_cons.mpr ⟨List.mem_of_getElem? (i := 77) (by decide +kernel), List.forall_mem_cons.mpr ⟨List.mem_of_getElem? (i := 79) (by decide +kernel), fun _ h => absurd h List.not_mem_nil⟩⟩⟩⟩⟩⟩⟩⟩⟩⟩⟩⟩⟩⟩⟩⟩⟩⟩⟩⟩⟩⟩⟩⟩
theorem wsL_law_r6_in : ∀ w ∈ wsL_law_r6, w ∈ lw_tbl := List.forall_mem_cons.mpr ⟨List.mem_of_getElem? (i := 82) (by decide +kernel), List.forall_mem_cons.mpr ⟨List.mem_of_getElem? (i := 84) (by decide +kernel), List.forall_mem_cons.mpr ⟨List.mem_of_getElem? (i := 263) (by decide +kernel), List.forall_mem_cons.mpr ⟨List.mem_of_getElem? (i := 264) (by decide +kernel), List.forall_mem_cons.mpr ⟨List.mem_of_getElem? (i := 265) (by decide +kernel), List.forall_mem_cons.mpr ⟨List.mem_of_getElem? (i := 266) (by decide +kernel), List.forall_mem_cons.mpr ⟨List.mem_of_getElem? (i := 267) (by decide +kernel), List.forall_mem_cons.mpr ⟨List.mem_of_getElem? (i := 268) (by decide +kernel), List.forall_mem_cons.mpr ⟨List.mem_of_getElem? (i := 269) (by decide +kernel), List.forall_mem_cons.mpr ⟨List.mem_of_getElem? (i := 270) (by decide +kernel), List.forall_mem_cons.mpr ⟨List.mem_of_getElem? (i := 271) (by decide +kernel), List.forall_mem_cons.mpr ⟨List.mem_of_getElem? (i := 272) (by decide +kernel), List.forall_mem_cons.mpr ⟨List.mem_of_getElem? (i := 273) (by decide +kernel), List.forall_mem_cons.mpr ⟨List.mem_of_getElem? (i := 274) (by decide +kernel), List.forall_mem_cons.mpr ⟨List.mem_of_getElem? (i := 275) (by decide +kernel), List.forall_mem_cons.mpr ⟨List.mem_of_getElem? (i := 276) (by decide +kernel), List.forall_mem_cons.mpr ⟨List.mem_of_getElem? (i := 572) (by decide +kernel), List.forall_mem_cons.mpr ⟨List.mem_of_getElem? (i := 573) (by decide +kernel), List.forall_mem_cons.mpr ⟨List.mem_of_getElem? (i := 574) (by decide +kernel), List.forall_mem_cons.mpr ⟨List.mem_of_getElem? (i := 575) (by decide +kernel), List.forall_mem_cons.mpr ⟨List.mem_of_getElem? (i := 576) (by decide +kernel), List.forall_mem_cons.mpr ⟨List.mem_of_getElem? (i := 577) (by decide +kernel), List.forall_mem_cons.mpr ⟨List.mem_of_getElem? (i := 578) (by decide +kernel), List.forall_mem_cons.mpr ⟨List.mem_of_getElem? (i := 579) (by decide +kernel), fun _ h => absurd h List.not_mem_nil⟩⟩⟩⟩⟩⟩⟩⟩⟩⟩⟩⟩⟩⟩⟩⟩⟩⟩⟩⟩⟩⟩⟩⟩
theorem wsL_law_r7_in : ∀ w ∈ wsL_law_r7, w ∈ lw_tbl := List.forall_mem_cons.mpr ⟨List.mem_of_getElem? (i := 580) (by decide +kernel), List.forall_mem_cons.mpr ⟨List.mem_of_getElem? (i := 582) (by decide +kernel), List.forall_mem_cons.mpr ⟨List.mem_of_getElem? (i := 11) (by decide +kernel), List.forall_mem_cons.mpr ⟨List.mem_of_getElem? (i := 583) (by decide +kernel), List.forall_mem_cons.mpr ⟨List.mem_of_getElem? (i := 584) (by decide +kernel), List.forall_mem_cons.mpr ⟨List.mem_of_getElem? (i := 585) (by decide +kernel), List.forall_mem_cons.mpr ⟨List.mem_of_getElem? (i := 586) (by decide +kernel), List.forall_mem_cons.mpr ⟨List.mem_of_getElem? (i := 587) (by decide +kernel), List.forall_mem_cons.mpr ⟨List.mem_of_getElem? (i := 589) (by decide +kernel), List.forall_mem_cons.mpr ⟨List.mem_of_getElem? (i := 12) (by decide +kernel), List.forall_mem_cons.mpr ⟨List.mem_of_getElem? (i := 590) (by decide +kernel), List.forall_mem_cons.mpr ⟨List.mem_of_getElem? (i := 591) (by decide +kernel), List.forall_mem_cons.mpr ⟨List.mem_of_getElem? (i := 593) (by decide +kernel), List.forall_mem_cons.mpr ⟨List.mem_of_getElem? (i := 13) (by decide +kernel), List.forall_mem_cons.mpr ⟨List.mem_of_getElem? (i := 594) (by decide +kernel), List.forall_mem_cons.mpr ⟨List.mem_of_getElem? (i := 533) (by decide +kernel), List.forall_mem_cons.mpr ⟨List.mem_of_getElem? (i := 277) (by decide +kernel), List.forall_mem_cons.mpr ⟨List.mem_of_getElem? (i := 278) (by decide +kernel), List.forall_mem_cons.mpr ⟨List.mem_of_getElem? (i := 279) (by decide +kernel), List.forall_mem_cons.mpr ⟨List.mem_of_getElem? (i := 280) (by decide +kernel), List.forall_mem_cons.mpr ⟨List.mem_of_getElem? (i := 281) (by decide +kernel), List.forall_mem_cons.mpr ⟨List.mem_of_getElem? (i := 282) (by decide +kernel), List.forall_mem_cons.mpr ⟨List.mem_of_getElem? (i := 283) (by decide +kernel), List.forall_mem_cons.mpr ⟨List.mem_of_getElem? (i := 284) (by decide +kernel), fun _ h => absurd h List.not_mem_nil⟩⟩⟩⟩⟩⟩⟩⟩⟩⟩⟩⟩⟩⟩⟩⟩⟩⟩⟩⟩⟩⟩⟩⟩
theorem wsL_law_r8_in : ∀ w ∈ wsL_law_r8, w ∈ lw_tbl := List.forall_mem_cons.mpr ⟨List.mem_of_getElem? (i := 285) (by decide +kernel), List.forall_mem_cons.mpr ⟨List.mem_of_getElem? (i := 286) (by decide +kernel), List.forall_mem_cons.mpr ⟨List.mem_of_getElem? (i := 287) (by decide +kernel), List.forall_mem_cons.mpr ⟨List.mem_of_getElem? (i := 595) (by decide +kernel), List.forall_mem_cons.mpr ⟨List.mem_of_getElem? (i := 596) (by decide +kernel), List.forall_mem_cons.mpr ⟨List.mem_of_getElem? (i := 597) (by decide +kernel), List.forall_mem_cons.mpr ⟨List.mem_of_getElem? (i := 598) (by decide +kernel), List.forall_mem_cons.mpr ⟨List.mem_of_getElem? (i := 602) (by decide +kernel), List.forall_mem_cons.mpr ⟨List.mem_of_getElem? (i := 603) (by decide +kernel), List.forall_mem_cons.mpr ⟨List.mem_of_getElem? (i := 599) (by decide +kernel), List.forall_mem_cons.mpr ⟨List.mem_of_getElem? (i := 600) (by decide +kernel), List.forall_mem_cons.mpr ⟨List.mem_of_getElem? (i := 601) (by decide +kernel), List.forall_mem_cons.mpr ⟨List.mem_of_getElem? (i := 604) (by decide +kernel), List.forall_mem_cons.mpr ⟨List.mem_of_getElem? (i := 606) (by decide +kernel), List.forall_mem_cons.mpr ⟨List.mem_of_getElem? (i := 14) (by decide +kernel), List.forall_mem_cons.mpr ⟨List.mem_of_getElem? (i := 607) (by decide +kernel), List.forall_mem_cons.mpr ⟨List.mem_of_getElem? (i := 288) (by decide +kernel), List.forall_mem_cons.mpr ⟨List.mem_of_getElem? (i := 289) (by decide +kernel), List.forall_mem_cons.mpr ⟨List.mem_of_getElem? (i := 290) (by decide +kernel), List.forall_mem_cons.mpr ⟨List.mem_of_getElem? (i := 291) (by decide +kernel), List.forall_mem_cons.mpr ⟨List.mem_of_getElem? (i := 608) (by decide +kernel), List.forall_mem_cons.mpr ⟨List.mem_of_getElem? (i := 609) (by decide +kernel), List.forall_mem_cons.mpr ⟨List.mem_of_getElem? (i := 610) (by decide +kernel), List.forall_mem_cons.mpr ⟨List.mem_of_getElem? (i := 611) (by decide +kernel), fun _ h => absurd h List.not_mem_nil⟩⟩⟩⟩⟩⟩⟩⟩⟩⟩⟩⟩⟩⟩⟩⟩⟩⟩⟩⟩⟩⟩⟩⟩
theorem wsL_law_r9_in : ∀ w ∈ wsL_law_r9, w ∈ lw_tbl := List.forall_mem_cons.mpr ⟨List.mem_of_getElem? (i := 292) (by decide +kernel), List.forall_mem_cons.mpr ⟨List.mem_of_getElem? (i := 293) (by decide +kernel), List.forall_mem_cons.mpr ⟨List.mem_of_getElem? (i := 294) (by decide +kernel), List.forall_mem_cons.mpr ⟨List.mem_of_getElem? (i := 295) (by decide +kernel), List.forall_mem_cons.mpr ⟨List.mem_of_getElem? (i := 612) (by decide +kernel), List.forall_mem_cons.mpr ⟨List.mem_of_getElem? (i := 613) (by decide +kernel), List.forall_mem_cons.mpr ⟨List.mem_of_getElem? (i := 614) (by decide +kernel), List.forall_mem_cons.mpr ⟨List.mem_of_getElem? (i := 615) (by decide +kernel), List.forall_mem_cons.mpr ⟨List.mem_of_getElem? (i := 616) (by decide +kernel), List.forall_mem_cons.mpr ⟨List.mem_of_getElem? (i := 296) (by decide +kernel), List.forall_mem_cons.mpr ⟨List.mem_of_getElem? (i := 297) (by decide +kernel), List.forall_mem_cons.mpr ⟨List.mem_of_getElem? (i := 298) (by decide +kernel), List.forall_mem_cons.mpr ⟨List.mem_of_getElem? (i := 299) (by decide +kernel), List.forall_mem_cons.mpr ⟨List.mem_of_getElem? (i := 300) (by decide +kernel), List.forall_mem_cons.mpr ⟨List.mem_of_getElem? (i := 301) (by decide +kernel), List.forall_mem_cons.mpr ⟨List.mem_of_getElem? (i := 302) (by decide +kernel), List.forall_mem_cons.mpr ⟨List.mem_of_getElem? (i := 303) (by decide +kernel), List.forall_mem_cons.mpr ⟨List.mem_of_getElem? (i := 305) (by decide +kernel), List.forall_mem_cons.mpr ⟨List.mem_of_getElem? (i := 306) (by decide +kernel), List.forall_mem_cons.mpr ⟨List.mem_of_getElem? (i := 617) (by decide +kernel), List.forall_mem_cons.mpr ⟨List.mem_of_getElem? (i := 618) (by decide +kernel), List.forall_mem_cons.mpr ⟨List.mem_of_getElem? (i := 619) (by decide +kernel), List.forall_mem_cons.mpr ⟨List.mem_of_getElem? (i := 620) (by decide +kernel), List.forall_mem_cons.mpr ⟨List.mem_of_getElem? (i := 621) (by decide +kernel), fun _ h => absurd h List.not_mem_nil⟩⟩⟩⟩⟩⟩⟩⟩⟩⟩⟩⟩⟩⟩⟩⟩⟩⟩⟩⟩⟩⟩⟩⟩
theorem wsL_law_r10_in : ∀ w ∈ wsL_law_r10, w ∈ lw_tbl := List.forall_mem_cons.mpr ⟨List.mem_of_getElem? (i := 622) (by decide +kernel), List.forall_mem_cons.mpr ⟨List.mem_of_getElem? (i := 624) (by decide +kernel), List.forall_mem_cons.mpr ⟨List.mem_of_getElem? (i := 15) (by decide +kernel), List.forall_mem_cons.mpr ⟨List.mem_of_getElem? (i := 625) (by decide +kernel), List.forall_mem_cons.mpr ⟨List.mem_of_getElem? (i := 307) (by decide +kernel), List.forall_mem_cons.mpr ⟨List.mem_of_getElem? (i := 308) (by decide +kernel), List.forall_mem_cons.mpr ⟨List.mem_of_getElem? (i := 309) (by decide +kernel), List.forall_mem_cons.mpr ⟨List.mem_of_getElem? (i := 310) (by decide +kernel), List.forall_mem_cons.mpr ⟨List.mem_of_getElem? (i := 311) (by decide +kernel), List.forall_mem_cons.mpr ⟨List.mem_of_getElem? (i := 312) (by decide +kernel), List.forall_mem_cons.mpr ⟨List.mem_of_getElem? (i := 313) (by decide +kernel), List.forall_mem_cons.mpr ⟨List.mem_of_getElem? (i := 314) (by decide +kernel), List.forall_mem_cons.mpr ⟨List.mem_of_getElem? (i := 200) (by decide +kernel), List.forall_mem_cons.mpr ⟨List.mem_of_getElem? (i := 202) (by decide +kernel), List.forall_mem_cons.mpr ⟨List.mem_of_getElem? (i := 194) (by decide +kernel), List.forall_mem_cons.mpr ⟨List.mem_of_getElem? (i := 315) (by decide +kernel), List.forall_mem_cons.mpr ⟨List.mem_of_getElem? (i := 317) (by decide +kernel), List.forall_mem_cons.mpr ⟨List.mem_of_getElem? (i := 1) (by decide +kernel), List.forall_mem_cons.mpr ⟨List.mem_of_getElem? (i := 318) (by decide +kernel), List.forall_mem_cons.mpr ⟨List.mem_of_getElem? (i := 319) (by decide +kernel), List.forall_mem_cons.mpr ⟨List.mem_of_getElem? (i := 321) (by decide +kernel), List.forall_mem_cons.mpr ⟨List.mem_of_getElem? (i := 2) (by decide +kernel), List.forall_mem_cons.mpr ⟨List.mem_of_getElem? (i := 322) (by decide +kernel), List.forall_mem_cons.mpr ⟨List.mem_of_getElem? (i := 323) (by decide +kernel), fun _ h => absurd h List.not_mem_nil⟩⟩⟩⟩⟩⟩⟩⟩⟩⟩⟩⟩⟩⟩⟩⟩⟩⟩⟩⟩⟩⟩⟩⟩
theorem wsL_law_r11_in : ∀ w ∈ wsL_law_r11, w ∈ lw_tbl := List.forall_mem_cons.mpr ⟨List.mem_of_getElem? (i := 325) (by decide +kernel), List.forall_mem_cons.mpr ⟨List.mem_of_getElem? (i := 3) (by decide +kernel), List.forall_mem_cons.mpr ⟨List.mem_of_getElem? (i := 326) (by decide +kernel), List.forall_mem_cons.mpr ⟨List.mem_of_getElem? (i := 327) (by decide +kernel), List.forall_mem_cons.mpr ⟨List.mem_of_getElem? (i := 329) (by decide +kernel), List.forall_mem_cons.mpr ⟨List.mem_of_getElem? (i := 4) (by decide +kernel), List.forall_mem_cons.mpr ⟨List.mem_of_getElem? (i := 330) (by decide +kernel), List.forall_mem_cons.mpr ⟨List.mem_of_getElem? (i := 331) (by decide +kernel), List.forall_mem_cons.mpr ⟨List.mem_of_getElem? (i := 333) (by decide +kernel), List.forall_mem_cons.mpr ⟨List.mem_of_getElem? (i := 5) (by decide +kernel), List.forall_mem_cons.mpr ⟨List.mem_of_getElem? (i := 334) (by decide +kernel), List.forall_mem_cons.mpr ⟨List.mem_of_getElem? (i := 335) (by decide +kernel), List.forall_mem_cons.mpr ⟨List.mem_of_getElem? (i := 337) (by decide +kernel), List.forall_mem_cons.mpr ⟨List.mem_of_getElem? (i := 6) (by decide +kernel), List.forall_mem_cons.mpr ⟨List.mem_of_getElem? (i := 338) (by decide +kernel), List.forall_mem_cons.mpr ⟨List.mem_of_getElem? (i := 340) (by decide +kernel), List.forall_mem_cons.mpr ⟨List.mem_of_getElem? (i := 341) (by decide +kernel), List.forall_mem_cons.mpr ⟨List.mem_of_getElem? (i := 342) (by decide +kernel), List.forall_mem_cons.mpr ⟨List.mem_of_getElem? (i := 343) (by decide +kernel), List.forall_mem_cons.mpr ⟨List.mem_of_getElem? (i := 344) (by decide +kernel), List.forall_mem_cons.mpr ⟨List.mem_of_getElem? (i := 346) (by decide +kernel), List.forall_mem_cons.mpr ⟨List.mem_of_getElem? (i := 347) (by decide +kernel), List.forall_mem_cons.mpr ⟨List.mem_of_getElem? (i := 348) (by decide +kernel), List.forall_mem_cons.mpr ⟨List.mem_of_getElem? (i := 349) (by decide +kernel), fun _ h => absurd h List.not_mem_nil⟩⟩⟩⟩⟩⟩⟩⟩⟩⟩⟩⟩⟩⟩⟩⟩⟩⟩⟩⟩⟩⟩⟩⟩
theorem wsL_law_r12_in : ∀ w ∈ wsL_law_r12, w ∈ lw_tbl := List.forall_mem_cons.mpr ⟨List.mem_of_getElem? (i := 350) (by decide +kernel), List.forall_mem_cons.mpr ⟨List.mem_of_getElem? (i := 351) (by decide +kernel), List.forall_mem_cons.mpr ⟨List.mem_of_getElem? (i := 352) (by decide +kernel), List.forall_mem_cons.mpr ⟨List.mem_of_getElem? (i := 353) (by decide +kernel), List.forall_mem_cons.mpr ⟨List.mem_of_getElem? (i := 354) (by decide +kernel), List.forall_mem_cons.mpr ⟨List.mem_of_getElem? (i := 355) (by decide +kernel), List.forall_mem_cons.mpr ⟨List.mem_of_getElem? (i := 356) (by decide +kernel), List.forall_mem_cons.mpr ⟨List.mem_of_getElem? (i := 357) (by decide +kernel), List.forall_mem_cons.mpr ⟨List.mem_of_getElem? (i := 358) (by decide +kernel), List.forall_mem_cons.mpr ⟨List.mem_of_getElem? (i := 359) (by decide +kernel), List.forall_mem_cons.mpr ⟨List.mem_of_getElem? (i := 360) (by decide +kernel), List.forall_mem_cons.mpr ⟨List.mem_of_getElem? (i := 361) (by decide +kernel), List.forall_mem_cons.mpr ⟨List.mem_of_getElem? (i := 362) (by decide +kernel), List.forall_mem_cons.mpr ⟨List.mem_of_getElem? (i := 363) (by decide +kernel), List.forall_mem_cons.mpr ⟨List.mem_of_getElem? (i := 364) (by decide +kernel), List.forall_mem_cons.mpr ⟨List.mem_of_getElem? (i := 365) (by decide +kernel), List.forall_mem_cons.mpr ⟨List.mem_of_getElem? (i := 367) (by decide +kernel), List.forall_mem_cons.mpr ⟨List.mem_of_getElem? (i := 368) (by decide +kernel), List.forall_mem_cons.mpr ⟨List.mem_of_getElem? (i := 369) (by decide +kernel), List.forall_mem_cons.mpr ⟨List.mem_of_getElem? (i := 370) (by decide +kernel), List.forall_mem_cons.mpr ⟨List.mem_of_getElem? (i := 371) (by decide +kernel), List.forall_mem_cons.mpr ⟨List.mem_of_getElem? (i := 372) (by decide +kernel), List.forall_mem_cons.mpr ⟨List.mem_of_getElem? (i := 373) (by decide +kernel), List.forall_mem_cons.mpr ⟨List.mem_of_getElem? (i := 374) (by decide +kernel), fun _ h => absurd h List.not_mem_nil⟩⟩⟩⟩⟩⟩⟩⟩⟩⟩⟩⟩⟩⟩⟩⟩⟩⟩⟩⟩⟩⟩⟩⟩
theorem wsL_law_r13_in : ∀ w ∈ wsL_law_r13, w ∈ lw_tbl := List.forall_mem_cons.mpr ⟨List.mem_of_getElem? (i := 375) (by decide +kernel), List.forall_mem_cons.mpr ⟨List.mem_of_getElem? (i := 376) (by decide +kernel), List.forall_mem_cons.mpr ⟨List.mem_of_getElem? (i := 377) (by decide +kernel), List.forall_mem_cons.mpr ⟨List.mem_of_getElem? (i := 378) (by decide +kernel), List.forall_mem_cons.mpr ⟨List.mem_of_getElem? (i := 379) (by decide +kernel), List.forall_mem_cons.mpr ⟨List.mem_of_getElem? (i := 380) (by decide +kernel), List.forall_mem_cons.mpr ⟨List.mem_of_getElem? (i := 381) (by decide +kernel), List.forall_mem_cons.mpr ⟨List.mem_of_getElem? (i := 382) (by decide +kernel), List.forall_mem_cons.mpr ⟨List.mem_of_getElem? (i := 383) (by decide +kernel), List.forall_mem_cons.mpr ⟨List.mem_of_getElem? (i := 384) (by decide +kernel), List.forall_mem_cons.mpr ⟨List.mem_of_getElem? (i := 385) (by decide +kernel), List.forall_mem_cons.mpr ⟨List.mem_of_getElem? (i := 386) (by decide +kernel), List.forall_mem_cons.mpr ⟨List.mem_of_getElem? (i := 387) (by decide +kernel), List.forall_mem_cons.mpr ⟨List.mem_of_getElem? (i := 388) (by decide +kernel), List.forall_mem_cons.mpr ⟨List.mem_of_getElem? (i := 389) (by decide +kernel), List.forall_mem_cons.mpr ⟨List.mem_of_getElem? (i := 390) (by decide +kernel), List.forall_mem_cons.mpr ⟨List.mem_of_getElem? (i := 391) (by decide +kernel), List.forall_mem_cons.mpr ⟨List.mem_of_getElem? (i := 392) (by decide +kernel), List.forall_mem_cons.mpr ⟨List.mem_of_getElem? (i := 394) (by decide +kernel), List.forall_mem_cons.mpr ⟨List.mem_of_getElem? (i := 7) (by decide +kernel), List.forall_mem_cons.mpr ⟨List.mem_of_getElem? (i := 395) (by decide +kernel), List.forall_mem_cons.mpr ⟨List.mem_of_getElem? (i := 396) (by decide +kernel), List.forall_mem_cons.mpr ⟨List.mem_of_getElem? (i := 397) (by decide +kernel), List.forall_mem_cons.mpr ⟨List.mem_of_getElem? (i := 398) (by decide +kernel), fun _ h => absurd h List.not_mem_nil⟩⟩⟩⟩⟩⟩⟩⟩⟩⟩⟩⟩⟩⟩⟩⟩⟩⟩⟩⟩⟩⟩⟩⟩
theorem wsL_law_r14_in : ∀ w ∈ wsL_law_r14, w ∈ lw_tbl := List.forall_mem_cons.mpr ⟨List.mem_of_getElem? (i := 399) (by decide +kernel), List.forall_mem_cons.mpr ⟨List.mem_of_getElem? (i := 400) (by decide +kernel), List.forall_mem_cons.mpr ⟨List.mem_of_getElem? (i := 402) (by decide +kernel), List.forall_mem_cons.mpr ⟨List.mem_of_getElem? (i := 8) (by decide +kernel), List.forall_mem_cons.mpr ⟨List.mem_of_getElem? (i := 403) (by decide +kernel), List.forall_mem_cons.mpr ⟨List.mem_of_getElem? (i := 404) (by decide +kernel), List.forall_mem_cons.mpr ⟨List.mem_of_getElem? (i := 405) (by decide +kernel), List.forall_mem_cons.mpr ⟨List.mem_of_getElem? (i := 406) (by decide +kernel), List.forall_mem_cons.mpr ⟨List.mem_of_getElem? (i := 407) (by decide +kernel), List.forall_mem_cons.mpr ⟨List.mem_of_getElem? (i := 700) (by decide +kernel), List.forall_mem_cons.mpr ⟨List.mem_of_getElem? (i := 701) (by decide +kernel), List.forall_mem_cons.mpr ⟨List.mem_of_getElem? (i := 702) (by decide +kernel), List.forall_mem_cons.mpr ⟨List.mem_of_getElem? (i := 703) (by decide +kernel), List.forall_mem_cons.mpr ⟨List.mem_of_getElem? (i := 704) (by decide +kernel), List.forall_mem_cons.mpr ⟨List.mem_of_getElem? (i := 706) (by decide +kernel), List.forall_mem_cons.mpr ⟨List.mem_of_getElem? (i := 31) (by decide +kernel), List.forall_mem_cons.mpr ⟨List.mem_of_getElem? (i := 707) (by decide +kernel), List.forall_mem_cons.mpr ⟨List.mem_of_getElem? (i := 538) (by decide +kernel), List.forall_mem_cons.mpr ⟨List.mem_of_getElem? (i := 537) (by decide +kernel), List.forall_mem_cons.mpr ⟨List.mem_of_getElem? (i := 708) (by decide +kernel), List.forall_mem_cons.mpr ⟨List.mem_of_getElem? (i := 710) (by decide +kernel), List.forall_mem_cons.mpr ⟨List.mem_of_getElem? (i := 32) (by decide +kernel), List.forall_mem_cons.mpr ⟨List.mem_of_getElem? (i := 711) (by decide +kernel), List.forall_mem_cons.mpr ⟨List.mem_of_getElem? (i := 541) (by decide +kernel), fun _ h => absurd h List.not_mem_nil⟩⟩⟩⟩⟩⟩⟩⟩⟩⟩⟩⟩⟩⟩⟩⟩⟩⟩⟩⟩⟩⟩⟩⟩
theorem wsL_law_r15_in : ∀ w ∈ wsL_law_r15, w ∈ lw_tbl := List.forall_mem_cons.mpr ⟨List.mem_of_getElem? (i := 542) (by decide +kernel), List.forall_mem_cons.mpr ⟨List.mem_of_getElem? (i := 539) (by decide +kernel), List.forall_mem_cons.mpr ⟨List.mem_of_getElem? (i := 540) (by decide +kernel), List.forall_mem_cons.mpr ⟨List.mem_of_getElem? (i := 712) (by decide +kernel), List.forall_mem_cons.mpr ⟨List.mem_of_getElem? (i := 714) (by decide +kernel), List.forall_mem_cons.mpr ⟨List.mem_of_getElem? (i := 33) (by decide +kernel), List.forall_mem_cons.mpr ⟨List.mem_of_getElem? (i := 715) (by decide +kernel), List.forall_mem_cons.mpr ⟨List.mem_of_getElem? (i := 716) (by decide +kernel), List.forall_mem_cons.mpr ⟨List.mem_of_getElem? (i := 718) (by decide +kernel), List.forall_mem_cons.mpr ⟨List.mem_of_getElem? (i := 34) (by decide +kernel), List.forall_mem_cons.mpr ⟨List.mem_of_getElem? (i := 719) (by decide +kernel), List.forall_mem_cons.mpr ⟨List.mem_of_getElem? (i := 720) (by decide +kernel), List.forall_mem_cons.mpr ⟨List.mem_of_getElem? (i := 722) (by decide +kernel), List.forall_mem_cons.mpr ⟨List.mem_of_getElem? (i := 35) (by decide +kernel), List.forall_mem_cons.mpr ⟨List.mem_of_getElem? (i := 723) (by decide +kernel), List.forall_mem_cons.mpr ⟨List.mem_of_getElem? (i := 724) (by decide +kernel), List.forall_mem_cons.mpr ⟨List.mem_of_getElem? (i := 726) (by decide +kernel), List.forall_mem_cons.mpr ⟨List.mem_of_getElem? (i := 36) (by decide +kernel), List.forall_mem_cons.mpr ⟨List.mem_of_getElem? (i := 727) (by decide +kernel), List.forall_mem_cons.mpr ⟨List.mem_of_getElem? (i := 631) (by decide +kernel), List.forall_mem_cons.mpr ⟨List.mem_of_getElem? (i := 632) (by decide +kernel), List.forall_mem_cons.mpr ⟨List.mem_of_getElem? (i := 634) (by decide +kernel), List.forall_mem_cons.mpr ⟨List.mem_of_getElem? (i := 16) (by decide +kernel), List.forall_mem_cons.mpr ⟨List.mem_of_getElem? (i := 635) (by decide +kernel), fun _ h => absurd h List.not_mem_nil⟩⟩⟩⟩⟩⟩⟩⟩⟩⟩⟩⟩⟩⟩⟩⟩⟩⟩⟩⟩⟩⟩⟩⟩
theorem wsL_law_r16_in : ∀ w ∈ wsL_law_r16, w ∈ lw_tbl := List.forall_mem_cons.mpr ⟨List.mem_of_getElem? (i := 636) (by decide +kernel), List.forall_mem_cons.mpr ⟨List.mem_of_getElem? (i := 638) (by decide +kernel), List.forall_mem_cons.mpr ⟨List.mem_of_getElem? (i := 17) (by decide +kernel), List.forall_mem_cons.mpr ⟨List.mem_of_getElem? (i := 639) (by decide +kernel), List.forall_mem_cons.mpr ⟨List.mem_of_getElem? (i := 640) (by decide +kernel), List.forall_mem_cons.mpr ⟨List.mem_of_getElem? (i := 642) (by decide +kernel), List.forall_mem_cons.mpr ⟨List.mem_of_getElem? (i := 18) (by decide +kernel), List.forall_mem_cons.mpr ⟨List.mem_of_getElem? (i := 643) (by decide +kernel), List.forall_mem_cons.mpr ⟨List.mem_of_getElem? (i := 644) (by decide +kernel), List.forall_mem_cons.mpr ⟨List.mem_of_getElem? (i := 646) (by decide +kernel), List.forall_mem_cons.mpr ⟨List.mem_of_getElem? (i := 19) (by decide +kernel), List.forall_mem_cons.mpr ⟨List.mem_of_getElem? (i := 647) (by decide +kernel), List.forall_mem_cons.mpr ⟨List.mem_of_getElem? (i := 648) (by decide +kernel), List.forall_mem_cons.mpr ⟨List.mem_of_getElem? (i := 650) (by decide +kernel), List.forall_mem_cons.mpr ⟨List.mem_of_getElem? (i := 20) (by decide +kernel), List.forall_mem_cons.mpr ⟨List.mem_of_getElem? (i := 651) (by decide +kernel), List.forall_mem_cons.mpr ⟨List.mem_of_getElem? (i := 652) (by decide +kernel), List.forall_mem_cons.mpr ⟨List.mem_of_getElem? (i := 654) (by decide +kernel), List.forall_mem_cons.mpr ⟨List.mem_of_getElem? (i := 21) (by decide +kernel), List.forall_mem_cons.mpr ⟨List.mem_of_getElem? (i := 655) (by decide +kernel), List.forall_mem_cons.mpr ⟨List.mem_of_getElem? (i := 656) (by decide +kernel), List.forall_mem_cons.mpr ⟨List.mem_of_getElem? (i := 658) (by decide +kernel), List.forall_mem_cons.mpr ⟨List.mem_of_getElem? (i := 22) (by decide +kernel), List.forall_mem_cons.mpr ⟨List.mem_of_getElem? (i := 659) (by decide +kernel), fun _ h => absurd h List.not_mem_nil⟩⟩⟩⟩⟩⟩⟩⟩⟩⟩⟩⟩⟩⟩⟩⟩⟩⟩⟩⟩⟩⟩⟩⟩
theorem wsL_law_r17_in : ∀ w ∈ wsL_law_r17, w ∈ lw_tbl := List.forall_mem_cons.mpr ⟨List.mem_of_getElem? (i := 660) (by decide +kernel), List.forall_mem_cons.mpr ⟨List.mem_of_getElem? (i := 662) (by decide +kernel), List.forall_mem_cons.mpr ⟨List.mem_of_getElem? (i := 23) (by decide +kernel), List.forall_mem_cons.mpr ⟨List.mem_of_getElem? (i := 663) (by decide +kernel), List.forall_mem_cons.mpr ⟨List.mem_of_getElem? (i := 664) (by decide +kernel), List.forall_mem_cons.mpr ⟨List.mem_of_getElem? (i := 666) (by decide +kernel), List.forall_mem_cons.mpr ⟨List.mem_of_getElem? (i := 24) (by decide +kernel), List.forall_mem_cons.mpr ⟨List.mem_of_getElem? (i := 667) (by decide +kernel), List.forall_mem_cons.mpr ⟨List.mem_of_getElem? (i := 668) (by decide +kernel), List.forall_mem_cons.mpr ⟨List.mem_of_getElem? (i := 670) (by decide +kernel), List.forall_mem_cons.mpr ⟨List.mem_of_getElem? (i := 25) (by decide +kernel), List.forall_mem_cons.mpr ⟨List.mem_of_getElem? (i := 671) (by decide +kernel), List.forall_mem_cons.mpr ⟨List.mem_of_getElem? (i := 672) (by decide +kernel), List.forall_mem_cons.mpr ⟨List.mem_of_getElem? (i := 674) (by decide +kernel), List.forall_mem_cons.mpr ⟨List.mem_of_getElem? (i := 26) (by decide +kernel), List.forall_mem_cons.mpr ⟨List.mem_of_getElem? (i := 675) (by decide +kernel), List.forall_mem_cons.mpr ⟨List.mem_of_getElem? (i := 676) (by decide +kernel), List.forall_mem_cons.mpr ⟨List.mem_of_getElem? (i := 678) (by decide +kernel), List.forall_mem_cons.mpr ⟨List.mem_of_getElem? (i := 27) (by decide +kernel), List.forall_mem_cons.mpr ⟨List.mem_of_getElem? (i := 679) (by decide +kernel), List.forall_mem_cons.mpr ⟨List.mem_of_getElem? (i := 680) (by decide +kernel), List.forall_mem_cons.mpr ⟨List.mem_of_getElem? (i := 682) (by decide +kernel), List.forall_mem_cons.mpr ⟨List.mem_of_getElem? (i := 28) (by decide +kernel), List.forall_mem_cons.mpr ⟨List.mem_of_getElem? (i := 683) (by decide +kernel), fun _ h => absurd h List.not_mem_nil⟩⟩⟩⟩⟩⟩⟩⟩⟩⟩⟩⟩⟩⟩⟩⟩⟩⟩⟩⟩⟩⟩⟩⟩
theorem wsL_law_r18_in : ∀ w ∈ wsL_law_r18, w ∈ lw_tbl := List.forall_mem_cons.mpr ⟨List.mem_of_getElem? (i := 684) (by decide +kernel), List.forall_mem_cons.mpr ⟨List.mem_of_getElem? (i := 686) (by decide +kernel), List.forall_mem_cons.mpr ⟨List.mem_of_getElem? (i := 29) (by decide +kernel), List.forall_mem_cons.mpr ⟨List.mem_of_getElem? (i := 687) (by decide +kernel), List.forall_mem_cons.mpr ⟨List.mem_of_getElem? (i := 688) (by decide +kernel), List.forall_mem_cons.mpr ⟨List.mem_of_getElem? (i := 690) (by decide +kernel), List.forall_mem_cons.mpr ⟨List.mem_of_getElem? (i := 30) (by decide +kernel), List.forall_mem_cons.mpr ⟨List.mem_of_getElem? (i := 691) (by decide +kernel), List.forall_mem_cons.mpr ⟨List.mem_of_getElem? (i := 409) (by decide +kernel), List.forall_mem_cons.mpr ⟨List.mem_of_getElem? (i := 410) (by decide +kernel), List.forall_mem_cons.mpr ⟨List.mem_of_getElem? (i := 411) (by decide +kernel), List.forall_mem_cons.mpr ⟨List.mem_of_getElem? (i := 412) (by decide +kernel), List.forall_mem_cons.mpr ⟨List.mem_of_getElem? (i := 413) (by decide +kernel), List.forall_mem_cons.mpr ⟨List.mem_of_getElem? (i := 414) (by decide +kernel), List.forall_mem_cons.mpr ⟨List.mem_of_getElem? (i := 626) (by decide +kernel), List.forall_mem_cons.mpr ⟨List.mem_of_getElem? (i := 627) (by decide +kernel), List.forall_mem_cons.mpr ⟨List.mem_of_getElem? (i := 628) (by decide +kernel), List.forall_mem_cons.mpr ⟨List.mem_of_getElem? (i := 629) (by decide +kernel), List.forall_mem_cons.mpr ⟨List.mem_of_getElem? (i := 630) (by decide +kernel), List.forall_mem_cons.mpr ⟨List.mem_of_getElem? (i := 415) (by decide +kernel), List.forall_mem_cons.mpr ⟨List.mem_of_getElem? (i := 416) (by decide +kernel), List.forall_mem_cons.mpr ⟨List.mem_of_getElem? (i := 417) (by decide +kernel), List.forall_mem_cons.mpr ⟨List.mem_of_getElem? (i := 418) (by decide +kernel), List.forall_mem_cons.mpr ⟨List.mem_of_getElem? (i := 419) (by decide +kernel), fun _ h => absurd h List.not_mem_nil⟩⟩⟩⟩⟩⟩⟩⟩⟩⟩⟩⟩⟩⟩⟩⟩⟩⟩⟩⟩⟩⟩⟩⟩
theorem wsL_law_r19_in : ∀ w ∈ wsL_law_r19, w ∈ lw_tbl := List.forall_mem_cons.mpr ⟨List.mem_of_getElem? (i := 420) (by decide +kernel), List.forall_mem_cons.mpr ⟨List.mem_of_getElem? (i := 421) (by decide +kernel), List.forall_mem_cons.mpr ⟨List.mem_of_getElem? (i := 422) (by decide +kernel), List.forall_mem_cons.mpr ⟨List.mem_of_getElem? (i := 692) (by decide +kernel), List.forall_mem_cons.mpr ⟨List.mem_of_getElem? (i := 693) (by decide +kernel), List.forall_mem_cons.mpr ⟨List.mem_of_getElem? (i := 694) (by decide +kernel), List.forall_mem_cons.mpr ⟨List.mem_of_getElem? (i := 695) (by decide +kernel), List.forall_mem_cons.mpr ⟨List.mem_of_getElem? (i := 423) (by decide +kernel), List.forall_mem_cons.mpr ⟨List.mem_of_getElem? (i := 424) (by decide +kernel), List.forall_mem_cons.mpr ⟨List.mem_of_getElem? (i := 425) (by decide +kernel), List.forall_mem_cons.mpr ⟨List.mem_of_getElem? (i := 426) (by decide +kernel), List.forall_mem_cons.mpr ⟨List.mem_of_getElem? (i := 696) (by decide +kernel), List.forall_mem_cons.mpr ⟨List.mem_of_getElem? (i := 697) (by decide +kernel), List.forall_mem_cons.mpr ⟨List.mem_of_getElem? (i := 698) (by decide +kernel), List.forall_mem_cons.mpr ⟨List.mem_of_getElem? (i := 699) (by decide +kernel), List.forall_mem_cons.mpr ⟨List.mem_of_getElem? (i := 427) (by decide +kernel), List.forall_mem_cons.mpr ⟨List.mem_of_getElem? (i := 428) (by decide +kernel), List.forall_mem_cons.mpr ⟨List.mem_of_getElem? (i := 429) (by decide +kernel), List.forall_mem_cons.mpr ⟨List.mem_of_getElem? (i := 430) (by decide +kernel), List.forall_mem_cons.mpr ⟨List.mem_of_getElem? (i := 431) (by decide +kernel), List.forall_mem_cons.mpr ⟨List.mem_of_getElem? (i := 432) (by decide +kernel), List.forall_mem_cons.mpr ⟨List.mem_of_getElem? (i := 433) (by decide +kernel), List.forall_mem_cons.mpr ⟨List.mem_of_getElem? (i := 434) (by decide +kernel), List.forall_mem_cons.mpr ⟨List.mem_of_getElem? (i := 728) (by decide +kernel), fun _ h => absurd h List.not_mem_nil⟩⟩⟩⟩⟩⟩⟩⟩⟩⟩⟩⟩⟩⟩⟩⟩⟩⟩⟩⟩⟩⟩⟩⟩
theorem wsL_law_r20_in : ∀ w ∈ wsL_law_r20, w ∈ lw_tbl := List.forall_mem_cons.mpr ⟨List.mem_of_getElem? (i := 729) (by decide +kernel), List.forall_mem_cons.mpr ⟨List.mem_of_getElem? (i := 730) (by decide +kernel), List.forall_mem_cons.mpr ⟨List.mem_of_getElem? (i := 731) (by decide +kernel), List.forall_mem_cons.mpr ⟨List.mem_of_getElem? (i := 435) (by decide +kernel), List.forall_mem_cons.mpr ⟨List.mem_of_getElem? (i := 436) (by decide +kernel), List.forall_mem_cons.mpr ⟨List.mem_of_getElem? (i := 437) (by decide +kernel), List.forall_mem_cons.mpr ⟨List.mem_of_getElem? (i := 438) (by decide +kernel), List.forall_mem_cons.mpr ⟨List.mem_of_getElem? (i := 220) (by decide +kernel), List.forall_mem_cons.mpr ⟨List.mem_of_getElem? (i := 732) (by decide +kernel), List.forall_mem_cons.mpr ⟨List.mem_of_getElem? (i := 733) (by decide +kernel), List.forall_mem_cons.mpr ⟨List.mem_of_getElem? (i := 734) (by decide +kernel), List.forall_mem_cons.mpr ⟨List.mem_of_getElem? (i := 735) (by decide +kernel), List.forall_mem_cons.mpr ⟨List.mem_of_getElem? (i := 535) (by decide +kernel), List.forall_mem_cons.mpr ⟨List.mem_of_getElem? (i := 439) (by decide +kernel), List.forall_mem_cons.mpr ⟨List.mem_of_getElem? (i := 440) (by decide +kernel), List.forall_mem_cons.mpr ⟨List.mem_of_getElem? (i := 441) (by decide +kernel), List.forall_mem_cons.mpr ⟨List.mem_of_getElem? (i := 442) (by decide +kernel), List.forall_mem_cons.mpr ⟨List.mem_of_getElem? (i := 736) (by decide +kernel), List.forall_mem_cons.mpr ⟨List.mem_of_getElem? (i := 737) (by decide +kernel), List.forall_mem_cons.mpr ⟨List.mem_of_getElem? (i := 738) (by decide +kernel), List.forall_mem_cons.mpr ⟨List.mem_of_getElem? (i := 739) (by decide +kernel), List.forall_mem_cons.mpr ⟨List.mem_of_getElem? (i := 443) (by decide +kernel), List.forall_mem_cons.mpr ⟨List.mem_of_getElem? (i := 444) (by decide +kernel), List.forall_mem_cons.mpr ⟨List.mem_of_getElem? (i := 445) (by decide +kernel), fun _ h => absurd h List.not_mem_nil⟩⟩⟩⟩⟩⟩⟩⟩⟩⟩⟩⟩⟩⟩⟩⟩⟩⟩⟩⟩⟩⟩⟩⟩
theorem wsL_law_r21_in : ∀ w ∈ wsL_law_r21, w ∈ lw_tbl := List.forall_mem_cons.mpr ⟨List.mem_of_getElem? (i := 446) (by decide +kernel), List.forall_mem_cons.mpr ⟨List.mem_of_getElem? (i := 447) (by decide +kernel), List.forall_mem_cons.mpr ⟨List.mem_of_getElem? (i := 448) (by decide +kernel), List.forall_mem_cons.mpr ⟨List.mem_of_getElem? (i := 449) (by decide +kernel), List.forall_mem_cons.mpr ⟨List.mem_of_getElem? (i := 450) (by decide +kernel), List.forall_mem_cons.mpr ⟨List.mem_of_getElem? (i := 451) (by decide +kernel), List.forall_mem_cons.mpr ⟨List.mem_of_getElem? (i := 452) (by decide +kernel), List.forall_mem_cons.mpr ⟨List.mem_of_getElem? (i := 453) (by decide +kernel), List.forall_mem_cons.mpr ⟨List.mem_of_getElem? (i := 454) (by decide +kernel), List.forall_mem_cons.mpr ⟨List.mem_of_getElem? (i := 455) (by decide +kernel), List.forall_mem_cons.mpr ⟨List.mem_of_getElem? (i := 456) (by decide +kernel), List.forall_mem_cons.mpr ⟨List.mem_of_getElem? (i := 457) (by decide +kernel), List.forall_mem_cons.mpr ⟨List.mem_of_getElem? (i := 458) (by decide +kernel), List.forall_mem_cons.mpr ⟨List.mem_of_getElem? (i := 459) (by decide +kernel), List.forall_mem_cons.mpr ⟨List.mem_of_getElem? (i := 460) (by decide +kernel), List.forall_mem_cons.mpr ⟨List.mem_of_getElem? (i := 461) (by decide +kernel), List.forall_mem_cons.mpr ⟨List.mem_of_getElem? (i := 462) (by decide +kernel), List.forall_mem_cons.mpr ⟨List.mem_of_getElem? (i := 463) (by decide +kernel), List.forall_mem_cons.mpr ⟨List.mem_of_getElem? (i := 464) (by decide +kernel), List.forall_mem_cons.mpr ⟨List.mem_of_getElem? (i := 465) (by decide +kernel), List.forall_mem_cons.mpr ⟨List.mem_of_getElem? (i := 466) (by decide +kernel), List.forall_mem_cons.mpr ⟨List.mem_of_getElem? (i := 467) (by decide +kernel), List.forall_mem_cons.mpr ⟨List.mem_of_getElem? (i := 468) (by decide +kernel), List.forall_mem_cons.mpr ⟨List.mem_of_getElem? (i := 469) (by decide +kernel), fun _ h => absurd h List.not_mem_nil⟩⟩⟩⟩⟩⟩⟩⟩⟩⟩⟩⟩⟩⟩⟩⟩⟩⟩⟩⟩⟩⟩⟩⟩
theorem wsL_law_r22_in : ∀ w ∈ wsL_law_r22, w ∈ lw_tbl := List.forall_mem_cons.mpr ⟨List.mem_of_getElem? (i := 470) (by decide +kernel), List.forall_mem_cons.mpr ⟨List.mem_of_getElem? (i := 471) (by decide +kernel), List.forall_mem_cons.mpr ⟨List.mem_of_getElem? (i := 472) (by decide +kernel), List.forall_mem_cons.mpr ⟨List.mem_of_getElem? (i := 473) (by decide +kernel), List.forall_mem_cons.mpr ⟨List.mem_of_getElem? (i := 474) (by decide +kernel), List.forall_mem_cons.mpr ⟨List.mem_of_getElem? (i := 475) (by decide +kernel), List.forall_mem_cons.mpr ⟨List.mem_of_getElem? (i := 740) (by decide +kernel), List.forall_mem_cons.mpr ⟨List.mem_of_getElem? (i := 741) (by decide +kernel), List.forall_mem_cons.mpr ⟨List.mem_of_getElem? (i := 742) (by decide +kernel), List.forall_mem_cons.mpr ⟨List.mem_of_getElem? (i := 743) (by decide +kernel), List.forall_mem_cons.mpr ⟨List.mem_of_getElem? (i := 744) (by decide +kernel), List.forall_mem_cons.mpr ⟨List.mem_of_getElem? (i := 746) (by decide +kernel), List.forall_mem_cons.mpr ⟨List.mem_of_getElem? (i := 37) (by decide +kernel), List.forall_mem_cons.mpr ⟨List.mem_of_getElem? (i := 747) (by decide +kernel), List.forall_mem_cons.mpr ⟨List.mem_of_getElem? (i := 748) (by decide +kernel), List.forall_mem_cons.mpr ⟨List.mem_of_getElem? (i := 750) (by decide +kernel), List.forall_mem_cons.mpr ⟨List.mem_of_getElem? (i := 38) (by decide +kernel), List.forall_mem_cons.mpr ⟨List.mem_of_getElem? (i := 751) (by decide +kernel), List.forall_mem_cons.mpr ⟨List.mem_of_getElem? (i := 476) (by decide +kernel), List.forall_mem_cons.mpr ⟨List.mem_of_getElem? (i := 477) (by decide +kernel), List.forall_mem_cons.mpr ⟨List.mem_of_getElem? (i := 478) (by decide +kernel), List.forall_mem_cons.mpr ⟨List.mem_of_getElem? (i := 479) (by decide +kernel), List.forall_mem_cons.mpr ⟨List.mem_of_getElem? (i := 480) (by decide +kernel), List.forall_mem_cons.mpr ⟨List.mem_of_getElem? (i := 752) (by decide +kernel), fun _ h => absurd h List.not_mem_nil⟩⟩⟩⟩⟩⟩⟩⟩⟩⟩⟩⟩⟩⟩⟩⟩⟩⟩⟩⟩⟩⟩⟩⟩
theorem wsL_law_r23_in : ∀ w ∈ wsL_law_r23, w ∈ lw_tbl := List.forall_mem_cons.mpr ⟨List.mem_of_getElem? (i := 753) (by decide +kernel), List.forall_mem_cons.mpr ⟨List.mem_of_getElem? (i := 754) (by decide +kernel), List.forall_mem_cons.mpr ⟨List.mem_of_getElem? (i := 755) (by decide +kernel), List.forall_mem_cons.mpr ⟨List.mem_of_getElem? (i := 481) (by decide +kernel), List.forall_mem_cons.mpr ⟨List.mem_of_getElem? (i := 482) (by decide +kernel), List.forall_mem_cons.mpr ⟨List.mem_of_getElem? (i := 483) (by decide +kernel), List.forall_mem_cons.mpr ⟨List.mem_of_getElem? (i := 484) (by decide +kernel), List.forall_mem_cons.mpr ⟨List.mem_of_getElem? (i := 756) (by decide +kernel), List.forall_mem_cons.mpr ⟨List.mem_of_getElem? (i := 757) (by decide +kernel), List.forall_mem_cons.mpr ⟨List.mem_of_getElem? (i := 758) (by decide +kernel), List.forall_mem_cons.mpr ⟨List.mem_of_getElem? (i := 759) (by decide +kernel), List.forall_mem_cons.mpr ⟨List.mem_of_getElem? (i := 485) (by decide +kernel), List.forall_mem_cons.mpr ⟨List.mem_of_getElem? (i := 486) (by decide +kernel), List.forall_mem_cons.mpr ⟨List.mem_of_getElem? (i := 487) (by decide +kernel), List.forall_mem_cons.mpr ⟨List.mem_of_getElem? (i := 488) (by decide +kernel), List.forall_mem_cons.mpr ⟨List.mem_of_getElem? (i := 489) (by decide +kernel), List.forall_mem_cons.mpr ⟨List.mem_of_getElem? (i := 490) (by decide +kernel), List.forall_mem_cons.mpr ⟨List.mem_of_getElem? (i := 491) (by decide +kernel), List.forall_mem_cons.mpr ⟨List.mem_of_getElem? (i := 492) (by decide +kernel), List.forall_mem_cons.mpr ⟨List.mem_of_getElem? (i := 760) (by decide +kernel), List.forall_mem_cons.mpr ⟨List.mem_of_getElem? (i := 761) (by decide +kernel), List.forall_mem_cons.mpr ⟨List.mem_of_getElem? (i := 762) (by decide +kernel), List.forall_mem_cons.mpr ⟨List.mem_of_getElem? (i := 763) (by decide +kernel), List.forall_mem_cons.mpr ⟨List.mem_of_getElem? (i := 493) (by decide +kernel), fun _ h => absurd h List.not_mem_nil⟩⟩⟩⟩⟩⟩⟩⟩⟩⟩⟩⟩⟩⟩⟩⟩⟩⟩⟩⟩⟩⟩⟩⟩
theorem wsL_law_r24_in : ∀ w ∈ wsL_law_r24, w ∈ lw_tbl := List.forall_mem_cons.mpr ⟨List.mem_of_getElem? (i := 494) (by decide +kernel), List.forall_mem_cons.mpr ⟨List.mem_of_getElem? (i := 495) (by decide +kernel), List.forall_mem_cons.mpr ⟨List.mem_of_getElem? (i := 496) (by decide +kernel), List.forall_mem_cons.mpr ⟨List.mem_of_getElem? (i := 497) (by decide +kernel), List.forall_mem_cons.mpr ⟨List.mem_of_getElem? (i := 498) (by decide +kernel), List.forall_mem_cons.mpr ⟨List.mem_of_getElem? (i := 499) (by decide +kernel), List.forall_mem_cons.mpr ⟨List.mem_of_getElem? (i := 500) (by decide +kernel), List.forall_mem_cons.mpr ⟨List.mem_of_getElem? (i := 501) (by decide +kernel), List.forall_mem_cons.mpr ⟨List.mem_of_getElem? (i := 764) (by decide +kernel), List.forall_mem_cons.mpr ⟨List.mem_of_getElem? (i := 765) (by decide +kernel), List.forall_mem_cons.mpr ⟨List.mem_of_getElem? (i := 766) (by decide +kernel), List.forall_mem_cons.mpr ⟨List.mem_of_getElem? (i := 767) (by decide +kernel), List.forall_mem_cons.mpr ⟨List.mem_of_getElem? (i := 768) (by decide +kernel), List.forall_mem_cons.mpr ⟨List.mem_of_getElem? (i := 770) (by decide +kernel), List.forall_mem_cons.mpr ⟨List.mem_of_getElem? (i := 39) (by decide +kernel), List.forall_mem_cons.mpr ⟨List.mem_of_getElem? (i := 771) (by decide +kernel), List.forall_mem_cons.mpr ⟨List.mem_of_getElem? (i := 502) (by decide +kernel), List.forall_mem_cons.mpr ⟨List.mem_of_getElem? (i := 503) (by decide +kernel), List.forall_mem_cons.mpr ⟨List.mem_of_getElem? (i := 504) (by decide +kernel), List.forall_mem_cons.mpr ⟨List.mem_of_getElem? (i := 505) (by decide +kernel), List.forall_mem_cons.mpr ⟨List.mem_of_getElem? (i := 506) (by decide +kernel), List.forall_mem_cons.mpr ⟨List.mem_of_getElem? (i := 507) (by decide +kernel), List.forall_mem_cons.mpr ⟨List.mem_of_getElem? (i := 508) (by decide +kernel), List.forall_mem_cons.mpr ⟨List.mem_of_getElem? (i := 509) (by decide +kernel), fun _ h => absurd h List.not_mem_nil⟩⟩⟩⟩⟩⟩⟩⟩⟩⟩⟩⟩⟩⟩⟩⟩⟩⟩⟩⟩⟩⟩⟩⟩
theorem wsL_law_r25_in : ∀ w ∈ wsL_law_r25, w ∈ lw_tbl := List.forall_mem_cons.mpr ⟨List.mem_of_getElem? (i := 772) (by decide +kernel), List.forall_mem_cons.mpr ⟨List.mem_of_getElem? (i := 773) (by decide +kernel), List.forall_mem_cons.mpr ⟨List.mem_of_getElem? (i := 774) (by decide +kernel), List.forall_mem_cons.mpr ⟨List.mem_of_getElem? (i := 775) (by decide +kernel), List.forall_mem_cons.mpr ⟨List.mem_of_getElem? (i := 776) (by decide +kernel), List.forall_mem_cons.mpr ⟨List.mem_of_getElem? (i := 778) (by decide +kernel), List.forall_mem_cons.mpr ⟨List.mem_of_getElem? (i := 40) (by decide +kernel), List.forall_mem_cons.mpr ⟨List.mem_of_getElem? (i := 779) (by decide +kernel), List.forall_mem_cons.mpr ⟨List.mem_of_getElem? (i := 510) (by decide +kernel), List.forall_mem_cons.mpr ⟨List.mem_of_getElem? (i := 511) (by decide +kernel), List.forall_mem_cons.mpr ⟨List.mem_of_getElem? (i := 512) (by decide +kernel), List.forall_mem_cons.mpr ⟨List.mem_of_getElem? (i := 513) (by decide +kernel), List.forall_mem_cons.mpr ⟨List.mem_of_getElem? (i := 514) (by decide +kernel), List.forall_mem_cons.mpr ⟨List.mem_of_getElem? (i := 780) (by decide +kernel), List.forall_mem_cons.mpr ⟨List.mem_of_getElem? (i := 781) (by decide +kernel), List.forall_mem_cons.mpr ⟨List.mem_of_getElem? (i := 782) (by decide +kernel), List.forall_mem_cons.mpr ⟨List.mem_of_getElem? (i := 783) (by decide +kernel), fun _ h => absurd h List.not_mem_nil⟩⟩⟩⟩⟩⟩⟩⟩⟩⟩⟩⟩⟩⟩⟩⟩⟩
theorem wsX40_tbl : ∀ w ∈ wsX40, w ∈ lw_tbl := by decide +kernel
theorem wsX50_tbl : ∀ w ∈ wsX50, w ∈ lw_tbl := by decide +kernel
theorem wsX20_tbl : ∀ w ∈ wsX20, w ∈ lw_tbl := by decide +kernel
theorem wsX00_tbl : ∀ w ∈ wsX00, w ∈ lw_tbl := by decide +kernel
theorem wsX30_tbl : ∀ w ∈ wsX30, w ∈ lw_tbl := by decide +kernel
theorem wsX10_tbl : ∀ w ∈ wsX10, w ∈ lw_tbl := by decide +kernel
theorem wsL_law_in : ∀ w ∈ wsL_law, w ∈ lw_tbl := by
  have ap : ∀ {a b : List Cond}, (∀ w ∈ a, w ∈ lw_tbl) → (∀ w ∈ b, w ∈ lw_tbl) → ∀ w ∈ a ++ b, w ∈ lw_tbl := fun h1 h2 => List.forall_mem_append.mpr ⟨h1, h2⟩
  exact ap (ap (ap (ap (ap (ap (ap ((ap wsL_law_r1_in (ap wsL_law_r2_in (ap wsL_law_r3_in (ap wsL_law_r4_in (ap wsL_law_r5_in (ap wsL_law_r6_in (ap wsL_law_r7_in (ap wsL_law_r8_in (ap wsL_law_r9_in (ap wsL_law_r10_in (ap wsL_law_r11_in (ap wsL_law_r12_in (ap wsL_law_r13_in (ap wsL_law_r14_in (ap wsL_law_r15_in (ap wsL_law_r16_in (ap wsL_law_r17_in (ap wsL_law_r18_in (ap wsL_law_r19_in (ap wsL_law_r20_in (ap wsL_law_r21_in (ap wsL_law_r22_in (ap wsL_law_r23_in (ap wsL_law_r24_in (wsL_law_r25_in)))))))))))))))))))))))))) wsX40_tbl) wsX50_tbl) wsX20_tbl) wsX00_tbl) wsX30_tbl) wsX10_tbl) (fun _ h => absurd h List.not_mem_nil)
theorem inlX0 : ∀ w ∈ wsX00, w ∈ wsL_law := fun _ h => List.mem_append_left _ (List.mem_append_left _ (List.mem_append_left _ (List.mem_append_right _ h)))
theorem inX0 : ∀ w ∈ wsX00, w ∈ lw_tbl := fun w h => wsL_law_in w (inlX0 w h)
theorem inlX1 : ∀ w ∈ wsX10, w ∈ wsL_law := fun _ h => List.mem_append_left _ (List.mem_append_right _ h)
theorem inX1 : ∀ w ∈ wsX10, w ∈ lw_tbl := fun w h => wsL_law_in w (inlX1 w h)
theorem inlX2 : ∀ w ∈ wsX20, w ∈ wsL_law := fun _ h => List.mem_append_left _ (List.mem_append_left _ (List.mem_append_left _ (List.mem_append_left _ (List.mem_append_right _ h))))
theorem inX2 : ∀ w ∈ wsX20, w ∈ lw_tbl := fun w h => wsL_law_in w (inlX2 w h)
theorem inlX3 : ∀ w ∈ wsX30, w ∈ wsL_law := fun _ h => List.mem_append_left _ (List.mem_append_left _ (List.mem_append_right _ h))
theorem inX3 : ∀ w ∈ wsX30, w ∈ lw_tbl := fun w h => wsL_law_in w (inlX3 w h)
theorem inlX4 : ∀ w ∈ wsX40, w ∈ wsL_law := fun _ h => List.mem_append_left _ (List.mem_append_left _ (List.mem_append_left _ (List.mem_append_left _ (List.mem_append_left _ (List.mem_append_left _ (List.mem_append_right _ h))))))
theorem inX4 : ∀ w ∈ wsX40, w ∈ lw_tbl := fun w h => wsL_law_in w (inlX4 w h)
theorem inlX5 : ∀ w ∈ wsX50, w ∈ wsL_law := fun _ h => List.mem_append_left _ (List.mem_append_left _ (List.mem_append_left _ (List.mem_append_left _ (List.mem_append_left _ (List.mem_append_right _ h)))))
theorem inX5 : ∀ w ∈ wsX50, w ∈ lw_tbl := fun w h => wsL_law_in w (inlX5 w h)
set_option maxRecDepth 20000 in
theorem ggX0_init_X2_init : GoodIn wsX0_init wsX2_init := goodIn_r _ [10, 11, 2, 3, 12, 13, 14, 15, 16, 17, 18, 19, 20, 21, 22, 23, 24, 25, 26, 27, 28, 29, 30, 31, 32, 33, 34, 38, 39, 40, 41, 42, 43, 44, 45, 46, 47, 48, 49, 50, 51, 52, 53, 54, 55, 56, 57, 58, 59, 60] (by decide +kernel) (by decide +kernel)
set_option maxRecDepth 20000 in
theorem gX0_init_X2_init : GoodIn wsX0_init (wsX2_init) := ggX0_init_X2_init
set_option maxRecDepth 20000 in
theorem ggX0_add_X4_remainder : GoodIn wsX0_add wsX4_remainder := goodIn_r _ [5] (by decide +kernel) (by decide +kernel)
set_option maxRecDepth 20000 in
theorem gX0_add_X4_remainder_n25 : GoodIn wsX0_add (wsX4_remainder) := ggX0_add_X4_remainder
set_option maxRecDepth 20000 in
theorem ggX0_add_X0_stateAt : GoodIn wsX0_add wsX0_stateAt := goodIn_r _ [10, 2, 11, 3, 4, 5, 47, 48, 49] (by decide +kernel) (by decide +kernel)
set_option maxRecDepth 20000 in
theorem gX0_add_X0_stateAt : GoodIn wsX0_add (wsV RX0 29 RX0 yX0_stateAt wsX0_stateAt) := goodIn_app (goodIn_of _ (by decide +kernel)) ggX0_add_X0_stateAt
set_option maxRecDepth 20000 in
theorem ggX0_add_X2_copy : GoodIn wsX0_add wsX2_copy := goodIn_r _ [16, 17, 18, 19, 20, 21, 22, 23, 24, 25, 26, 27, 28, 29, 30, 31, 32, 33, 34, 35, 36, 37, 38, 39, 40, 41, 42, 43, 44, 45, 4, 46, 50, 51, 52, 53, 54, 55, 56, 57, 58, 59, 60, 61, 62, 63, 64, 65, 66, 67, 68, 69, 70, 71, 72] (by decide +kernel) (by decide +kernel)
set_option maxRecDepth 20000 in
theorem gX0_add_X2_copy : GoodIn wsX0_add (wsV RX0 33 RX2 yX2_copy wsX2_copy) := goodIn_app (goodIn_of _ (by decide +kernel)) ggX0_add_X2_copy
set_option maxRecDepth 20000 in
theorem ggX0_moveLatestTo_X0_stateAt : GoodIn wsX0_moveLatestTo wsX0_stateAt := goodIn_r _ [6, 7, 8, 9, 10, 11, 47, 48, 49] (by decide +kernel) (by decide +kernel)
set_option maxRecDepth 20000 in
theorem gX0_moveLatestTo_X0_stateAt : GoodIn wsX0_moveLatestTo (wsV RX0 29 RX0 yX0_stateAt wsX0_stateAt) := goodIn_app (goodIn_of _ (by decide +kernel)) ggX0_moveLatestTo_X0_stateAt
set_option maxRecDepth 20000 in
theorem ggX0_moveLatestTo_X2_copy : GoodIn wsX0_moveLatestTo wsX2_copy := goodIn_r _ [16, 17, 18, 19, 20, 21, 22, 23, 24, 25, 26, 27, 28, 29, 30, 31, 32, 33, 34, 35, 36, 37, 38, 39, 40, 41, 42, 43, 44, 45, 10, 46, 50, 51, 52, 53, 54, 55, 56, 57, 58, 59, 60, 61, 62, 63, 64, 65, 66, 67, 68, 69, 70, 71, 72] (by decide +kernel) (by decide +kernel)
set_option maxRecDepth 20000 in
theorem gX0_moveLatestTo_X2_copy : GoodIn wsX0_moveLatestTo (wsV RX0 33 RX2 yX2_copy wsX2_copy) := goodIn_app (goodIn_of _ (by decide +kernel)) ggX0_moveLatestTo_X2_copy
set_option maxRecDepth 20000 in
theorem ggX0_stateAt_X4_remainder : GoodIn wsX0_stateAt wsX4_remainder := goodIn_r _ [5] (by decide +kernel) (by decide +kernel)
set_option maxRecDepth 20000 in
theorem gX0_stateAt_X4_remainder_n25 : GoodIn wsX0_stateAt (wsX4_remainder) := ggX0_stateAt_X4_remainder
set_option maxRecDepth 20000 in
theorem ggX1_ticksAt_X4_remainder : GoodIn wsX1_ticksAt wsX4_remainder := goodIn_r _ [6] (by decide +kernel) (by decide +kernel)
set_option maxRecDepth 20000 in
theorem gX1_ticksAt_X4_remainder_n22 : GoodIn wsX1_ticksAt (wsX4_remainder) := ggX1_ticksAt_X4_remainder
set_option maxRecDepth 20000 in
theorem ggX1_timesToTick_X4_remainder : GoodIn wsX1_timesToTick wsX4_remainder := goodIn_r _ [6] (by decide +kernel) (by decide +kernel)
set_option maxRecDepth 20000 in
theorem gX1_timesToTick_X4_remainder_n22 : GoodIn wsX1_timesToTick (wsX4_remainder) := ggX1_timesToTick_X4_remainder
set_option maxRecDepth 20000 in
theorem ggX2_init_X1_init : GoodIn wsX2_init wsX1_init := goodIn_r _ [20, 21, 2, 3, 22, 23, 42, 43, 44, 45, 46, 47, 48, 49] (by decide +kernel) (by decide +kernel)
set_option maxRecDepth 20000 in
theorem gX2_init_X1_init : GoodIn wsX2_init (wsX1_init) := ggX2_init_X1_init
set_option maxRecDepth 20000 in
theorem ggX2_init_X4_fillRow : GoodIn wsX2_init wsX4_fillRow := goodIn_r _ [26] (by decide +kernel) (by decide +kernel)
set_option maxRecDepth 20000 in
theorem gX2_init_X4_fillRow_n50 : GoodIn wsX2_init (wsX4_fillRow) := ggX2_init_X4_fillRow
set_option maxRecDepth 20000 in
theorem ggX2_placeOf_X2_depth : GoodIn wsX2_placeOf wsX2_depth := goodIn_r _ [5, 6, 7, 8, 9, 10, 11, 12, 13, 14, 15, 16, 17, 18, 19, 20, 21] (by decide +kernel) (by decide +kernel)
set_option maxRecDepth 20000 in
theorem gX2_placeOf_X2_depth : GoodIn wsX2_placeOf (wsV RX2 54 RX2 yX2_depth wsX2_depth) := goodIn_app (goodIn_of _ (by decide +kernel)) ggX2_placeOf_X2_depth
set_option maxRecDepth 20000 in
theorem ggX2_around_X2_depth : GoodIn wsX2_around wsX2_depth := goodIn_r _ [5, 6, 7, 8, 9, 10, 11, 12, 13, 14, 15, 16, 17, 18, 19, 20, 21] (by decide +kernel) (by decide +kernel)
set_option maxRecDepth 20000 in
theorem gX2_around_X2_depth : GoodIn wsX2_around (wsV RX2 54 RX2 yX2_depth wsX2_depth) := goodIn_app (goodIn_of _ (by decide +kernel)) ggX2_around_X2_depth
set_option maxRecDepth 20000 in
theorem ggX2_fillToWriter_X2_pointerOf : GoodIn wsX2_fillToWriter wsX2_pointerOf := goodIn_r _ [6, 7, 17, 18, 19, 20, 21, 22, 23, 24, 25, 26, 27, 28, 29, 30, 31] (by decide +kernel) (by decide +kernel)
set_option maxRecDepth 20000 in
theorem gX2_fillToWriter_X2_pointerOf : GoodIn wsX2_fillToWriter (wsV RX2 64 RX2 yX2_pointerOf wsX2_pointerOf) := goodIn_app (goodIn_of _ (by decide +kernel)) ggX2_fillToWriter_X2_pointerOf
set_option maxRecDepth 20000 in
theorem ggX2_fillToWriter_X2_around : GoodIn wsX2_fillToWriter wsX2_around := goodIn_r _ [11, 12, 13, 14, 5, 15, 16, 17, 18, 19, 20, 21, 22, 23, 24, 25, 26, 27, 28, 29, 30, 31] (by decide +kernel) (by decide +kernel)
set_option maxRecDepth 20000 in
theorem gX2_fillToWriter_X2_around : GoodIn wsX2_fillToWriter (wsV RX2 68 RX2 yX2_around wsX2_around) := goodIn_app (goodIn_of _ (by decide +kernel)) ggX2_fillToWriter_X2_around
set_option maxRecDepth 20000 in
theorem ggX2_fillToReader_X2_pointerOf : GoodIn wsX2_fillToReader wsX2_pointerOf := goodIn_r _ [6, 7, 17, 18, 19, 20, 21, 22, 23, 24, 25, 26, 27, 28, 29, 30, 31] (by decide +kernel) (by decide +kernel)
set_option maxRecDepth 20000 in
theorem gX2_fillToReader_X2_pointerOf : GoodIn wsX2_fillToReader (wsV RX2 64 RX2 yX2_pointerOf wsX2_pointerOf) := goodIn_app (goodIn_of _ (by decide +kernel)) ggX2_fillToReader_X2_pointerOf
set_option maxRecDepth 20000 in
theorem ggX2_fillToReader_X2_around : GoodIn wsX2_fillToReader wsX2_around := goodIn_r _ [11, 12, 13, 14, 5, 15, 16, 17, 18, 19, 20, 21, 22, 23, 24, 25, 26, 27, 28, 29, 30, 31] (by decide +kernel) (by decide +kernel)
set_option maxRecDepth 20000 in
theorem gX2_fillToReader_X2_around : GoodIn wsX2_fillToReader (wsV RX2 68 RX2 yX2_around wsX2_around) := goodIn_app (goodIn_of _ (by decide +kernel)) ggX2_fillToReader_X2_around
set_option maxRecDepth 20000 in
theorem ggX2_seemsFull_X2_pointerOf : GoodIn wsX2_seemsFull wsX2_pointerOf := goodIn_r _ [6, 7, 17, 18, 19, 20, 21, 22, 23, 24, 25, 26, 27, 28, 29, 30, 31] (by decide +kernel) (by decide +kernel)
set_option maxRecDepth 20000 in
theorem gX2_seemsFull_X2_pointerOf : GoodIn wsX2_seemsFull (wsV RX2 64 RX2 yX2_pointerOf wsX2_pointerOf) := goodIn_app (goodIn_of _ (by decide +kernel)) ggX2_seemsFull_X2_pointerOf
set_option maxRecDepth 20000 in
theorem ggX2_seemsFull_X2_depth : GoodIn wsX2_seemsFull wsX2_depth := goodIn_r _ [11, 12, 17, 18, 19, 20, 21, 22, 23, 24, 25, 26, 27, 28, 29, 30, 31] (by decide +kernel) (by decide +kernel)
set_option maxRecDepth 20000 in
theorem gX2_seemsFull_X2_depth : GoodIn wsX2_seemsFull (wsV RX2 54 RX2 yX2_depth wsX2_depth) := goodIn_app (goodIn_of _ (by decide +kernel)) ggX2_seemsFull_X2_depth
set_option maxRecDepth 20000 in
theorem ggX2_seemsFull_X2_around : GoodIn wsX2_seemsFull wsX2_around := goodIn_r _ [16, 8, 9, 10, 5, 11, 12, 17, 18, 19, 20, 21, 22, 23, 24, 25, 26, 27, 28, 29, 30, 31] (by decide +kernel) (by decide +kernel)
set_option maxRecDepth 20000 in
theorem gX2_seemsFull_X2_around : GoodIn wsX2_seemsFull (wsV RX2 68 RX2 yX2_around wsX2_around) := goodIn_app (goodIn_of _ (by decide +kernel)) ggX2_seemsFull_X2_around
set_option maxRecDepth 20000 in
theorem ggX2_seemsEmpty_X2_pointerOf : GoodIn wsX2_seemsEmpty wsX2_pointerOf := goodIn_r _ [6, 7, 8, 9, 10, 11, 12, 13, 14, 15, 16, 17, 18, 19, 20, 21, 22] (by decide +kernel) (by decide +kernel)
set_option maxRecDepth 20000 in
theorem gX2_seemsEmpty_X2_pointerOf : GoodIn wsX2_seemsEmpty (wsV RX2 64 RX2 yX2_pointerOf wsX2_pointerOf) := goodIn_app (goodIn_of _ (by decide +kernel)) ggX2_seemsEmpty_X2_pointerOf
set_option maxRecDepth 20000 in
theorem ggX2_seemsNearFull_X2_fillToWriter : GoodIn wsX2_seemsNearFull wsX2_fillToWriter := goodIn_r _ [6, 7, 8, 9, 10, 5, 11, 12, 13, 14, 15, 16, 17, 18, 19, 20, 21, 22, 23, 24, 25, 26, 27, 28, 29, 30, 31, 32, 33, 34, 35, 36, 37, 38, 39, 40, 41, 42, 43, 44] (by decide +kernel) (by decide +kernel)
set_option maxRecDepth 20000 in
theorem gX2_seemsNearFull_X2_fillToWriter : GoodIn wsX2_seemsNearFull (wsV RX2 71 RX2 yX2_fillToWriter wsX2_fillToWriter) := goodIn_app (goodIn_of _ (by decide +kernel)) ggX2_seemsNearFull_X2_fillToWriter
set_option maxRecDepth 20000 in
theorem ggX2_seemsNearFull_X2_depth : GoodIn wsX2_seemsNearFull wsX2_depth := goodIn_r _ [20, 21, 22, 23, 24, 25, 26, 27, 28, 29, 30, 31, 32, 33, 34, 35, 36] (by decide +kernel) (by decide +kernel)
set_option maxRecDepth 20000 in
theorem gX2_seemsNearFull_X2_depth : GoodIn wsX2_seemsNearFull (wsV RX2 54 RX2 yX2_depth wsX2_depth) := goodIn_app (goodIn_of _ (by decide +kernel)) ggX2_seemsNearFull_X2_depth
set_option maxRecDepth 20000 in
theorem ggX2_seemsNearEmpty_X2_fillToReader : GoodIn wsX2_seemsNearEmpty wsX2_fillToReader := goodIn_r _ [6, 7, 8, 9, 10, 5, 11, 12, 13, 14, 15, 16, 17, 18, 19, 20, 21, 22, 23, 24, 25, 26, 27, 28, 29, 30, 31, 32, 33, 34, 35, 36, 37, 38, 39, 40, 41, 42, 43, 44] (by decide +kernel) (by decide +kernel)
set_option maxRecDepth 20000 in
theorem gX2_seemsNearEmpty_X2_fillToReader : GoodIn wsX2_seemsNearEmpty (wsV RX2 74 RX2 yX2_fillToReader wsX2_fillToReader) := goodIn_app (goodIn_of _ (by decide +kernel)) ggX2_seemsNearEmpty_X2_fillToReader
set_option maxRecDepth 20000 in
theorem ggX2_emptyRing_X1_clearPointers : GoodIn wsX2_emptyRing wsX1_clearPointers := goodIn_r _ [14, 15, 16, 17, 36, 37, 38, 39, 40, 41, 42, 43] (by decide +kernel) (by decide +kernel)
set_option maxRecDepth 20000 in
theorem gX2_emptyRing_X1_clearPointers : GoodIn wsX2_emptyRing (wsV RX2 77 RX1 yX1_clearPointers wsX1_clearPointers) := goodIn_app (goodIn_of _ (by decide +kernel)) ggX2_emptyRing_X1_clearPointers
set_option maxRecDepth 20000 in
theorem ggX2_emptyRing_X4_fillRow : GoodIn wsX2_emptyRing wsX4_fillRow := goodIn_r _ [20] (by decide +kernel) (by decide +kernel)
set_option maxRecDepth 20000 in
theorem gX2_emptyRing_X4_fillRow_n50 : GoodIn wsX2_emptyRing (wsX4_fillRow) := ggX2_emptyRing_X4_fillRow
set_option maxRecDepth 20000 in
theorem ggX2_letWait_X4_setAt : GoodIn wsX2_letWait wsX4_setAt := goodIn_r _ [5] (by decide +kernel) (by decide +kernel)
set_option maxRecDepth 20000 in
theorem gX2_letWait_X4_setAt_n92 : GoodIn wsX2_letWait (wsX4_setAt) := ggX2_letWait_X4_setAt
set_option maxRecDepth 20000 in
theorem ggX2_letPass_X2_step : GoodIn wsX2_letPass wsX2_step := goodIn_r _ [5, 6, 7, 8, 9, 10, 11, 12, 13, 14, 15, 16, 17, 18, 19, 20, 21, 22, 23, 4, 24, 25, 26, 27, 28, 29, 30, 31, 32, 33, 34, 35, 36, 37, 38, 39, 40, 41, 42, 43, 44, 45, 46, 47, 48, 49, 50, 51, 52, 53, 54, 55, 56, 57, 58, 59, 60, 61, 62, 63, 64, 65, 66, 67, 68, 69, 70, 71, 72, 73, 74, 75, 76, 77, 78, 79, 80, 81, 82, 83, 84, 85, 86, 87, 88, 89, 90, 91, 92, 93, 94, 95, 96, 97, 98, 99, 100] (by decide +kernel) (by decide +kernel)
set_option maxRecDepth 20000 in
theorem gX2_letPass_X2_step : GoodIn wsX2_letPass (wsV RX2 100 RX2 yX2_step wsX2_step) := goodIn_app (goodIn_of _ (by decide +kernel)) ggX2_letPass_X2_step
set_option maxRecDepth 20000 in
theorem ggX2_follow_X4_valueAt : GoodIn wsX2_follow wsX4_valueAt := goodIn_r _ [3] (by decide +kernel) (by decide +kernel)
set_option maxRecDepth 20000 in
theorem gX2_follow_X4_valueAt_n111 : GoodIn wsX2_follow (wsX4_valueAt) := ggX2_follow_X4_valueAt
set_option maxRecDepth 20000 in
theorem ggX2_follow_X2_letWait : GoodIn wsX2_follow wsX2_letWait := goodIn_r _ [8, 9, 10, 11, 2, 12, 97, 98, 99, 100, 101, 102, 103, 104, 105, 106, 107, 108, 109, 110, 111] (by decide +kernel) (by decide +kernel)
set_option maxRecDepth 20000 in
theorem gX2_follow_X2_letWait : GoodIn wsX2_follow (wsV RX2 118 RX2 yX2_letWait wsX2_letWait) := goodIn_app (goodIn_of _ (by decide +kernel)) ggX2_follow_X2_letWait
set_option maxRecDepth 20000 in
theorem ggX2_follow_X2_hasTimeFor : GoodIn wsX2_follow wsX2_hasTimeFor := goodIn_r _ [16, 17, 18, 97, 98, 99, 100, 101, 102, 103, 104, 105, 106, 107, 108, 109, 110, 111] (by decide +kernel) (by decide +kernel)
set_option maxRecDepth 20000 in
theorem gX2_follow_X2_hasTimeFor : GoodIn wsX2_follow (wsV RX2 122 RX2 yX2_hasTimeFor wsX2_hasTimeFor) := goodIn_app (goodIn_of _ (by decide +kernel)) ggX2_follow_X2_hasTimeFor
set_option maxRecDepth 20000 in
theorem ggX2_follow_X2_letPass : GoodIn wsX2_follow wsX2_letPass := goodIn_r _ [22, 23, 24, 25, 7, 26, 17, 27, 28, 9, 29, 30, 31, 32, 33, 34, 35, 36, 37, 2, 38, 39, 40, 41, 42, 43, 44, 45, 46, 47, 48, 49, 50, 51, 52, 53, 54, 55, 56, 57, 58, 59, 60, 61, 62, 63, 64, 65, 66, 67, 68, 69, 70, 71, 72, 73, 74, 75, 76, 77, 78, 79, 80, 81, 82, 83, 84, 85, 1, 3, 11, 12, 86, 87, 88, 89, 10, 90, 97, 98, 99, 100, 101, 102, 103, 104, 105, 106, 107, 108, 109, 110, 111, 112, 113, 114, 115, 116, 117, 118, 119] (by decide +kernel) (by decide +kernel)
set_option maxRecDepth 20000 in
theorem gX2_follow_X2_letPass : GoodIn wsX2_follow (wsV RX2 126 RX2 yX2_letPass wsX2_letPass) := goodIn_app (goodIn_of _ (by decide +kernel)) ggX2_follow_X2_letPass
set_option maxRecDepth 20000 in
theorem ggX2_stallsWithin_X1_ticksAt : GoodIn wsX2_stallsWithin wsX1_ticksAt := goodIn_r _ [8, 9, 10, 11, 12, 13, 14, 93, 94, 95, 96, 97, 98, 99, 100] (by decide +kernel) (by decide +kernel)
set_option maxRecDepth 20000 in
theorem gX2_stallsWithin_X1_ticksAt : GoodIn wsX2_stallsWithin (wsV RX2 129 RX1 yX1_ticksAt wsX1_ticksAt) := goodIn_app (goodIn_of _ (by decide +kernel)) ggX2_stallsWithin_X1_ticksAt
set_option maxRecDepth 20000 in
theorem ggX2_stallsWithin_X2_seemsFull : GoodIn wsX2_stallsWithin wsX2_seemsFull := goodIn_r _ [19, 1, 20, 21, 22, 18, 23, 24, 25, 26, 27, 28, 29, 30, 31, 32, 33, 78, 79, 80, 81, 82, 83, 84, 85, 86, 87, 88, 89, 90, 91, 92, 93, 94, 95, 96, 97, 98, 99, 100] (by decide +kernel) (by decide +kernel)
set_option maxRecDepth 20000 in
theorem gX2_stallsWithin_X2_seemsFull : GoodIn wsX2_stallsWithin (wsV RX2 132 RX2 yX2_seemsFull wsX2_seemsFull) := goodIn_app (goodIn_of _ (by decide +kernel)) ggX2_stallsWithin_X2_seemsFull
set_option maxRecDepth 20000 in
theorem ggX2_stallsWithin_X2_step : GoodIn wsX2_stallsWithin wsX2_step := goodIn_r _ [37, 2, 1, 38, 3, 4, 5, 6, 7, 8, 9, 10, 11, 12, 13, 14, 15, 16, 17, 18, 19, 20, 21, 22, 23, 24, 25, 26, 27, 28, 29, 30, 31, 32, 33, 39, 40, 41, 42, 43, 44, 45, 46, 47, 48, 49, 50, 51, 52, 53, 54, 55, 56, 57, 58, 59, 60, 61, 62, 63, 64, 65, 66, 67, 68, 69, 70, 71, 72, 73, 74, 75, 76, 77, 78, 79, 80, 81, 82, 83, 84, 85, 86, 87, 88, 89, 90, 91, 92, 93, 94, 95, 96, 97, 98, 99, 100] (by decide +kernel) (by decide +kernel)
set_option maxRecDepth 20000 in
theorem gX2_stallsWithin_X2_step : GoodIn wsX2_stallsWithin (wsV RX2 100 RX2 yX2_step wsX2_step) := goodIn_app (goodIn_of _ (by decide +kernel)) ggX2_stallsWithin_X2_step
set_option maxRecDepth 20000 in
theorem ggX2_step_X1_ticksAt : GoodIn wsX2_step wsX1_ticksAt := goodIn_r _ [9, 10, 11, 12, 13, 14, 15, 89, 90, 91, 92, 93, 94, 95, 96] (by decide +kernel) (by decide +kernel)
set_option maxRecDepth 20000 in
theorem gX2_step_X1_ticksAt : GoodIn wsX2_step (wsV RX2 129 RX1 yX1_ticksAt wsX1_ticksAt) := goodIn_app (goodIn_of _ (by decide +kernel)) ggX2_step_X1_ticksAt
set_option maxRecDepth 20000 in
theorem ggX2_step_X2_seemsFull : GoodIn wsX2_step wsX2_seemsFull := goodIn_r _ [20, 2, 21, 22, 23, 19, 24, 25, 26, 27, 28, 29, 30, 31, 32, 33, 34, 74, 75, 76, 77, 78, 79, 80, 81, 82, 83, 84, 85, 86, 87, 88, 89, 90, 91, 92, 93, 94, 95, 96] (by decide +kernel) (by decide +kernel)
set_option maxRecDepth 20000 in
theorem gX2_step_X2_seemsFull : GoodIn wsX2_step (wsV RX2 132 RX2 yX2_seemsFull wsX2_seemsFull) := goodIn_app (goodIn_of _ (by decide +kernel)) ggX2_step_X2_seemsFull
set_option maxRecDepth 20000 in
theorem ggX2_step_X2_seemsEmpty : GoodIn wsX2_step wsX2_seemsEmpty := goodIn_r _ [38, 3, 21, 22, 23, 19, 24, 25, 74, 75, 76, 77, 78, 79, 80, 81, 82, 83, 84, 85, 86, 87, 88, 89, 90, 91, 92, 93, 94, 95, 96] (by decide +kernel) (by decide +kernel)
set_option maxRecDepth 20000 in
theorem gX2_step_X2_seemsEmpty : GoodIn wsX2_step (wsV RX2 136 RX2 yX2_seemsEmpty wsX2_seemsEmpty) := goodIn_app (goodIn_of _ (by decide +kernel)) ggX2_step_X2_seemsEmpty
set_option maxRecDepth 20000 in
theorem ggX2_step_X2_codeOf : GoodIn wsX2_step wsX2_codeOf := goodIn_r _ [42, 25, 74, 75, 76, 77, 78, 79, 80, 81, 82, 83, 84, 85, 86, 87, 88] (by decide +kernel) (by decide +kernel)
set_option maxRecDepth 20000 in
theorem gX2_step_X2_codeOf : GoodIn wsX2_step (wsV RX2 139 RX2 yX2_codeOf wsX2_codeOf) := goodIn_app (goodIn_of _ (by decide +kernel)) ggX2_step_X2_codeOf
set_option maxRecDepth 20000 in
theorem ggX2_step_X2_around : GoodIn wsX2_step wsX2_around := goodIn_r _ [34, 26, 27, 28, 19, 29, 30, 74, 75, 76, 77, 78, 79, 80, 81, 82, 83, 84, 85, 86, 87, 88] (by decide +kernel) (by decide +kernel)
set_option maxRecDepth 20000 in
theorem gX2_step_X2_around : GoodIn wsX2_step (wsV RX2 68 RX2 yX2_around wsX2_around) := goodIn_app (goodIn_of _ (by decide +kernel)) ggX2_step_X2_around
set_option maxRecDepth 20000 in
theorem ggX2_step_X1_tick : GoodIn wsX2_step wsX1_tick := goodIn_r _ [46, 47, 48, 49, 50, 89, 90, 91, 92, 93, 94, 95, 96] (by decide +kernel) (by decide +kernel)
set_option maxRecDepth 20000 in
theorem gX2_step_X1_tick : GoodIn wsX2_step (wsV RX2 142 RX1 yX1_tick wsX1_tick) := goodIn_app (goodIn_of _ (by decide +kernel)) ggX2_step_X1_tick
set_option maxRecDepth 20000 in
theorem ggX2_step_X2_takeWord : GoodIn wsX2_step wsX2_takeWord := goodIn_r _ [54, 3, 55, 56, 57, 58, 59, 60, 61, 62, 19, 63, 26, 27, 28, 29, 30, 64, 14, 65, 66, 67, 31, 32, 33, 34, 74, 75, 76, 77, 78, 79, 80, 81, 82, 83, 84, 85, 86, 87, 88, 89, 90, 91, 92, 93, 94, 95, 96] (by decide +kernel) (by decide +kernel)
set_option maxRecDepth 20000 in
theorem gX2_step_X2_takeWord : GoodIn wsX2_step (wsV RX2 146 RX2 yX2_takeWord wsX2_takeWord) := goodIn_app (goodIn_of _ (by decide +kernel)) ggX2_step_X2_takeWord
set_option maxRecDepth 20000 in
theorem ggX2_step_X2_putWord : GoodIn wsX2_step wsX2_putWord := goodIn_r _ [71, 2, 55, 72, 56, 73, 4, 60, 61, 62, 19, 63, 26, 27, 28, 29, 30, 64, 14, 65, 66, 67, 31, 32, 33, 34, 74, 75, 76, 77, 78, 79, 80, 81, 82, 83, 84, 85, 86, 87, 88, 89, 90, 91, 92, 93, 94, 95, 96] (by decide +kernel) (by decide +kernel)
set_option maxRecDepth 20000 in
theorem gX2_step_X2_putWord : GoodIn wsX2_step (wsV RX2 149 RX2 yX2_putWord wsX2_putWord) := goodIn_app (goodIn_of _ (by decide +kernel)) ggX2_step_X2_putWord
set_option maxRecDepth 20000 in
theorem ggX2_takeWord_X2_placeOf : GoodIn wsX2_takeWord wsX2_placeOf := goodIn_r _ [11, 12, 13, 14, 10, 15, 16, 26, 27, 28, 29, 30, 31, 32, 33, 34, 35, 36, 37, 38, 39, 40] (by decide +kernel) (by decide +kernel)
set_option maxRecDepth 20000 in
theorem gX2_takeWord_X2_placeOf : GoodIn wsX2_takeWord (wsV RX2 152 RX2 yX2_placeOf wsX2_placeOf) := goodIn_app (goodIn_of _ (by decide +kernel)) ggX2_takeWord_X2_placeOf
set_option maxRecDepth 20000 in
theorem ggX2_takeWord_X4_valueAt : GoodIn wsX2_takeWord wsX4_valueAt := goodIn_r _ [19] (by decide +kernel) (by decide +kernel)
set_option maxRecDepth 20000 in
theorem gX2_takeWord_X4_valueAt_n111 : GoodIn wsX2_takeWord (wsX4_valueAt) := ggX2_takeWord_X4_valueAt
set_option maxRecDepth 20000 in
theorem ggX2_takeWord_X4_setAt : GoodIn wsX2_takeWord wsX4_setAt := goodIn_r _ [21] (by decide +kernel) (by decide +kernel)
set_option maxRecDepth 20000 in
theorem gX2_takeWord_X4_setAt_n92 : GoodIn wsX2_takeWord (wsX4_setAt) := ggX2_takeWord_X4_setAt
set_option maxRecDepth 20000 in
theorem ggX2_takeWord_X2_around : GoodIn wsX2_takeWord wsX2_around := goodIn_r _ [25, 12, 13, 14, 10, 15, 16, 26, 27, 28, 29, 30, 31, 32, 33, 34, 35, 36, 37, 38, 39, 40] (by decide +kernel) (by decide +kernel)
set_option maxRecDepth 20000 in
theorem gX2_takeWord_X2_around : GoodIn wsX2_takeWord (wsV RX2 68 RX2 yX2_around wsX2_around) := goodIn_app (goodIn_of _ (by decide +kernel)) ggX2_takeWord_X2_around
set_option maxRecDepth 20000 in
theorem ggX2_putWord_X2_placeOf : GoodIn wsX2_putWord wsX2_placeOf := goodIn_r _ [11, 12, 13, 14, 10, 15, 16, 26, 27, 28, 29, 30, 31, 32, 33, 34, 35, 36, 37, 38, 39, 40] (by decide +kernel) (by decide +kernel)
set_option maxRecDepth 20000 in
theorem gX2_putWord_X2_placeOf : GoodIn wsX2_putWord (wsV RX2 152 RX2 yX2_placeOf wsX2_placeOf) := goodIn_app (goodIn_of _ (by decide +kernel)) ggX2_putWord_X2_placeOf
set_option maxRecDepth 20000 in
theorem ggX2_putWord_X4_valueAt : GoodIn wsX2_putWord wsX4_valueAt := goodIn_r _ [19] (by decide +kernel) (by decide +kernel)
set_option maxRecDepth 20000 in
theorem gX2_putWord_X4_valueAt_n111 : GoodIn wsX2_putWord (wsX4_valueAt) := ggX2_putWord_X4_valueAt
set_option maxRecDepth 20000 in
theorem ggX2_putWord_X4_setAt : GoodIn wsX2_putWord wsX4_setAt := goodIn_r _ [21] (by decide +kernel) (by decide +kernel)
set_option maxRecDepth 20000 in
theorem gX2_putWord_X4_setAt_n92 : GoodIn wsX2_putWord (wsX4_setAt) := ggX2_putWord_X4_setAt
set_option maxRecDepth 20000 in
theorem ggX2_putWord_X2_around : GoodIn wsX2_putWord wsX2_around := goodIn_r _ [25, 12, 13, 14, 10, 15, 16, 26, 27, 28, 29, 30, 31, 32, 33, 34, 35, 36, 37, 38, 39, 40] (by decide +kernel) (by decide +kernel)
set_option maxRecDepth 20000 in
theorem gX2_putWord_X2_around : GoodIn wsX2_putWord (wsV RX2 68 RX2 yX2_around wsX2_around) := goodIn_app (goodIn_of _ (by decide +kernel)) ggX2_putWord_X2_around
set_option maxRecDepth 20000 in
theorem ggX2_latestCame_X4_valueAt : GoodIn wsX2_latestCame wsX4_valueAt := goodIn_r _ [5] (by decide +kernel) (by decide +kernel)
set_option maxRecDepth 20000 in
theorem gX2_latestCame_X4_valueAt_n111 : GoodIn wsX2_latestCame (wsX4_valueAt) := ggX2_latestCame_X4_valueAt
set_option maxRecDepth 20000 in
theorem ggX2_copy_X1_copy : GoodIn wsX2_copy wsX1_copy := goodIn_r _ [20, 21, 22, 23, 24, 25, 26, 27, 28, 47, 48, 49, 50, 51, 52, 53, 54] (by decide +kernel) (by decide +kernel)
set_option maxRecDepth 20000 in
theorem gX2_copy_X1_copy : GoodIn wsX2_copy (wsV RX2 155 RX1 yX1_copy wsX1_copy) := goodIn_app (goodIn_of _ (by decide +kernel)) ggX2_copy_X1_copy
set_option maxRecDepth 20000 in
theorem ggX2_copy_X4_copyRow : GoodIn wsX2_copy wsX4_copyRow := goodIn_r _ [31] (by decide +kernel) (by decide +kernel)
set_option maxRecDepth 20000 in
theorem gX2_copy_X4_copyRow_n159 : GoodIn wsX2_copy (wsX4_copyRow) := ggX2_copy_X4_copyRow
set_option maxRecDepth 20000 in
theorem ggX3_read_X3_readPart : GoodIn wsX3_read wsX3_readPart := goodIn_r _ [8, 2, 9, 10, 11, 7, 12, 13, 14, 15, 16, 17, 3, 18, 19, 20, 21, 22, 23, 24, 25, 26, 27, 28, 29, 1, 30, 31, 32, 33, 34, 35, 36, 37, 38, 39, 40] (by decide +kernel) (by decide +kernel)
set_option maxRecDepth 20000 in
theorem gX3_read_X3_readPart : GoodIn wsX3_read (wsV RX3 32 RX3 yX3_readPart wsX3_readPart) := goodIn_app (goodIn_of _ (by decide +kernel)) ggX3_read_X3_readPart
set_option maxRecDepth 20000 in
theorem ggX3_read_X3_readSign : GoodIn wsX3_read wsX3_readSign := goodIn_r _ [12, 13, 2, 14, 15, 16, 7, 17, 3, 35, 36, 37, 38, 39, 40] (by decide +kernel) (by decide +kernel)
set_option maxRecDepth 20000 in
theorem gX3_read_X3_readSign : GoodIn wsX3_read (wsV RX3 36 RX3 yX3_readSign wsX3_readSign) := goodIn_app (goodIn_of _ (by decide +kernel)) ggX3_read_X3_readSign
set_option maxRecDepth 20000 in
theorem ggX3_wordsInParts_X4_valueAt : GoodIn wsX3_wordsInParts wsX4_valueAt := goodIn_r _ [6] (by decide +kernel) (by decide +kernel)
set_option maxRecDepth 20000 in
theorem gX3_wordsInParts_X4_valueAt_n40 : GoodIn wsX3_wordsInParts (wsX4_valueAt) := ggX3_wordsInParts_X4_valueAt
set_option maxRecDepth 20000 in
theorem ggX3_readPart_X3_readSign : GoodIn wsX3_readPart wsX3_readSign := goodIn_r _ [6, 7, 1, 8, 9, 10, 5, 11, 12, 31, 32, 33, 34, 35, 36] (by decide +kernel) (by decide +kernel)
set_option maxRecDepth 20000 in
theorem gX3_readPart_X3_readSign : GoodIn wsX3_readPart (wsV RX3 36 RX3 yX3_readSign wsX3_readSign) := goodIn_app (goodIn_of _ (by decide +kernel)) ggX3_readPart_X3_readSign
set_option maxRecDepth 20000 in
theorem ggX3_readPart_X3_readNumber : GoodIn wsX3_readPart wsX3_readNumber := goodIn_r _ [16, 1, 17, 18, 19, 5, 20, 7, 8, 9, 10, 11, 12, 31, 32, 33, 34, 35, 36] (by decide +kernel) (by decide +kernel)
set_option maxRecDepth 20000 in
theorem gX3_readPart_X3_readNumber : GoodIn wsX3_readPart (wsV RX3 44 RX3 yX3_readNumber wsX3_readNumber) := goodIn_app (goodIn_of _ (by decide +kernel)) ggX3_readPart_X3_readNumber
set_option maxRecDepth 20000 in
theorem ggX3_readPart_X3_addPart : GoodIn wsX3_readPart wsX3_addPart := goodIn_r _ [24, 25, 26, 27, 28, 29, 30, 31, 32, 33, 34, 35, 36] (by decide +kernel) (by decide +kernel)
set_option maxRecDepth 20000 in
theorem gX3_readPart_X3_addPart : GoodIn wsX3_readPart (wsV RX3 48 RX3 yX3_addPart wsX3_addPart) := goodIn_app (goodIn_of _ (by decide +kernel)) ggX3_readPart_X3_addPart
set_option maxRecDepth 20000 in
theorem ggX3_readPart_X3_digitAtCursor : GoodIn wsX3_readPart wsX3_digitAtCursor := goodIn_r _ [20, 7, 1, 8, 9, 10, 5, 11, 12, 31, 32, 33, 34, 35, 36] (by decide +kernel) (by decide +kernel)
set_option maxRecDepth 20000 in
theorem gX3_readPart_X3_digitAtCursor : GoodIn wsX3_readPart (wsV RX3 52 RX3 yX3_digitAtCursor wsX3_digitAtCursor) := goodIn_app (goodIn_of _ (by decide +kernel)) ggX3_readPart_X3_digitAtCursor
set_option maxRecDepth 20000 in
theorem ggX3_readNumber_X3_digitAtCursor : GoodIn wsX3_readNumber wsX3_digitAtCursor := goodIn_r _ [6, 7, 1, 8, 9, 10, 5, 11, 12, 13, 14, 15, 16, 17, 18] (by decide +kernel) (by decide +kernel)
set_option maxRecDepth 20000 in
theorem gX3_readNumber_X3_digitAtCursor : GoodIn wsX3_readNumber (wsV RX3 52 RX3 yX3_digitAtCursor wsX3_digitAtCursor) := goodIn_app (goodIn_of _ (by decide +kernel)) ggX3_readNumber_X3_digitAtCursor
set_option maxRecDepth 20000 in
theorem ggX3_readSign_X3_hasSign : GoodIn wsX3_readSign wsX3_hasSign := goodIn_r _ [7, 2, 8, 1, 9, 10, 11, 12, 13, 14] (by decide +kernel) (by decide +kernel)
set_option maxRecDepth 20000 in
theorem gX3_readSign_X3_hasSign : GoodIn wsX3_readSign (wsV RX3 56 RX3 yX3_hasSign wsX3_hasSign) := goodIn_app (goodIn_of _ (by decide +kernel)) ggX3_readSign_X3_hasSign
set_option maxRecDepth 20000 in
theorem ggX3_digitAtCursor_X3_hasSign : GoodIn wsX3_digitAtCursor wsX3_hasSign := goodIn_r _ [7, 2, 8, 1, 9, 10, 11, 12, 13, 14] (by decide +kernel) (by decide +kernel)
set_option maxRecDepth 20000 in
theorem gX3_digitAtCursor_X3_hasSign : GoodIn wsX3_digitAtCursor (wsV RX3 56 RX3 yX3_hasSign wsX3_hasSign) := goodIn_app (goodIn_of _ (by decide +kernel)) ggX3_digitAtCursor_X3_hasSign
set_option maxRecDepth 20000 in
theorem ggX3_addPart_X4_setAt : GoodIn wsX3_addPart wsX4_setAt := goodIn_r _ [6] (by decide +kernel) (by decide +kernel)
set_option maxRecDepth 20000 in
theorem gX3_addPart_X4_setAt_n59 : GoodIn wsX3_addPart (wsX4_setAt) := ggX3_addPart_X4_setAt
set_option maxRecDepth 20000 in
theorem ggX4_init_X2_init : GoodIn wsX4_init wsX2_init := goodIn_r _ [20, 21, 2, 3, 22, 23, 24, 25, 26, 27, 28, 29, 30, 31, 32, 33, 34, 35, 36, 37, 38, 39, 40, 41, 42, 43, 44, 59, 60, 61, 62, 63, 64, 65, 66, 67, 68, 69, 70, 71, 72, 73, 89, 90, 91, 92, 93, 94, 95, 96] (by decide +kernel) (by decide +kernel)
set_option maxRecDepth 20000 in
theorem gX4_init_X2_init : GoodIn wsX4_init (wsX2_init) := ggX4_init_X2_init
set_option maxRecDepth 20000 in
theorem ggX4_init_X0_init : GoodIn wsX4_init wsX0_init := goodIn_r _ [47, 48, 2, 3, 49, 50, 5, 6, 51, 19, 20, 21, 22, 23, 24, 25, 26, 27, 28, 29, 30, 31, 32, 33, 34, 35, 36, 37, 38, 39, 40, 41, 42, 43, 44, 80, 81, 82, 59, 60, 61, 62, 63, 64, 65, 66, 67, 68, 69, 70, 71, 72, 73, 89, 90, 91, 92, 93, 94, 95, 96] (by decide +kernel) (by decide +kernel)
set_option maxRecDepth 20000 in
theorem gX4_init_X0_init : GoodIn wsX4_init (wsX0_init) := ggX4_init_X0_init
set_option maxRecDepth 20000 in
theorem ggX4_init_X3_init : GoodIn wsX4_init wsX3_init := goodIn_r _ [53, 54, 2, 3, 55, 56, 31, 57, 58, 83, 84, 85, 86, 87, 88] (by decide +kernel) (by decide +kernel)
set_option maxRecDepth 20000 in
theorem gX4_init_X3_init_n31 : GoodIn wsX4_init (wsX3_init) := ggX4_init_X3_init
set_option maxRecDepth 20000 in
theorem ggX4_build_X4_isWithin : GoodIn wsX4_build wsX4_isWithin := goodIn_r _ [6] (by decide +kernel) (by decide +kernel)
set_option maxRecDepth 20000 in
theorem gX4_build_X4_isWithin : GoodIn wsX4_build (va_wsS RX4 36 yX4_isWithin wsX4_isWithin) := goodIn_app (goodIn_of _ (by decide +kernel)) ggX4_build_X4_isWithin
set_option maxRecDepth 20000 in
theorem ggX4_build_X0_add : GoodIn wsX4_build wsX0_add := goodIn_r _ [11, 12, 13, 14, 5, 15, 16, 17, 18, 10, 19, 20, 21, 22, 23, 24, 25, 26, 27, 28, 29, 30, 31, 32, 33, 34, 35, 36, 37, 38, 39, 40, 41, 42, 43, 44, 45, 46, 47, 48, 49, 50, 51, 52, 53, 54, 55, 91, 92, 93, 76, 77, 78, 79, 80, 81, 82, 83, 84, 85, 86, 87, 88, 89, 90, 94, 95, 96, 97, 98, 99, 100, 101] (by decide +kernel) (by decide +kernel)
set_option maxRecDepth 20000 in
theorem gX4_build_X0_add : GoodIn wsX4_build (wsV RX4 40 RX0 yX0_add wsX0_add) := goodIn_app (goodIn_of _ (by decide +kernel)) ggX4_build_X0_add
set_option maxRecDepth 20000 in
theorem ggX4_build_X2_emptyRing : GoodIn wsX4_build wsX2_emptyRing := goodIn_r _ [59, 26, 27, 31, 32, 33, 34, 38, 39, 40, 60, 61, 62, 44, 63, 49, 50, 51, 64, 5, 65, 76, 77, 78, 79, 80, 81, 82, 83, 84, 85, 86, 87, 88, 89, 90, 94, 95, 96, 97, 98, 99, 100, 101] (by decide +kernel) (by decide +kernel)
set_option maxRecDepth 20000 in
theorem gX4_build_X2_emptyRing : GoodIn wsX4_build (wsV RX4 44 RX2 yX2_emptyRing wsX2_emptyRing) := goodIn_app (goodIn_of _ (by decide +kernel)) ggX4_build_X2_emptyRing
set_option maxRecDepth 20000 in
theorem ggX4_build_X2_depth : GoodIn wsX4_build wsX2_depth := goodIn_r _ [69, 26, 76, 77, 78, 79, 80, 81, 82, 83, 84, 85, 86, 87, 88, 89, 90] (by decide +kernel) (by decide +kernel)
set_option maxRecDepth 20000 in
theorem gX4_build_X2_depth : GoodIn wsX4_build (wsV RX4 52 RX2 yX2_depth wsX2_depth) := goodIn_app (goodIn_of _ (by decide +kernel)) ggX4_build_X2_depth
set_option maxRecDepth 20000 in
theorem ggX4_setClock_X4_isSide : GoodIn wsX4_setClock wsX4_isSide := goodIn_r _ [6] (by decide +kernel) (by decide +kernel)
set_option maxRecDepth 20000 in
theorem gX4_setClock_X4_isSide : GoodIn wsX4_setClock (va_wsS RX4 56 yX4_isSide wsX4_isSide) := goodIn_app (goodIn_of _ (by decide +kernel)) ggX4_setClock_X4_isSide
set_option maxRecDepth 20000 in
theorem ggX4_setClock_X4_isWithin : GoodIn wsX4_setClock wsX4_isWithin := goodIn_r _ [9] (by decide +kernel) (by decide +kernel)
set_option maxRecDepth 20000 in
theorem gX4_setClock_X4_isWithin : GoodIn wsX4_setClock (va_wsS RX4 36 yX4_isWithin wsX4_isWithin) := goodIn_app (goodIn_of _ (by decide +kernel)) ggX4_setClock_X4_isWithin
set_option maxRecDepth 20000 in
theorem ggX4_setClock_X2_sideOf : GoodIn wsX4_setClock wsX2_sideOf := goodIn_r _ [14, 15, 16, 77, 78, 79, 80, 81, 82, 83, 84, 85, 86, 87, 88, 89, 90, 91] (by decide +kernel) (by decide +kernel)
set_option maxRecDepth 20000 in
theorem gX4_setClock_X2_sideOf : GoodIn wsX4_setClock (wsV RX4 60 RX2 yX2_sideOf wsX2_sideOf) := goodIn_app (goodIn_of _ (by decide +kernel)) ggX4_setClock_X2_sideOf
set_option maxRecDepth 20000 in
theorem ggX4_setClock_X0_add : GoodIn wsX4_setClock wsX0_add := goodIn_r _ [21, 22, 23, 24, 5, 25, 26, 27, 28, 20, 29, 30, 31, 32, 33, 13, 34, 35, 36, 37, 38, 39, 15, 16, 40, 41, 42, 43, 44, 45, 46, 47, 48, 49, 50, 51, 52, 53, 54, 55, 56, 57, 58, 59, 60, 61, 62, 92, 93, 94, 77, 78, 79, 80, 81, 82, 83, 84, 85, 86, 87, 88, 89, 90, 91, 69, 70, 71, 72, 73, 74, 75, 76] (by decide +kernel) (by decide +kernel)
set_option maxRecDepth 20000 in
theorem gX4_setClock_X0_add : GoodIn wsX4_setClock (wsV RX4 40 RX0 yX0_add wsX0_add) := goodIn_app (goodIn_of _ (by decide +kernel)) ggX4_setClock_X0_add
set_option maxRecDepth 20000 in
theorem ggX4_start_X4_isSide : GoodIn wsX4_start wsX4_isSide := goodIn_r _ [6] (by decide +kernel) (by decide +kernel)
set_option maxRecDepth 20000 in
theorem gX4_start_X4_isSide : GoodIn wsX4_start (va_wsS RX4 56 yX4_isSide wsX4_isSide) := goodIn_app (goodIn_of _ (by decide +kernel)) ggX4_start_X4_isSide
set_option maxRecDepth 20000 in
theorem ggX4_start_X2_sideOf : GoodIn wsX4_start wsX2_sideOf := goodIn_r _ [11, 12, 13, 74, 75, 76, 77, 78, 79, 80, 81, 82, 83, 84, 85, 86, 87, 88] (by decide +kernel) (by decide +kernel)
set_option maxRecDepth 20000 in
theorem gX4_start_X2_sideOf : GoodIn wsX4_start (wsV RX4 60 RX2 yX2_sideOf wsX2_sideOf) := goodIn_app (goodIn_of _ (by decide +kernel)) ggX4_start_X2_sideOf
set_option maxRecDepth 20000 in
theorem ggX4_start_X0_add : GoodIn wsX4_start wsX0_add := goodIn_r _ [18, 19, 20, 21, 5, 22, 23, 24, 25, 17, 26, 27, 28, 29, 30, 10, 31, 32, 33, 34, 35, 36, 12, 13, 37, 38, 39, 40, 41, 42, 43, 44, 45, 46, 47, 48, 49, 50, 51, 52, 53, 54, 55, 56, 57, 58, 59, 89, 90, 91, 74, 75, 76, 77, 78, 79, 80, 81, 82, 83, 84, 85, 86, 87, 88, 66, 67, 68, 69, 70, 71, 72, 73] (by decide +kernel) (by decide +kernel)
set_option maxRecDepth 20000 in
theorem gX4_start_X0_add : GoodIn wsX4_start (wsV RX4 40 RX0 yX0_add wsX0_add) := goodIn_app (goodIn_of _ (by decide +kernel)) ggX4_start_X0_add
set_option maxRecDepth 20000 in
theorem ggX4_set_X4_isWithin : GoodIn wsX4_set wsX4_isWithin := goodIn_r _ [6] (by decide +kernel) (by decide +kernel)
set_option maxRecDepth 20000 in
theorem gX4_set_X4_isWithin : GoodIn wsX4_set (va_wsS RX4 36 yX4_isWithin wsX4_isWithin) := goodIn_app (goodIn_of _ (by decide +kernel)) ggX4_set_X4_isWithin
set_option maxRecDepth 20000 in
theorem ggX4_set_X0_add : GoodIn wsX4_set wsX0_add := goodIn_r _ [11, 12, 13, 14, 5, 15, 16, 17, 18, 10, 19, 20, 21, 22, 23, 24, 25, 26, 27, 28, 29, 30, 31, 32, 33, 34, 35, 36, 37, 38, 39, 40, 41, 42, 43, 44, 45, 46, 47, 48, 49, 50, 51, 52, 53, 54, 55, 77, 78, 79, 62, 63, 64, 65, 66, 67, 68, 69, 70, 71, 72, 73, 74, 75, 76, 80, 81, 82, 83, 84, 85, 86, 87] (by decide +kernel) (by decide +kernel)
set_option maxRecDepth 20000 in
theorem gX4_set_X0_add : GoodIn wsX4_set (wsV RX4 40 RX0 yX0_add wsX0_add) := goodIn_app (goodIn_of _ (by decide +kernel)) ggX4_set_X0_add
set_option maxRecDepth 20000 in
theorem ggX4_push_X4_isWithin : GoodIn wsX4_push wsX4_isWithin := goodIn_r _ [6] (by decide +kernel) (by decide +kernel)
set_option maxRecDepth 20000 in
theorem gX4_push_X4_isWithin : GoodIn wsX4_push (va_wsS RX4 36 yX4_isWithin wsX4_isWithin) := goodIn_app (goodIn_of _ (by decide +kernel)) ggX4_push_X4_isWithin
set_option maxRecDepth 20000 in
theorem ggX4_push_X0_add : GoodIn wsX4_push wsX0_add := goodIn_r _ [11, 12, 13, 14, 5, 15, 16, 17, 18, 10, 19, 20, 21, 22, 23, 24, 25, 26, 27, 28, 29, 30, 31, 32, 33, 34, 35, 36, 37, 38, 39, 40, 41, 42, 43, 44, 45, 46, 47, 48, 49, 50, 51, 52, 53, 54, 55, 83, 84, 85, 68, 69, 70, 71, 72, 73, 74, 75, 76, 77, 78, 79, 80, 81, 82, 86, 87, 88, 89, 90, 91, 92, 93] (by decide +kernel) (by decide +kernel)
set_option maxRecDepth 20000 in
theorem gX4_push_X0_add : GoodIn wsX4_push (wsV RX4 40 RX0 yX0_add wsX0_add) := goodIn_app (goodIn_of _ (by decide +kernel)) ggX4_push_X0_add
set_option maxRecDepth 20000 in
theorem ggX4_push_X2_letWait : GoodIn wsX4_push wsX2_letWait := goodIn_r _ [59, 36, 35, 60, 5, 61, 68, 69, 70, 71, 72, 73, 74, 75, 76, 77, 78, 79, 80, 81, 82] (by decide +kernel) (by decide +kernel)
set_option maxRecDepth 20000 in
theorem gX4_push_X2_letWait : GoodIn wsX4_push (wsV RX4 85 RX2 yX2_letWait wsX2_letWait) := goodIn_app (goodIn_of _ (by decide +kernel)) ggX4_push_X2_letWait
set_option maxRecDepth 20000 in
theorem ggX4_pushAll_X3_read : GoodIn wsX4_pushAll wsX3_read := goodIn_r _ [9, 10, 11, 12, 13, 14, 15, 8, 16, 17, 18, 19, 20, 21, 22, 23, 24, 25, 26, 27, 28, 29, 30, 31, 32, 33, 34, 35, 36, 37, 38, 39, 40, 41, 42, 170, 171, 172, 173, 174, 175] (by decide +kernel) (by decide +kernel)
set_option maxRecDepth 20000 in
theorem gX4_pushAll_X3_read : GoodIn wsX4_pushAll (wsV RX4 89 RX3 yX3_read wsX3_read) := goodIn_app (goodIn_of _ (by decide +kernel)) ggX4_pushAll_X3_read
set_option maxRecDepth 20000 in
theorem ggX4_pushAll_X2_copy : GoodIn wsX4_pushAll wsX2_copy := goodIn_r _ [47, 48, 49, 50, 51, 52, 53, 54, 55, 56, 57, 58, 59, 60, 61, 62, 63, 64, 65, 66, 67, 68, 69, 70, 71, 72, 73, 74, 75, 76, 41, 77, 176, 177, 178, 179, 180, 181, 182, 183, 184, 185, 186, 187, 188, 189, 190, 191, 192, 193, 194, 195, 196, 197, 198] (by decide +kernel) (by decide +kernel)
set_option maxRecDepth 20000 in
theorem gX4_pushAll_X2_copy : GoodIn wsX4_pushAll (wsV RX4 92 RX2 yX2_copy wsX2_copy) := goodIn_app (goodIn_of _ (by decide +kernel)) ggX4_pushAll_X2_copy
set_option maxRecDepth 20000 in
theorem ggX4_pushAll_X2_follow : GoodIn wsX4_pushAll wsX2_follow := goodIn_r _ [81, 82, 41, 83, 84, 85, 86, 46, 87, 58, 57, 40, 42, 88, 89, 90, 91, 50, 92, 93, 94, 95, 96, 97, 98, 99, 100, 53, 54, 101, 102, 103, 66, 104, 70, 69, 68, 105, 106, 107, 108, 109, 110, 111, 112, 113, 114, 49, 115, 116, 117, 118, 48, 119, 120, 121, 122, 123, 124, 125, 126, 127, 128, 129, 130, 131, 132, 133, 134, 74, 75, 72, 73, 135, 136, 137, 138, 55, 56, 61, 59, 62, 139, 140, 141, 142, 143, 144, 145, 146, 60, 170, 171, 172, 173, 174, 175, 176, 177, 178, 179, 180, 181, 182, 183, 184, 185, 186, 187, 188, 189, 190, 191, 192, 193, 194, 195, 196, 197, 198] (by decide +kernel) (by decide +kernel)
set_option maxRecDepth 20000 in
theorem gX4_pushAll_X2_follow : GoodIn wsX4_pushAll (wsV RX4 95 RX2 yX2_follow wsX2_follow) := goodIn_app (goodIn_of _ (by decide +kernel)) ggX4_pushAll_X2_follow
set_option maxRecDepth 20000 in
theorem ggX4_pushAll_X0_add : GoodIn wsX4_pushAll wsX0_add := goodIn_r _ [151, 152, 153, 105, 41, 106, 154, 155, 156, 150, 157, 158, 159, 44, 45, 46, 47, 48, 49, 50, 51, 52, 53, 54, 55, 56, 57, 58, 59, 60, 61, 62, 63, 64, 65, 66, 67, 68, 69, 70, 71, 72, 73, 74, 75, 76, 77, 199, 200, 201, 176, 177, 178, 179, 180, 181, 182, 183, 184, 185, 186, 187, 188, 189, 190, 191, 192, 193, 194, 195, 196, 197, 198] (by decide +kernel) (by decide +kernel)
set_option maxRecDepth 20000 in
theorem gX4_pushAll_X0_add : GoodIn wsX4_pushAll (wsV RX4 40 RX0 yX0_add wsX0_add) := goodIn_app (goodIn_of _ (by decide +kernel)) ggX4_pushAll_X0_add
set_option maxRecDepth 20000 in
theorem ggX4_pushAll_X3_wordsInParts : GoodIn wsX4_pushAll wsX3_wordsInParts := goodIn_r _ [163, 10, 38, 39, 82, 41, 83, 170, 171, 172, 173, 174, 175] (by decide +kernel) (by decide +kernel)
set_option maxRecDepth 20000 in
theorem gX4_pushAll_X3_wordsInParts : GoodIn wsX4_pushAll (wsV RX4 99 RX3 yX3_wordsInParts wsX3_wordsInParts) := goodIn_app (goodIn_of _ (by decide +kernel)) ggX4_pushAll_X3_wordsInParts
set_option maxRecDepth 20000 in
theorem ggX4_pass_X4_isWithin : GoodIn wsX4_pass wsX4_isWithin := goodIn_r _ [6] (by decide +kernel) (by decide +kernel)
set_option maxRecDepth 20000 in
theorem gX4_pass_X4_isWithin : GoodIn wsX4_pass (va_wsS RX4 36 yX4_isWithin wsX4_isWithin) := goodIn_app (goodIn_of _ (by decide +kernel)) ggX4_pass_X4_isWithin
set_option maxRecDepth 20000 in
theorem ggX4_pass_X2_hasTimeFor : GoodIn wsX4_pass wsX2_hasTimeFor := goodIn_r _ [11, 12, 13, 123, 124, 125, 126, 127, 128, 129, 130, 131, 132, 133, 134, 135, 136, 137] (by decide +kernel) (by decide +kernel)
set_option maxRecDepth 20000 in
theorem gX4_pass_X2_hasTimeFor : GoodIn wsX4_pass (wsV RX4 102 RX2 yX2_hasTimeFor wsX2_hasTimeFor) := goodIn_app (goodIn_of _ (by decide +kernel)) ggX4_pass_X2_hasTimeFor
set_option maxRecDepth 20000 in
theorem ggX4_pass_X0_add : GoodIn wsX4_pass wsX0_add := goodIn_r _ [18, 19, 20, 21, 5, 22, 23, 24, 25, 17, 26, 27, 28, 29, 30, 10, 31, 32, 33, 12, 34, 35, 36, 37, 38, 39, 40, 41, 42, 43, 44, 45, 46, 47, 48, 49, 50, 51, 52, 53, 54, 55, 56, 57, 58, 59, 60, 138, 139, 140, 123, 124, 125, 126, 127, 128, 129, 130, 131, 132, 133, 134, 135, 136, 137, 141, 142, 143, 144, 145, 146, 147, 148] (by decide +kernel) (by decide +kernel)
set_option maxRecDepth 20000 in
theorem gX4_pass_X0_add : GoodIn wsX4_pass (wsV RX4 40 RX0 yX0_add wsX0_add) := goodIn_app (goodIn_of _ (by decide +kernel)) ggX4_pass_X0_add
set_option maxRecDepth 20000 in
theorem ggX4_pass_X2_letPass : GoodIn wsX4_pass wsX2_letPass := goodIn_r _ [64, 65, 66, 67, 10, 68, 12, 36, 37, 41, 69, 70, 71, 49, 72, 53, 52, 51, 21, 5, 22, 73, 74, 75, 76, 77, 78, 79, 80, 33, 81, 82, 83, 84, 32, 85, 86, 87, 88, 89, 90, 91, 92, 93, 94, 95, 96, 97, 98, 99, 100, 57, 58, 55, 56, 101, 102, 103, 104, 38, 39, 44, 42, 45, 105, 106, 107, 108, 109, 110, 111, 112, 113, 114, 115, 116, 40, 43, 123, 124, 125, 126, 127, 128, 129, 130, 131, 132, 133, 134, 135, 136, 137, 141, 142, 143, 144, 145, 146, 147, 148] (by decide +kernel) (by decide +kernel)
set_option maxRecDepth 20000 in
theorem gX4_pass_X2_letPass : GoodIn wsX4_pass (wsV RX4 108 RX2 yX2_letPass wsX2_letPass) := goodIn_app (goodIn_of _ (by decide +kernel)) ggX4_pass_X2_letPass
set_option maxRecDepth 20000 in
theorem ggX4_type_X3_append : GoodIn wsX4_type wsX3_append := goodIn_r _ [6, 7, 8, 15, 16, 17, 18, 19, 20] (by decide +kernel) (by decide +kernel)
set_option maxRecDepth 20000 in
theorem gX4_type_X3_append : GoodIn wsX4_type (wsV RX4 112 RX3 yX3_append wsX3_append) := goodIn_app (goodIn_of _ (by decide +kernel)) ggX4_type_X3_append
set_option maxRecDepth 20000 in
theorem ggX4_undo_X0_moveLatestTo : GoodIn wsX4_undo wsX0_moveLatestTo := goodIn_r _ [7, 8, 9, 10, 11, 6, 12, 13, 14, 15, 16, 17, 18, 19, 20, 21, 22, 23, 24, 25, 26, 27, 28, 29, 30, 31, 32, 33, 34, 35, 36, 37, 38, 39, 40, 41, 42, 43, 44, 45, 46, 47, 48, 49, 50, 51, 52, 59, 60, 61, 62, 63, 64, 65, 66, 67, 68, 69, 70, 71, 72, 73, 74, 75, 76, 77, 78, 79, 80, 81, 82, 83, 84] (by decide +kernel) (by decide +kernel)
set_option maxRecDepth 20000 in
theorem gX4_undo_X0_moveLatestTo : GoodIn wsX4_undo (wsV RX4 119 RX0 yX0_moveLatestTo wsX0_moveLatestTo) := goodIn_app (goodIn_of _ (by decide +kernel)) ggX4_undo_X0_moveLatestTo
set_option maxRecDepth 20000 in
theorem ggX4_keep_X2_copy : GoodIn wsX4_keep wsX2_copy := goodIn_r _ [8, 9, 10, 11, 12, 13, 14, 15, 16, 17, 18, 19, 20, 21, 22, 23, 24, 25, 26, 27, 28, 29, 30, 31, 32, 33, 34, 35, 36, 37, 38, 39, 46, 47, 48, 49, 50, 51, 52, 53, 54, 55, 56, 57, 58, 59, 60, 61, 62, 63, 64, 65, 66, 67, 68] (by decide +kernel) (by decide +kernel)
set_option maxRecDepth 20000 in
theorem gX4_keep_X2_copy : GoodIn wsX4_keep (wsV RX4 92 RX2 yX2_copy wsX2_copy) := goodIn_app (goodIn_of _ (by decide +kernel)) ggX4_keep_X2_copy
set_option maxRecDepth 20000 in
theorem ggX4_restore_X0_add : GoodIn wsX4_restore wsX0_add := goodIn_r _ [9, 10, 11, 12, 13, 14, 15, 16, 17, 8, 18, 19, 20, 21, 22, 23, 24, 25, 26, 27, 28, 29, 30, 31, 32, 33, 34, 35, 36, 37, 38, 39, 40, 41, 42, 43, 44, 45, 46, 47, 48, 49, 50, 51, 52, 53, 54, 77, 78, 79, 62, 63, 64, 65, 66, 67, 68, 69, 70, 71, 72, 73, 74, 75, 76, 80, 81, 82, 83, 84, 85, 86, 87] (by decide +kernel) (by decide +kernel)
set_option maxRecDepth 20000 in
theorem gX4_restore_X0_add : GoodIn wsX4_restore (wsV RX4 40 RX0 yX0_add wsX0_add) := goodIn_app (goodIn_of _ (by decide +kernel)) ggX4_restore_X0_add
set_option maxRecDepth 20000 in
theorem ggX4_restore_X2_copy : GoodIn wsX4_restore wsX2_copy := goodIn_r _ [24, 25, 26, 27, 28, 29, 30, 31, 32, 33, 34, 35, 36, 37, 38, 39, 40, 41, 42, 43, 44, 45, 46, 47, 48, 49, 50, 51, 52, 53, 13, 54, 62, 63, 64, 65, 66, 67, 68, 69, 70, 71, 72, 73, 74, 75, 76, 80, 81, 82, 83, 84, 85, 86, 87] (by decide +kernel) (by decide +kernel)
set_option maxRecDepth 20000 in
theorem gX4_restore_X2_copy : GoodIn wsX4_restore (wsV RX4 92 RX2 yX2_copy wsX2_copy) := goodIn_app (goodIn_of _ (by decide +kernel)) ggX4_restore_X2_copy
set_option maxRecDepth 20000 in
theorem ggX4_side_X4_isSide : GoodIn wsX4_side wsX4_isSide := goodIn_r _ [5] (by decide +kernel) (by decide +kernel)
set_option maxRecDepth 20000 in
theorem gX4_side_X4_isSide : GoodIn wsX4_side (va_wsS RX4 56 yX4_isSide wsX4_isSide) := goodIn_app (goodIn_of _ (by decide +kernel)) ggX4_side_X4_isSide
set_option maxRecDepth 20000 in
theorem ggX4_side_X2_sideOf : GoodIn wsX4_side wsX2_sideOf := goodIn_r _ [10, 11, 12, 87, 88, 89, 90, 91, 92, 93, 94, 95, 96, 97, 98, 99, 100, 101] (by decide +kernel) (by decide +kernel)
set_option maxRecDepth 20000 in
theorem gX4_side_X2_sideOf : GoodIn wsX4_side (wsV RX4 60 RX2 yX2_sideOf wsX2_sideOf) := goodIn_app (goodIn_of _ (by decide +kernel)) ggX4_side_X2_sideOf
set_option maxRecDepth 20000 in
theorem ggX4_side_X4_asNumber : GoodIn wsX4_side wsX4_asNumber := goodIn_r _ [15] (by decide +kernel) (by decide +kernel)
set_option maxRecDepth 20000 in
theorem gX4_side_X4_asNumber : GoodIn wsX4_side (va_wsS RX4 129 yX4_asNumber wsX4_asNumber) := goodIn_app (goodIn_of _ (by decide +kernel)) ggX4_side_X4_asNumber
set_option maxRecDepth 20000 in
theorem ggX4_side_X2_codeOf : GoodIn wsX4_side wsX2_codeOf := goodIn_r _ [19, 20, 87, 88, 89, 90, 91, 92, 93, 94, 95, 96, 97, 98, 99, 100, 101] (by decide +kernel) (by decide +kernel)
set_option maxRecDepth 20000 in
theorem gX4_side_X2_codeOf : GoodIn wsX4_side (wsV RX4 136 RX2 yX2_codeOf wsX2_codeOf) := goodIn_app (goodIn_of _ (by decide +kernel)) ggX4_side_X2_codeOf
set_option maxRecDepth 20000 in
theorem ggX4_side_X2_pointerOf : GoodIn wsX4_side wsX2_pointerOf := goodIn_r _ [24, 20, 87, 88, 89, 90, 91, 92, 93, 94, 95, 96, 97, 98, 99, 100, 101] (by decide +kernel) (by decide +kernel)
set_option maxRecDepth 20000 in
theorem gX4_side_X2_pointerOf : GoodIn wsX4_side (wsV RX4 146 RX2 yX2_pointerOf wsX2_pointerOf) := goodIn_app (goodIn_of _ (by decide +kernel)) ggX4_side_X2_pointerOf
set_option maxRecDepth 20000 in
theorem ggX4_side_X2_fillToWriter : GoodIn wsX4_side wsX2_fillToWriter := goodIn_r _ [28, 11, 29, 22, 23, 9, 24, 20, 30, 31, 32, 33, 34, 35, 36, 37, 38, 87, 88, 89, 90, 91, 92, 93, 94, 95, 96, 97, 98, 99, 100, 101, 79, 80, 81, 82, 83, 84, 85, 86] (by decide +kernel) (by decide +kernel)
set_option maxRecDepth 20000 in
theorem gX4_side_X2_fillToWriter : GoodIn wsX4_side (wsV RX4 149 RX2 yX2_fillToWriter wsX2_fillToWriter) := goodIn_app (goodIn_of _ (by decide +kernel)) ggX4_side_X2_fillToWriter
set_option maxRecDepth 20000 in
theorem ggX4_side_X2_fillToReader : GoodIn wsX4_side wsX2_fillToReader := goodIn_r _ [42, 12, 29, 22, 23, 9, 24, 20, 30, 31, 32, 33, 34, 35, 36, 37, 38, 87, 88, 89, 90, 91, 92, 93, 94, 95, 96, 97, 98, 99, 100, 101, 79, 80, 81, 82, 83, 84, 85, 86] (by decide +kernel) (by decide +kernel)
set_option maxRecDepth 20000 in
theorem gX4_side_X2_fillToReader : GoodIn wsX4_side (wsV RX4 152 RX2 yX2_fillToReader wsX2_fillToReader) := goodIn_app (goodIn_of _ (by decide +kernel)) ggX4_side_X2_fillToReader
set_option maxRecDepth 20000 in
theorem ggX4_side_X2_seemsFull : GoodIn wsX4_side wsX2_seemsFull := goodIn_r _ [46, 11, 29, 22, 23, 9, 24, 20, 34, 35, 36, 37, 38, 30, 31, 32, 33, 87, 88, 89, 90, 91, 92, 93, 94, 95, 96, 97, 98, 99, 100, 101, 79, 80, 81, 82, 83, 84, 85, 86] (by decide +kernel) (by decide +kernel)
set_option maxRecDepth 20000 in
theorem gX4_side_X2_seemsFull : GoodIn wsX4_side (wsV RX4 155 RX2 yX2_seemsFull wsX2_seemsFull) := goodIn_app (goodIn_of _ (by decide +kernel)) ggX4_side_X2_seemsFull
set_option maxRecDepth 20000 in
theorem ggX4_side_X2_seemsEmpty : GoodIn wsX4_side wsX2_seemsEmpty := goodIn_r _ [50, 12, 29, 22, 23, 9, 24, 20, 87, 88, 89, 90, 91, 92, 93, 94, 95, 96, 97, 98, 99, 100, 101, 79, 80, 81, 82, 83, 84, 85, 86] (by decide +kernel) (by decide +kernel)
set_option maxRecDepth 20000 in
theorem gX4_side_X2_seemsEmpty : GoodIn wsX4_side (wsV RX4 159 RX2 yX2_seemsEmpty wsX2_seemsEmpty) := goodIn_app (goodIn_of _ (by decide +kernel)) ggX4_side_X2_seemsEmpty
set_option maxRecDepth 20000 in
theorem ggX4_side_X2_seemsNearFull : GoodIn wsX4_side wsX2_seemsNearFull := goodIn_r _ [54, 55, 56, 26, 27, 9, 28, 11, 29, 22, 23, 24, 20, 30, 31, 32, 33, 34, 35, 36, 37, 38, 87, 88, 89, 90, 91, 92, 93, 94, 95, 96, 97, 98, 99, 100, 101, 79, 80, 81, 82, 83, 84, 85, 86] (by decide +kernel) (by decide +kernel)
set_option maxRecDepth 20000 in
theorem gX4_side_X2_seemsNearFull : GoodIn wsX4_side (wsV RX4 162 RX2 yX2_seemsNearFull wsX2_seemsNearFull) := goodIn_app (goodIn_of _ (by decide +kernel)) ggX4_side_X2_seemsNearFull
set_option maxRecDepth 20000 in
theorem ggX4_side_X2_seemsNearEmpty : GoodIn wsX4_side wsX2_seemsNearEmpty := goodIn_r _ [60, 61, 62, 40, 41, 9, 42, 12, 29, 22, 23, 24, 20, 30, 31, 32, 33, 34, 35, 36, 37, 38, 87, 88, 89, 90, 91, 92, 93, 94, 95, 96, 97, 98, 99, 100, 101, 79, 80, 81, 82, 83, 84, 85, 86] (by decide +kernel) (by decide +kernel)
set_option maxRecDepth 20000 in
theorem gX4_side_X2_seemsNearEmpty : GoodIn wsX4_side (wsV RX4 165 RX2 yX2_seemsNearEmpty wsX2_seemsNearEmpty) := goodIn_app (goodIn_of _ (by decide +kernel)) ggX4_side_X2_seemsNearEmpty
set_option maxRecDepth 20000 in
theorem ggX4_side_X1_timesToTick : GoodIn wsX4_side wsX1_timesToTick := goodIn_r _ [67, 68, 69, 70, 71, 4, 72, 79, 80, 81, 82, 83, 84, 85, 86] (by decide +kernel) (by decide +kernel)
set_option maxRecDepth 20000 in
theorem gX4_side_X1_timesToTick : GoodIn wsX4_side (wsV RX4 168 RX1 yX1_timesToTick wsX1_timesToTick) := goodIn_app (goodIn_of _ (by decide +kernel)) ggX4_side_X1_timesToTick
set_option maxRecDepth 20000 in
theorem ggX4_place_X2_depth : GoodIn wsX4_place wsX2_depth := goodIn_r _ [6, 7, 21, 22, 23, 24, 25, 26, 27, 28, 29, 30, 31, 32, 33, 34, 35] (by decide +kernel) (by decide +kernel)
set_option maxRecDepth 20000 in
theorem gX4_place_X2_depth : GoodIn wsX4_place (wsV RX4 52 RX2 yX2_depth wsX2_depth) := goodIn_app (goodIn_of _ (by decide +kernel)) ggX4_place_X2_depth
set_option maxRecDepth 20000 in
theorem ggX4_place_X4_isWithin : GoodIn wsX4_place wsX4_isWithin := goodIn_r _ [11] (by decide +kernel) (by decide +kernel)
set_option maxRecDepth 20000 in
theorem gX4_place_X4_isWithin : GoodIn wsX4_place (va_wsS RX4 36 yX4_isWithin wsX4_isWithin) := goodIn_app (goodIn_of _ (by decide +kernel)) ggX4_place_X4_isWithin
set_option maxRecDepth 20000 in
theorem ggX4_place_X4_valueAt : GoodIn wsX4_place wsX4_valueAt := goodIn_r _ [14] (by decide +kernel) (by decide +kernel)
set_option maxRecDepth 20000 in
theorem gX4_place_X4_valueAt : GoodIn wsX4_place (va_wsS RX4 181 yX4_valueAt wsX4_valueAt) := goodIn_app (goodIn_of _ (by decide +kernel)) ggX4_place_X4_valueAt
set_option maxRecDepth 20000 in
theorem ggX4_waiting_X4_valueAt : GoodIn wsX4_waiting wsX4_valueAt := goodIn_r _ [5] (by decide +kernel) (by decide +kernel)
set_option maxRecDepth 20000 in
theorem gX4_waiting_X4_valueAt : GoodIn wsX4_waiting (va_wsS RX4 181 yX4_valueAt wsX4_valueAt) := goodIn_app (goodIn_of _ (by decide +kernel)) ggX4_waiting_X4_valueAt
set_option maxRecDepth 20000 in
theorem ggX4_taken_X2_latestCame : GoodIn wsX4_taken wsX2_latestCame := goodIn_r _ [6, 7, 8, 9, 10, 11, 18, 19, 20, 21, 22, 23, 24, 25, 26, 27, 28, 29, 30, 31, 32] (by decide +kernel) (by decide +kernel)
set_option maxRecDepth 20000 in
theorem gX4_taken_X2_latestCame : GoodIn wsX4_taken (wsV RX4 191 RX2 yX2_latestCame wsX2_latestCame) := goodIn_app (goodIn_of _ (by decide +kernel)) ggX4_taken_X2_latestCame
set_option maxRecDepth 20000 in
theorem ggX4_doneIn_X2_copy : GoodIn wsX4_doneIn wsX2_copy := goodIn_r _ [7, 8, 9, 10, 11, 12, 13, 14, 15, 16, 17, 18, 19, 20, 21, 22, 23, 24, 25, 26, 27, 28, 29, 30, 31, 32, 33, 34, 35, 36, 37, 38, 103, 104, 105, 106, 107, 108, 109, 110, 111, 112, 113, 114, 115, 116, 117, 118, 119, 120, 121, 122, 123, 124, 125] (by decide +kernel) (by decide +kernel)
set_option maxRecDepth 20000 in
theorem gX4_doneIn_X2_copy : GoodIn wsX4_doneIn (wsV RX4 92 RX2 yX2_copy wsX2_copy) := goodIn_app (goodIn_of _ (by decide +kernel)) ggX4_doneIn_X2_copy
set_option maxRecDepth 20000 in
theorem ggX4_doneIn_X2_isDone : GoodIn wsX4_doneIn wsX2_isDone := goodIn_r _ [42, 18, 21, 20, 103, 104, 105, 106, 107, 108, 109, 110, 111, 112, 113, 114, 115, 116, 117] (by decide +kernel) (by decide +kernel)
set_option maxRecDepth 20000 in
theorem gX4_doneIn_X2_isDone : GoodIn wsX4_doneIn (wsV RX4 194 RX2 yX2_isDone wsX2_isDone) := goodIn_app (goodIn_of _ (by decide +kernel)) ggX4_doneIn_X2_isDone
set_option maxRecDepth 20000 in
theorem ggX4_doneIn_X2_step : GoodIn wsX4_doneIn wsX2_step := goodIn_r _ [46, 10, 13, 14, 18, 47, 48, 49, 26, 50, 30, 29, 28, 51, 37, 52, 53, 54, 55, 6, 56, 57, 58, 59, 60, 9, 61, 62, 63, 64, 8, 65, 66, 67, 68, 69, 70, 71, 72, 73, 74, 75, 76, 77, 78, 79, 80, 34, 35, 32, 33, 81, 82, 83, 84, 15, 16, 21, 19, 22, 85, 86, 87, 88, 89, 90, 91, 92, 93, 94, 95, 96, 17, 20, 103, 104, 105, 106, 107, 108, 109, 110, 111, 112, 113, 114, 115, 116, 117, 118, 119, 120, 121, 122, 123, 124, 125] (by decide +kernel) (by decide +kernel)
set_option maxRecDepth 20000 in
theorem gX4_doneIn_X2_step : GoodIn wsX4_doneIn (wsV RX4 197 RX2 yX2_step wsX2_step) := goodIn_app (goodIn_of _ (by decide +kernel)) ggX4_doneIn_X2_step
set_option maxRecDepth 20000 in
theorem ggX4_leastDepth_X4_isWithin : GoodIn wsX4_leastDepth wsX4_isWithin := goodIn_r _ [6] (by decide +kernel) (by decide +kernel)
set_option maxRecDepth 20000 in
theorem gX4_leastDepth_X4_isWithin : GoodIn wsX4_leastDepth (va_wsS RX4 36 yX4_isWithin wsX4_isWithin) := goodIn_app (goodIn_of _ (by decide +kernel)) ggX4_leastDepth_X4_isWithin
set_option maxRecDepth 20000 in
theorem ggX4_leastDepth_X2_copy : GoodIn wsX4_leastDepth wsX2_copy := goodIn_r _ [11, 12, 13, 14, 15, 16, 17, 18, 19, 20, 21, 22, 23, 24, 25, 26, 27, 28, 29, 30, 31, 32, 33, 34, 35, 36, 37, 38, 39, 40, 5, 41, 116, 117, 118, 119, 120, 121, 122, 123, 124, 125, 126, 127, 128, 129, 130, 131, 132, 133, 134, 135, 136, 137, 138] (by decide +kernel) (by decide +kernel)
set_option maxRecDepth 20000 in
theorem gX4_leastDepth_X2_copy : GoodIn wsX4_leastDepth (wsV RX4 92 RX2 yX2_copy wsX2_copy) := goodIn_app (goodIn_of _ (by decide +kernel)) ggX4_leastDepth_X2_copy
set_option maxRecDepth 20000 in
theorem ggX4_leastDepth_X2_emptyRing : GoodIn wsX4_leastDepth wsX2_emptyRing := goodIn_r _ [45, 12, 13, 17, 18, 19, 20, 24, 25, 26, 46, 47, 48, 30, 49, 35, 36, 37, 50, 5, 51, 116, 117, 118, 119, 120, 121, 122, 123, 124, 125, 126, 127, 128, 129, 130, 131, 132, 133, 134, 135, 136, 137, 138] (by decide +kernel) (by decide +kernel)
set_option maxRecDepth 20000 in
theorem gX4_leastDepth_X2_emptyRing : GoodIn wsX4_leastDepth (wsV RX4 44 RX2 yX2_emptyRing wsX2_emptyRing) := goodIn_app (goodIn_of _ (by decide +kernel)) ggX4_leastDepth_X2_emptyRing
set_option maxRecDepth 20000 in
theorem ggX4_leastDepth_X2_stallsWithin : GoodIn wsX4_leastDepth wsX2_stallsWithin := goodIn_r _ [55, 17, 14, 22, 56, 57, 58, 30, 59, 34, 33, 32, 60, 5, 61, 62, 63, 64, 10, 65, 66, 67, 68, 69, 13, 70, 71, 72, 73, 12, 74, 75, 76, 77, 78, 79, 80, 81, 18, 82, 83, 84, 85, 86, 87, 88, 89, 90, 91, 92, 93, 38, 39, 36, 37, 94, 95, 96, 97, 19, 20, 25, 23, 26, 98, 99, 100, 101, 102, 103, 104, 105, 106, 107, 108, 109, 21, 24, 116, 117, 118, 119, 120, 121, 122, 123, 124, 125, 126, 127, 128, 129, 130, 131, 132, 133, 134, 135, 136, 137, 138] (by decide +kernel) (by decide +kernel)
set_option maxRecDepth 20000 in
theorem gX4_leastDepth_X2_stallsWithin : GoodIn wsX4_leastDepth (wsV RX4 203 RX2 yX2_stallsWithin wsX2_stallsWithin) := goodIn_app (goodIn_of _ (by decide +kernel)) ggX4_leastDepth_X2_stallsWithin
set_option maxRecDepth 20000 in
theorem ggX4_count_X2_depth : GoodIn wsX4_count wsX2_depth := goodIn_r _ [8, 9, 25, 26, 27, 28, 29, 30, 31, 32, 33, 34, 35, 36, 37, 38, 39] (by decide +kernel) (by decide +kernel)
set_option maxRecDepth 20000 in
theorem gX4_count_X2_depth : GoodIn wsX4_count (wsV RX4 52 RX2 yX2_depth wsX2_depth) := goodIn_app (goodIn_of _ (by decide +kernel)) ggX4_count_X2_depth
set_option maxRecDepth 20000 in
theorem ggX4_count_X4_asNumber : GoodIn wsX4_count wsX4_asNumber := goodIn_r _ [13] (by decide +kernel) (by decide +kernel)
set_option maxRecDepth 20000 in
theorem gX4_count_X4_asNumber : GoodIn wsX4_count (va_wsS RX4 129 yX4_asNumber wsX4_asNumber) := goodIn_app (goodIn_of _ (by decide +kernel)) ggX4_count_X4_asNumber
set_option maxRecDepth 20000 in
theorem ggX4_count_X2_around : GoodIn wsX4_count wsX2_around := goodIn_r _ [17, 18, 5, 6, 7, 8, 9, 25, 26, 27, 28, 29, 30, 31, 32, 33, 34, 35, 36, 37, 38, 39] (by decide +kernel) (by decide +kernel)
set_option maxRecDepth 20000 in
theorem gX4_count_X2_around : GoodIn wsX4_count (wsV RX4 216 RX2 yX2_around wsX2_around) := goodIn_app (goodIn_of _ (by decide +kernel)) ggX4_count_X2_around
set_option maxRecDepth 20000 in
theorem ggX5_init_X5_builds : GoodIn wsX5_init wsX5_builds := goodIn_r _ [15, 5, 16, 17, 18, 14, 19, 20, 21, 22, 23, 24, 25, 26, 27, 28, 29, 30, 31, 32, 33] (by decide +kernel) (by decide +kernel)
set_option maxRecDepth 20000 in
theorem gX5_init_X5_builds : GoodIn wsX5_init (wsV RX5 28 RX5 yX5_builds wsX5_builds) := goodIn_app (goodIn_of _ (by decide +kernel)) ggX5_init_X5_builds
set_option maxRecDepth 20000 in
theorem ggX5_remember_X5_copy : GoodIn wsX5_remember wsX5_copy := goodIn_r _ [6] (by decide +kernel) (by decide +kernel)
set_option maxRecDepth 20000 in
theorem gX5_remember_X5_copy : GoodIn wsX5_remember (va_wsS RX5 32 yX5_copy wsX5_copy) := goodIn_app (goodIn_of _ (by decide +kernel)) ggX5_remember_X5_copy
set_option maxRecDepth 20000 in
theorem ggX5_around_X5_depth : GoodIn wsX5_around wsX5_depth := goodIn_r _ [5, 6, 7, 8, 9, 10, 11, 12, 13, 14, 15, 16, 17, 18, 19, 20] (by decide +kernel) (by decide +kernel)
set_option maxRecDepth 20000 in
theorem gX5_around_X5_depth : GoodIn wsX5_around (wsV RX5 40 RX5 yX5_depth wsX5_depth) := goodIn_app (goodIn_of _ (by decide +kernel)) ggX5_around_X5_depth
set_option maxRecDepth 20000 in
theorem ggX5_seen_X5_of : GoodIn wsX5_seen wsX5_of := goodIn_r _ [5, 6, 11, 12, 13, 14, 15, 16, 17, 18, 19, 20, 21, 22, 23, 24] (by decide +kernel) (by decide +kernel)
set_option maxRecDepth 20000 in
theorem gX5_seen_X5_of : GoodIn wsX5_seen (wsV RX5 44 RX5 yX5_of wsX5_of) := goodIn_app (goodIn_of _ (by decide +kernel)) ggX5_seen_X5_of
set_option maxRecDepth 20000 in
theorem ggX5_seen_X5_pointerOf : GoodIn wsX5_seen wsX5_pointerOf := goodIn_r _ [10, 6, 11, 12, 13, 14, 15, 16, 17, 18, 19, 20, 21, 22, 23, 24] (by decide +kernel) (by decide +kernel)
set_option maxRecDepth 20000 in
theorem gX5_seen_X5_pointerOf : GoodIn wsX5_seen (wsV RX5 48 RX5 yX5_pointerOf wsX5_pointerOf) := goodIn_app (goodIn_of _ (by decide +kernel)) ggX5_seen_X5_pointerOf
set_option maxRecDepth 20000 in
theorem ggX5_fillSeen_X5_of : GoodIn wsX5_fillSeen wsX5_of := goodIn_r _ [5, 6, 23, 24, 25, 26, 27, 28, 29, 30, 31, 32, 33, 34, 35, 36] (by decide +kernel) (by decide +kernel)
set_option maxRecDepth 20000 in
theorem gX5_fillSeen_X5_of : GoodIn wsX5_fillSeen (wsV RX5 44 RX5 yX5_of wsX5_of) := goodIn_app (goodIn_of _ (by decide +kernel)) ggX5_fillSeen_X5_of
set_option maxRecDepth 20000 in
theorem ggX5_fillSeen_X5_seen : GoodIn wsX5_fillSeen wsX5_seen := goodIn_r _ [10, 1, 2, 3, 4, 5, 6, 11, 12, 13, 14, 23, 24, 25, 26, 27, 28, 29, 30, 31, 32, 33, 34, 35, 36] (by decide +kernel) (by decide +kernel)
set_option maxRecDepth 20000 in
theorem gX5_fillSeen_X5_seen : GoodIn wsX5_fillSeen (wsV RX5 52 RX5 yX5_seen wsX5_seen) := goodIn_app (goodIn_of _ (by decide +kernel)) ggX5_fillSeen_X5_seen
set_option maxRecDepth 20000 in
theorem ggX5_fillSeen_X5_around : GoodIn wsX5_fillSeen wsX5_around := goodIn_r _ [18, 19, 20, 21, 4, 22, 6, 23, 24, 25, 26, 27, 28, 29, 30, 31, 32, 33, 34, 35, 36] (by decide +kernel) (by decide +kernel)
set_option maxRecDepth 20000 in
theorem gX5_fillSeen_X5_around : GoodIn wsX5_fillSeen (wsV RX5 55 RX5 yX5_around wsX5_around) := goodIn_app (goodIn_of _ (by decide +kernel)) ggX5_fillSeen_X5_around
set_option maxRecDepth 20000 in
theorem ggX5_seems_X5_fillSeen : GoodIn wsX5_seems wsX5_fillSeen := goodIn_r _ [5, 6, 7, 8, 4, 9, 10, 11, 12, 13, 14, 15, 16, 17, 18, 19, 20, 21, 22, 23, 24, 25, 26, 27, 28, 29, 30, 31, 32, 33, 34, 35, 36, 37, 38, 39, 40] (by decide +kernel) (by decide +kernel)
set_option maxRecDepth 20000 in
theorem gX5_seems_X5_fillSeen : GoodIn wsX5_seems (wsV RX5 58 RX5 yX5_fillSeen wsX5_fillSeen) := goodIn_app (goodIn_of _ (by decide +kernel)) ggX5_seems_X5_fillSeen
set_option maxRecDepth 20000 in
theorem ggX5_seems_X5_depth : GoodIn wsX5_seems wsX5_depth := goodIn_r _ [26, 10, 27, 28, 29, 30, 31, 32, 33, 34, 35, 36, 37, 38, 39, 40] (by decide +kernel) (by decide +kernel)
set_option maxRecDepth 20000 in
theorem gX5_seems_X5_depth : GoodIn wsX5_seems (wsV RX5 40 RX5 yX5_depth wsX5_depth) := goodIn_app (goodIn_of _ (by decide +kernel)) ggX5_seems_X5_depth
set_option maxRecDepth 20000 in
theorem ggX5_ticksAt_X5_of : GoodIn wsX5_ticksAt wsX5_of := goodIn_r _ [5, 6, 7, 8, 9, 10, 11, 12, 13, 14, 15, 16, 17, 18, 19, 20] (by decide +kernel) (by decide +kernel)
set_option maxRecDepth 20000 in
theorem gX5_ticksAt_X5_of : GoodIn wsX5_ticksAt (wsV RX5 44 RX5 yX5_of wsX5_of) := goodIn_app (goodIn_of _ (by decide +kernel)) ggX5_ticksAt_X5_of
set_option maxRecDepth 20000 in
theorem ggX5_acts_X5_seems : GoodIn wsX5_acts wsX5_seems := goodIn_r _ [6, 7, 8, 9, 5, 10, 11, 12, 13, 14, 1, 15, 16, 17, 18, 19, 20, 21, 22, 23, 24, 25, 26, 27, 28, 29, 30, 31, 32, 33, 34, 35, 36, 37, 38, 39, 40, 41, 42, 43, 44] (by decide +kernel) (by decide +kernel)
set_option maxRecDepth 20000 in
theorem gX5_acts_X5_seems : GoodIn wsX5_acts (wsV RX5 61 RX5 yX5_seems wsX5_seems) := goodIn_app (goodIn_of _ (by decide +kernel)) ggX5_acts_X5_seems
set_option maxRecDepth 20000 in
theorem ggX5_sampleOf_X5_codeOf : GoodIn wsX5_sampleOf wsX5_codeOf := goodIn_r _ [5, 6, 15, 16, 17, 18, 19, 20, 21, 22, 23, 24, 25, 26, 27, 28] (by decide +kernel) (by decide +kernel)
set_option maxRecDepth 20000 in
theorem gX5_sampleOf_X5_codeOf : GoodIn wsX5_sampleOf (wsV RX5 65 RX5 yX5_codeOf wsX5_codeOf) := goodIn_app (goodIn_of _ (by decide +kernel)) ggX5_sampleOf_X5_codeOf
set_option maxRecDepth 20000 in
theorem ggX5_sampleOf_X5_around : GoodIn wsX5_sampleOf wsX5_around := goodIn_r _ [10, 11, 12, 13, 4, 14, 6, 15, 16, 17, 18, 19, 20, 21, 22, 23, 24, 25, 26, 27, 28] (by decide +kernel) (by decide +kernel)
set_option maxRecDepth 20000 in
theorem gX5_sampleOf_X5_around : GoodIn wsX5_sampleOf (wsV RX5 55 RX5 yX5_around wsX5_around) := goodIn_app (goodIn_of _ (by decide +kernel)) ggX5_sampleOf_X5_around
set_option maxRecDepth 20000 in
theorem ggX5_samples_X5_of : GoodIn wsX5_samples wsX5_of := goodIn_r _ [5, 6, 11, 12, 13, 14, 15, 16, 17, 18, 19, 20, 21, 22, 23, 24] (by decide +kernel) (by decide +kernel)
set_option maxRecDepth 20000 in
theorem gX5_samples_X5_of : GoodIn wsX5_samples (wsV RX5 44 RX5 yX5_of wsX5_of) := goodIn_app (goodIn_of _ (by decide +kernel)) ggX5_samples_X5_of
set_option maxRecDepth 20000 in
theorem ggX5_samples_X5_to : GoodIn wsX5_samples wsX5_to := goodIn_r _ [10, 6, 11, 12, 13, 14, 15, 16, 17, 18, 19, 20, 21, 22, 23, 24] (by decide +kernel) (by decide +kernel)
set_option maxRecDepth 20000 in
theorem gX5_samples_X5_to : GoodIn wsX5_samples (wsV RX5 68 RX5 yX5_to wsX5_to) := goodIn_app (goodIn_of _ (by decide +kernel)) ggX5_samples_X5_to
set_option maxRecDepth 20000 in
theorem ggX5_takes_X5_of : GoodIn wsX5_takes wsX5_of := goodIn_r _ [6, 1, 23, 24, 25, 26, 27, 28, 29, 30, 31, 32, 33, 34, 35, 36] (by decide +kernel) (by decide +kernel)
set_option maxRecDepth 20000 in
theorem gX5_takes_X5_of : GoodIn wsX5_takes (wsV RX5 44 RX5 yX5_of wsX5_of) := goodIn_app (goodIn_of _ (by decide +kernel)) ggX5_takes_X5_of
set_option maxRecDepth 20000 in
theorem ggX5_takes_X5_depth : GoodIn wsX5_takes wsX5_depth := goodIn_r _ [10, 1, 23, 24, 25, 26, 27, 28, 29, 30, 31, 32, 33, 34, 35, 36] (by decide +kernel) (by decide +kernel)
set_option maxRecDepth 20000 in
theorem gX5_takes_X5_depth : GoodIn wsX5_takes (wsV RX5 40 RX5 yX5_depth wsX5_depth) := goodIn_app (goodIn_of _ (by decide +kernel)) ggX5_takes_X5_depth
set_option maxRecDepth 20000 in
theorem ggX5_takes_X5_tells : GoodIn wsX5_takes wsX5_tells := goodIn_r _ [14, 1, 23, 24, 25, 26, 27, 28, 29, 30, 31, 32, 33, 34, 35, 36] (by decide +kernel) (by decide +kernel)
set_option maxRecDepth 20000 in
theorem gX5_takes_X5_tells : GoodIn wsX5_takes (wsV RX5 72 RX5 yX5_tells wsX5_tells) := goodIn_app (goodIn_of _ (by decide +kernel)) ggX5_takes_X5_tells
set_option maxRecDepth 20000 in
theorem ggX5_takes_X5_around : GoodIn wsX5_takes wsX5_around := goodIn_r _ [18, 7, 8, 9, 5, 10, 1, 23, 24, 25, 26, 27, 28, 29, 30, 31, 32, 33, 34, 35, 36] (by decide +kernel) (by decide +kernel)
set_option maxRecDepth 20000 in
theorem gX5_takes_X5_around : GoodIn wsX5_takes (wsV RX5 55 RX5 yX5_around wsX5_around) := goodIn_app (goodIn_of _ (by decide +kernel)) ggX5_takes_X5_around
set_option maxRecDepth 20000 in
theorem ggX5_takes_X5_to : GoodIn wsX5_takes wsX5_to := goodIn_r _ [22, 1, 23, 24, 25, 26, 27, 28, 29, 30, 31, 32, 33, 34, 35, 36] (by decide +kernel) (by decide +kernel)
set_option maxRecDepth 20000 in
theorem gX5_takes_X5_to : GoodIn wsX5_takes (wsV RX5 68 RX5 yX5_to wsX5_to) := goodIn_app (goodIn_of _ (by decide +kernel)) ggX5_takes_X5_to
set_option maxRecDepth 20000 in
theorem ggX5_puts_X5_of : GoodIn wsX5_puts wsX5_of := goodIn_r _ [6, 1, 19, 20, 21, 22, 23, 24, 25, 26, 27, 28, 29, 30, 31, 32] (by decide +kernel) (by decide +kernel)
set_option maxRecDepth 20000 in
theorem gX5_puts_X5_of : GoodIn wsX5_puts (wsV RX5 44 RX5 yX5_of wsX5_of) := goodIn_app (goodIn_of _ (by decide +kernel)) ggX5_puts_X5_of
set_option maxRecDepth 20000 in
theorem ggX5_puts_X5_depth : GoodIn wsX5_puts wsX5_depth := goodIn_r _ [10, 1, 19, 20, 21, 22, 23, 24, 25, 26, 27, 28, 29, 30, 31, 32] (by decide +kernel) (by decide +kernel)
set_option maxRecDepth 20000 in
theorem gX5_puts_X5_depth : GoodIn wsX5_puts (wsV RX5 40 RX5 yX5_depth wsX5_depth) := goodIn_app (goodIn_of _ (by decide +kernel)) ggX5_puts_X5_depth
set_option maxRecDepth 20000 in
theorem ggX5_puts_X5_around : GoodIn wsX5_puts wsX5_around := goodIn_r _ [14, 7, 8, 9, 5, 10, 1, 19, 20, 21, 22, 23, 24, 25, 26, 27, 28, 29, 30, 31, 32] (by decide +kernel) (by decide +kernel)
set_option maxRecDepth 20000 in
theorem gX5_puts_X5_around : GoodIn wsX5_puts (wsV RX5 55 RX5 yX5_around wsX5_around) := goodIn_app (goodIn_of _ (by decide +kernel)) ggX5_puts_X5_around
set_option maxRecDepth 20000 in
theorem ggX5_puts_X5_to : GoodIn wsX5_puts wsX5_to := goodIn_r _ [18, 1, 19, 20, 21, 22, 23, 24, 25, 26, 27, 28, 29, 30, 31, 32] (by decide +kernel) (by decide +kernel)
set_option maxRecDepth 20000 in
theorem gX5_puts_X5_to : GoodIn wsX5_puts (wsV RX5 68 RX5 yX5_to wsX5_to) := goodIn_app (goodIn_of _ (by decide +kernel)) ggX5_puts_X5_to
set_option maxRecDepth 20000 in
theorem ggX5_passes_X5_ticksAt : GoodIn wsX5_passes wsX5_ticksAt := goodIn_r _ [6, 7, 8, 9, 5, 10, 1, 67, 68, 69, 70, 71, 72, 73, 74, 75, 76, 77, 78, 79, 80] (by decide +kernel) (by decide +kernel)
set_option maxRecDepth 20000 in
theorem gX5_passes_X5_ticksAt : GoodIn wsX5_passes (wsV RX5 76 RX5 yX5_ticksAt wsX5_ticksAt) := goodIn_app (goodIn_of _ (by decide +kernel)) ggX5_passes_X5_ticksAt
set_option maxRecDepth 20000 in
theorem ggX5_passes_X5_acts : GoodIn wsX5_passes wsX5_acts := goodIn_r _ [14, 1, 15, 16, 17, 5, 18, 19, 20, 21, 22, 7, 8, 9, 10, 23, 24, 25, 26, 27, 28, 29, 30, 31, 32, 33, 34, 35, 36, 37, 38, 67, 68, 69, 70, 71, 72, 73, 74, 75, 76, 77, 78, 79, 80] (by decide +kernel) (by decide +kernel)
set_option maxRecDepth 20000 in
theorem gX5_passes_X5_acts : GoodIn wsX5_passes (wsV RX5 80 RX5 yX5_acts wsX5_acts) := goodIn_app (goodIn_of _ (by decide +kernel)) ggX5_passes_X5_acts
set_option maxRecDepth 20000 in
theorem ggX5_passes_X5_of : GoodIn wsX5_passes wsX5_of := goodIn_r _ [10, 1, 67, 68, 69, 70, 71, 72, 73, 74, 75, 76, 77, 78, 79, 80] (by decide +kernel) (by decide +kernel)
set_option maxRecDepth 20000 in
theorem gX5_passes_X5_of : GoodIn wsX5_passes (wsV RX5 44 RX5 yX5_of wsX5_of) := goodIn_app (goodIn_of _ (by decide +kernel)) ggX5_passes_X5_of
set_option maxRecDepth 20000 in
theorem ggX5_passes_X5_sampleOf : GoodIn wsX5_passes wsX5_sampleOf := goodIn_r _ [42, 43, 44, 45, 5, 46, 1, 31, 32, 33, 34, 35, 36, 37, 38, 67, 68, 69, 70, 71, 72, 73, 74, 75, 76, 77, 78, 79, 80] (by decide +kernel) (by decide +kernel)
set_option maxRecDepth 20000 in
theorem gX5_passes_X5_sampleOf : GoodIn wsX5_passes (wsV RX5 84 RX5 yX5_sampleOf wsX5_sampleOf) := goodIn_app (goodIn_of _ (by decide +kernel)) ggX5_passes_X5_sampleOf
set_option maxRecDepth 20000 in
theorem ggX5_passes_X5_samples : GoodIn wsX5_passes wsX5_samples := goodIn_r _ [50, 7, 8, 9, 5, 10, 1, 51, 52, 53, 54, 67, 68, 69, 70, 71, 72, 73, 74, 75, 76, 77, 78, 79, 80] (by decide +kernel) (by decide +kernel)
set_option maxRecDepth 20000 in
theorem gX5_passes_X5_samples : GoodIn wsX5_passes (wsV RX5 88 RX5 yX5_samples wsX5_samples) := goodIn_app (goodIn_of _ (by decide +kernel)) ggX5_passes_X5_samples
set_option maxRecDepth 20000 in
theorem ggX5_passes_X5_takes : GoodIn wsX5_passes wsX5_takes := goodIn_r _ [58, 1, 7, 8, 9, 5, 10, 35, 36, 37, 38, 59, 60, 61, 62, 31, 32, 33, 34, 51, 52, 53, 54, 67, 68, 69, 70, 71, 72, 73, 74, 75, 76, 77, 78, 79, 80] (by decide +kernel) (by decide +kernel)
set_option maxRecDepth 20000 in
theorem gX5_passes_X5_takes : GoodIn wsX5_passes (wsV RX5 92 RX5 yX5_takes wsX5_takes) := goodIn_app (goodIn_of _ (by decide +kernel)) ggX5_passes_X5_takes
set_option maxRecDepth 20000 in
theorem ggX5_passes_X5_puts : GoodIn wsX5_passes wsX5_puts := goodIn_r _ [66, 1, 7, 8, 9, 5, 10, 35, 36, 37, 38, 31, 32, 33, 34, 51, 52, 53, 54, 67, 68, 69, 70, 71, 72, 73, 74, 75, 76, 77, 78, 79, 80] (by decide +kernel) (by decide +kernel)
set_option maxRecDepth 20000 in
theorem gX5_passes_X5_puts : GoodIn wsX5_passes (wsV RX5 95 RX5 yX5_puts wsX5_puts) := goodIn_app (goodIn_of _ (by decide +kernel)) ggX5_passes_X5_puts
set_option maxRecDepth 20000 in
theorem ggX5_passMany_X5_passes : GoodIn wsX5_passMany wsX5_passes := goodIn_r _ [5, 6, 7, 8, 9, 4, 10, 11, 12, 13, 14, 15, 16, 17, 18, 19, 20, 21, 22, 23, 24, 25, 26, 27, 28, 29, 30, 31, 32, 33, 34, 35, 36, 37, 38, 39, 40, 41, 42, 43, 44, 45, 46, 47, 48, 49, 50, 51, 52, 53, 54, 55, 56, 57, 58, 59, 60, 61, 62, 63, 64, 65, 66, 67, 68, 69, 70, 71, 72, 73, 74, 75, 76, 77, 78, 79, 80, 81, 82, 83, 84] (by decide +kernel) (by decide +kernel)
set_option maxRecDepth 20000 in
theorem gX5_passMany_X5_passes : GoodIn wsX5_passMany (wsV RX5 98 RX5 yX5_passes wsX5_passes) := goodIn_app (goodIn_of _ (by decide +kernel)) ggX5_passMany_X5_passes
set_option maxRecDepth 20000 in
theorem ggX5_builds_X5_to : GoodIn wsX5_builds wsX5_to := goodIn_r _ [6, 1, 7, 8, 9, 10, 11, 12, 13, 14, 15, 16, 17, 18, 19, 20] (by decide +kernel) (by decide +kernel)
set_option maxRecDepth 20000 in
theorem gX5_builds_X5_to : GoodIn wsX5_builds (wsV RX5 68 RX5 yX5_to wsX5_to) := goodIn_app (goodIn_of _ (by decide +kernel)) ggX5_builds_X5_to
set_option maxRecDepth 20000 in
theorem ggX5_build_X5_in : GoodIn wsX5_build wsX5_in := goodIn_r _ [5] (by decide +kernel) (by decide +kernel)
set_option maxRecDepth 20000 in
theorem gX5_build_X5_in : GoodIn wsX5_build (va_wsS RX5 104 yX5_in wsX5_in) := goodIn_app (goodIn_of _ (by decide +kernel)) ggX5_build_X5_in
set_option maxRecDepth 20000 in
theorem ggX5_build_X5_remember : GoodIn wsX5_build wsX5_remember := goodIn_r _ [9, 10, 11, 12, 13, 4, 14, 33, 34, 35, 36, 37, 38, 39, 40, 41, 42, 43, 44, 45, 46] (by decide +kernel) (by decide +kernel)
set_option maxRecDepth 20000 in
theorem gX5_build_X5_remember : GoodIn wsX5_build (wsV RX5 108 RX5 yX5_remember wsX5_remember) := goodIn_app (goodIn_of _ (by decide +kernel)) ggX5_build_X5_remember
set_option maxRecDepth 20000 in
theorem ggX5_build_X5_builds : GoodIn wsX5_build wsX5_builds := goodIn_r _ [18, 10, 19, 20, 21, 4, 22, 33, 34, 35, 36, 37, 38, 39, 40, 41, 42, 43, 44, 45, 46] (by decide +kernel) (by decide +kernel)
set_option maxRecDepth 20000 in
theorem gX5_build_X5_builds : GoodIn wsX5_build (wsV RX5 28 RX5 yX5_builds wsX5_builds) := goodIn_app (goodIn_of _ (by decide +kernel)) ggX5_build_X5_builds
set_option maxRecDepth 20000 in
theorem ggX5_build_X5_depth : GoodIn wsX5_build wsX5_depth := goodIn_r _ [26, 10, 33, 34, 35, 36, 37, 38, 39, 40, 41, 42, 43, 44, 45, 46] (by decide +kernel) (by decide +kernel)
set_option maxRecDepth 20000 in
theorem gX5_build_X5_depth : GoodIn wsX5_build (wsV RX5 40 RX5 yX5_depth wsX5_depth) := goodIn_app (goodIn_of _ (by decide +kernel)) ggX5_build_X5_depth
set_option maxRecDepth 20000 in
theorem ggX5_build_X5_acted : GoodIn wsX5_build wsX5_acted := goodIn_r _ [30, 31, 32, 11, 33, 34, 35, 36, 37, 38, 39, 40, 41, 42, 43, 44, 45, 46] (by decide +kernel) (by decide +kernel)
set_option maxRecDepth 20000 in
theorem gX5_build_X5_acted : GoodIn wsX5_build (wsV RX5 111 RX5 yX5_acted wsX5_acted) := goodIn_app (goodIn_of _ (by decide +kernel)) ggX5_build_X5_acted
set_option maxRecDepth 20000 in
theorem ggX5_setClock_X5_isSide : GoodIn wsX5_setClock wsX5_isSide := goodIn_r _ [6] (by decide +kernel) (by decide +kernel)
set_option maxRecDepth 20000 in
theorem gX5_setClock_X5_isSide : GoodIn wsX5_setClock (va_wsS RX5 114 yX5_isSide wsX5_isSide) := goodIn_app (goodIn_of _ (by decide +kernel)) ggX5_setClock_X5_isSide
set_option maxRecDepth 20000 in
theorem ggX5_setClock_X5_in : GoodIn wsX5_setClock wsX5_in := goodIn_r _ [9] (by decide +kernel) (by decide +kernel)
set_option maxRecDepth 20000 in
theorem gX5_setClock_X5_in : GoodIn wsX5_setClock (va_wsS RX5 104 yX5_in wsX5_in) := goodIn_app (goodIn_of _ (by decide +kernel)) ggX5_setClock_X5_in
set_option maxRecDepth 20000 in
theorem ggX5_setClock_X5_of : GoodIn wsX5_setClock wsX5_of := goodIn_r _ [13, 14, 33, 34, 35, 36, 37, 38, 39, 40, 41, 42, 43, 44, 45, 46] (by decide +kernel) (by decide +kernel)
set_option maxRecDepth 20000 in
theorem gX5_setClock_X5_of : GoodIn wsX5_setClock (wsV RX5 44 RX5 yX5_of wsX5_of) := goodIn_app (goodIn_of _ (by decide +kernel)) ggX5_setClock_X5_of
set_option maxRecDepth 20000 in
theorem ggX5_setClock_X5_remember : GoodIn wsX5_setClock wsX5_remember := goodIn_r _ [18, 14, 19, 20, 21, 5, 22, 33, 34, 35, 36, 37, 38, 39, 40, 41, 42, 43, 44, 45, 46] (by decide +kernel) (by decide +kernel)
set_option maxRecDepth 20000 in
theorem gX5_setClock_X5_remember : GoodIn wsX5_setClock (wsV RX5 108 RX5 yX5_remember wsX5_remember) := goodIn_app (goodIn_of _ (by decide +kernel)) ggX5_setClock_X5_remember
set_option maxRecDepth 20000 in
theorem ggX5_setClock_X5_to : GoodIn wsX5_setClock wsX5_to := goodIn_r _ [26, 14, 33, 34, 35, 36, 37, 38, 39, 40, 41, 42, 43, 44, 45, 46] (by decide +kernel) (by decide +kernel)
set_option maxRecDepth 20000 in
theorem gX5_setClock_X5_to : GoodIn wsX5_setClock (wsV RX5 68 RX5 yX5_to wsX5_to) := goodIn_app (goodIn_of _ (by decide +kernel)) ggX5_setClock_X5_to
set_option maxRecDepth 20000 in
theorem ggX5_setClock_X5_acted : GoodIn wsX5_setClock wsX5_acted := goodIn_r _ [30, 31, 32, 19, 33, 34, 35, 36, 37, 38, 39, 40, 41, 42, 43, 44, 45, 46] (by decide +kernel) (by decide +kernel)
set_option maxRecDepth 20000 in
theorem gX5_setClock_X5_acted : GoodIn wsX5_setClock (wsV RX5 111 RX5 yX5_acted wsX5_acted) := goodIn_app (goodIn_of _ (by decide +kernel)) ggX5_setClock_X5_acted
set_option maxRecDepth 20000 in
theorem ggX5_start_X5_isSide : GoodIn wsX5_start wsX5_isSide := goodIn_r _ [5] (by decide +kernel) (by decide +kernel)
set_option maxRecDepth 20000 in
theorem gX5_start_X5_isSide : GoodIn wsX5_start (va_wsS RX5 114 yX5_isSide wsX5_isSide) := goodIn_app (goodIn_of _ (by decide +kernel)) ggX5_start_X5_isSide
set_option maxRecDepth 20000 in
theorem ggX5_start_X5_of : GoodIn wsX5_start wsX5_of := goodIn_r _ [9, 1, 28, 29, 30, 31, 32, 33, 34, 35, 36, 37, 38, 39, 40, 41] (by decide +kernel) (by decide +kernel)
set_option maxRecDepth 20000 in
theorem gX5_start_X5_of : GoodIn wsX5_start (wsV RX5 44 RX5 yX5_of wsX5_of) := goodIn_app (goodIn_of _ (by decide +kernel)) ggX5_start_X5_of
set_option maxRecDepth 20000 in
theorem ggX5_start_X5_remember : GoodIn wsX5_start wsX5_remember := goodIn_r _ [13, 1, 14, 15, 16, 4, 17, 28, 29, 30, 31, 32, 33, 34, 35, 36, 37, 38, 39, 40, 41] (by decide +kernel) (by decide +kernel)
set_option maxRecDepth 20000 in
theorem gX5_start_X5_remember : GoodIn wsX5_start (wsV RX5 108 RX5 yX5_remember wsX5_remember) := goodIn_app (goodIn_of _ (by decide +kernel)) ggX5_start_X5_remember
set_option maxRecDepth 20000 in
theorem ggX5_start_X5_to : GoodIn wsX5_start wsX5_to := goodIn_r _ [21, 1, 28, 29, 30, 31, 32, 33, 34, 35, 36, 37, 38, 39, 40, 41] (by decide +kernel) (by decide +kernel)
set_option maxRecDepth 20000 in
theorem gX5_start_X5_to : GoodIn wsX5_start (wsV RX5 68 RX5 yX5_to wsX5_to) := goodIn_app (goodIn_of _ (by decide +kernel)) ggX5_start_X5_to
set_option maxRecDepth 20000 in
theorem ggX5_start_X5_acted : GoodIn wsX5_start wsX5_acted := goodIn_r _ [25, 26, 27, 14, 28, 29, 30, 31, 32, 33, 34, 35, 36, 37, 38, 39, 40, 41] (by decide +kernel) (by decide +kernel)
set_option maxRecDepth 20000 in
theorem gX5_start_X5_acted : GoodIn wsX5_start (wsV RX5 111 RX5 yX5_acted wsX5_acted) := goodIn_app (goodIn_of _ (by decide +kernel)) ggX5_start_X5_acted
set_option maxRecDepth 20000 in
theorem ggX5_set_X5_in : GoodIn wsX5_set wsX5_in := goodIn_r _ [6] (by decide +kernel) (by decide +kernel)
set_option maxRecDepth 20000 in
theorem gX5_set_X5_in : GoodIn wsX5_set (va_wsS RX5 104 yX5_in wsX5_in) := goodIn_app (goodIn_of _ (by decide +kernel)) ggX5_set_X5_in
set_option maxRecDepth 20000 in
theorem ggX5_set_X5_remember : GoodIn wsX5_set wsX5_remember := goodIn_r _ [10, 2, 11, 12, 13, 5, 14, 21, 22, 23, 24, 25, 26, 27, 28, 29, 30, 31, 32, 33, 34] (by decide +kernel) (by decide +kernel)
set_option maxRecDepth 20000 in
theorem gX5_set_X5_remember : GoodIn wsX5_set (wsV RX5 108 RX5 yX5_remember wsX5_remember) := goodIn_app (goodIn_of _ (by decide +kernel)) ggX5_set_X5_remember
set_option maxRecDepth 20000 in
theorem ggX5_set_X5_acted : GoodIn wsX5_set wsX5_acted := goodIn_r _ [18, 19, 20, 11, 21, 22, 23, 24, 25, 26, 27, 28, 29, 30, 31, 32, 33, 34] (by decide +kernel) (by decide +kernel)
set_option maxRecDepth 20000 in
theorem gX5_set_X5_acted : GoodIn wsX5_set (wsV RX5 111 RX5 yX5_acted wsX5_acted) := goodIn_app (goodIn_of _ (by decide +kernel)) ggX5_set_X5_acted
set_option maxRecDepth 20000 in
theorem ggX5_push_X5_in : GoodIn wsX5_push wsX5_in := goodIn_r _ [6] (by decide +kernel) (by decide +kernel)
set_option maxRecDepth 20000 in
theorem gX5_push_X5_in : GoodIn wsX5_push (va_wsS RX5 104 yX5_in wsX5_in) := goodIn_app (goodIn_of _ (by decide +kernel)) ggX5_push_X5_in
set_option maxRecDepth 20000 in
theorem ggX5_push_X5_remember : GoodIn wsX5_push wsX5_remember := goodIn_r _ [10, 2, 11, 12, 13, 5, 14, 25, 26, 27, 28, 29, 30, 31, 32, 33, 34, 35, 36, 37, 38] (by decide +kernel) (by decide +kernel)
set_option maxRecDepth 20000 in
theorem gX5_push_X5_remember : GoodIn wsX5_push (wsV RX5 108 RX5 yX5_remember wsX5_remember) := goodIn_app (goodIn_of _ (by decide +kernel)) ggX5_push_X5_remember
set_option maxRecDepth 20000 in
theorem ggX5_push_X5_waits : GoodIn wsX5_push wsX5_waits := goodIn_r _ [18, 2, 25, 26, 27, 28, 29, 30, 31, 32, 33, 34, 35, 36, 37, 38] (by decide +kernel) (by decide +kernel)
set_option maxRecDepth 20000 in
theorem gX5_push_X5_waits : GoodIn wsX5_push (wsV RX5 125 RX5 yX5_waits wsX5_waits) := goodIn_app (goodIn_of _ (by decide +kernel)) ggX5_push_X5_waits
set_option maxRecDepth 20000 in
theorem ggX5_push_X5_acted : GoodIn wsX5_push wsX5_acted := goodIn_r _ [22, 23, 24, 11, 25, 26, 27, 28, 29, 30, 31, 32, 33, 34, 35, 36, 37, 38] (by decide +kernel) (by decide +kernel)
set_option maxRecDepth 20000 in
theorem gX5_push_X5_acted : GoodIn wsX5_push (wsV RX5 111 RX5 yX5_acted wsX5_acted) := goodIn_app (goodIn_of _ (by decide +kernel)) ggX5_push_X5_acted
set_option maxRecDepth 20000 in
theorem ggX5_pass_X5_in : GoodIn wsX5_pass wsX5_in := goodIn_r _ [7] (by decide +kernel) (by decide +kernel)
set_option maxRecDepth 20000 in
theorem gX5_pass_X5_in : GoodIn wsX5_pass (va_wsS RX5 104 yX5_in wsX5_in) := goodIn_app (goodIn_of _ (by decide +kernel)) ggX5_pass_X5_in
set_option maxRecDepth 20000 in
theorem ggX5_pass_X5_remember : GoodIn wsX5_pass wsX5_remember := goodIn_r _ [11, 2, 12, 13, 14, 6, 15, 94, 95, 96, 97, 98, 99, 100, 101, 102, 103, 104, 105, 106, 107] (by decide +kernel) (by decide +kernel)
set_option maxRecDepth 20000 in
theorem gX5_pass_X5_remember : GoodIn wsX5_pass (wsV RX5 108 RX5 yX5_remember wsX5_remember) := goodIn_app (goodIn_of _ (by decide +kernel)) ggX5_pass_X5_remember
set_option maxRecDepth 20000 in
theorem ggX5_pass_X5_passMany : GoodIn wsX5_pass wsX5_passMany := goodIn_r _ [19, 20, 21, 22, 6, 23, 2, 24, 25, 26, 27, 28, 29, 30, 31, 32, 33, 34, 35, 36, 37, 38, 39, 40, 41, 42, 43, 44, 45, 46, 47, 48, 49, 50, 51, 52, 53, 54, 55, 56, 57, 58, 59, 60, 61, 62, 63, 64, 65, 66, 67, 68, 69, 70, 71, 72, 73, 74, 75, 76, 77, 78, 79, 80, 81, 82, 83, 84, 85, 86, 87, 94, 95, 96, 97, 98, 99, 100, 101, 102, 103, 104, 105, 106, 107] (by decide +kernel) (by decide +kernel)
set_option maxRecDepth 20000 in
theorem gX5_pass_X5_passMany : GoodIn wsX5_pass (wsV RX5 132 RX5 yX5_passMany wsX5_passMany) := goodIn_app (goodIn_of _ (by decide +kernel)) ggX5_pass_X5_passMany
set_option maxRecDepth 20000 in
theorem ggX5_pass_X5_acted : GoodIn wsX5_pass wsX5_acted := goodIn_r _ [91, 92, 93, 12, 94, 95, 96, 97, 98, 99, 100, 101, 102, 103, 104, 105, 106, 107] (by decide +kernel) (by decide +kernel)
set_option maxRecDepth 20000 in
theorem gX5_pass_X5_acted : GoodIn wsX5_pass (wsV RX5 111 RX5 yX5_acted wsX5_acted) := goodIn_app (goodIn_of _ (by decide +kernel)) ggX5_pass_X5_acted
set_option maxRecDepth 20000 in
theorem ggX5_isHere_X5_in : GoodIn wsX5_isHere wsX5_in := goodIn_r _ [7] (by decide +kernel) (by decide +kernel)
set_option maxRecDepth 20000 in
theorem gX5_isHere_X5_in : GoodIn wsX5_isHere (va_wsS RX5 104 yX5_in wsX5_in) := goodIn_app (goodIn_of _ (by decide +kernel)) ggX5_isHere_X5_in
set_option maxRecDepth 20000 in
theorem ggX5_takesSign_X5_isHere : GoodIn wsX5_takesSign wsX5_isHere := goodIn_r _ [6, 1, 7, 8, 9, 10, 5, 11, 12, 13, 14, 15, 16, 17, 18, 19, 20, 21, 22, 23, 24, 25] (by decide +kernel) (by decide +kernel)
set_option maxRecDepth 20000 in
theorem gX5_takesSign_X5_isHere : GoodIn wsX5_takesSign (wsV RX5 141 RX5 yX5_isHere wsX5_isHere) := goodIn_app (goodIn_of _ (by decide +kernel)) ggX5_takesSign_X5_isHere
set_option maxRecDepth 20000 in
theorem ggX5_readsNumber_X5_isHere : GoodIn wsX5_readsNumber wsX5_isHere := goodIn_r _ [8, 2, 9, 1, 10, 11, 7, 12, 13, 14, 15, 16, 17, 18, 19, 20, 21, 22, 23, 24, 25, 26] (by decide +kernel) (by decide +kernel)
set_option maxRecDepth 20000 in
theorem gX5_readsNumber_X5_isHere : GoodIn wsX5_readsNumber (wsV RX5 141 RX5 yX5_isHere wsX5_isHere) := goodIn_app (goodIn_of _ (by decide +kernel)) ggX5_readsNumber_X5_isHere
set_option maxRecDepth 20000 in
theorem ggX5_readsPart_X5_takesSign : GoodIn wsX5_readsPart wsX5_takesSign := goodIn_r _ [11, 6, 12, 13, 14, 10, 15, 16, 5, 17, 18, 19, 24, 25, 26, 27, 28, 29, 30, 31, 32, 33, 34, 35, 36, 37] (by decide +kernel) (by decide +kernel)
set_option maxRecDepth 20000 in
theorem gX5_readsPart_X5_takesSign : GoodIn wsX5_readsPart (wsV RX5 153 RX5 yX5_takesSign wsX5_takesSign) := goodIn_app (goodIn_of _ (by decide +kernel)) ggX5_readsPart_X5_takesSign
set_option maxRecDepth 20000 in
theorem ggX5_readsPart_X5_readsNumber : GoodIn wsX5_readsPart wsX5_readsNumber := goodIn_r _ [23, 5, 6, 3, 12, 13, 14, 10, 15, 16, 17, 18, 19, 24, 25, 26, 27, 28, 29, 30, 31, 32, 33, 34, 35, 36, 37] (by decide +kernel) (by decide +kernel)
set_option maxRecDepth 20000 in
theorem gX5_readsPart_X5_readsNumber : GoodIn wsX5_readsPart (wsV RX5 156 RX5 yX5_readsNumber wsX5_readsNumber) := goodIn_app (goodIn_of _ (by decide +kernel)) ggX5_readsPart_X5_readsNumber
set_option maxRecDepth 20000 in
theorem ggX5_readsPart_X5_isHere : GoodIn wsX5_readsPart wsX5_isHere := goodIn_r _ [15, 6, 16, 5, 17, 18, 10, 19, 24, 25, 26, 27, 28, 29, 30, 31, 32, 33, 34, 35, 36, 37] (by decide +kernel) (by decide +kernel)
set_option maxRecDepth 20000 in
theorem gX5_readsPart_X5_isHere : GoodIn wsX5_readsPart (wsV RX5 141 RX5 yX5_isHere wsX5_isHere) := goodIn_app (goodIn_of _ (by decide +kernel)) ggX5_readsPart_X5_isHere
set_option maxRecDepth 20000 in
theorem ggX5_fault_X5_readsPart : GoodIn wsX5_fault wsX5_readsPart := goodIn_r _ [7, 8, 9, 10, 11, 12, 1, 13, 14, 15, 6, 16, 17, 18, 19, 20, 2, 21, 22, 23, 24, 25, 26, 27, 28, 29, 30, 31, 32, 33, 34, 35, 36, 37, 38, 39, 40, 41] (by decide +kernel) (by decide +kernel)
set_option maxRecDepth 20000 in
theorem gX5_fault_X5_readsPart : GoodIn wsX5_fault (wsV RX5 162 RX5 yX5_readsPart wsX5_readsPart) := goodIn_app (goodIn_of _ (by decide +kernel)) ggX5_fault_X5_readsPart
set_option maxRecDepth 20000 in
theorem ggX5_fault_X5_takesSign : GoodIn wsX5_fault wsX5_takesSign := goodIn_r _ [16, 1, 17, 18, 19, 6, 20, 2, 12, 21, 22, 23, 28, 29, 30, 31, 32, 33, 34, 35, 36, 37, 38, 39, 40, 41] (by decide +kernel) (by decide +kernel)
set_option maxRecDepth 20000 in
theorem gX5_fault_X5_takesSign : GoodIn wsX5_fault (wsV RX5 153 RX5 yX5_takesSign wsX5_takesSign) := goodIn_app (goodIn_of _ (by decide +kernel)) ggX5_fault_X5_takesSign
set_option maxRecDepth 20000 in
theorem ggX5_doesText_X5_readsPart : GoodIn wsX5_doesText wsX5_readsPart := goodIn_r _ [11, 3, 4, 12, 6, 13, 1, 14, 15, 16, 10, 17, 18, 19, 20, 21, 22, 23, 24, 25, 26, 27, 28, 29, 106, 107, 108, 109, 110, 111, 112, 113, 114, 115, 116, 117, 118, 119] (by decide +kernel) (by decide +kernel)
set_option maxRecDepth 20000 in
theorem gX5_doesText_X5_readsPart : GoodIn wsX5_doesText (wsV RX5 162 RX5 yX5_readsPart wsX5_readsPart) := goodIn_app (goodIn_of _ (by decide +kernel)) ggX5_doesText_X5_readsPart
set_option maxRecDepth 20000 in
theorem ggX5_doesText_X5_waits : GoodIn wsX5_doesText wsX5_waits := goodIn_r _ [33, 2, 106, 107, 108, 109, 110, 111, 112, 113, 114, 115, 116, 117, 118, 119] (by decide +kernel) (by decide +kernel)
set_option maxRecDepth 20000 in
theorem gX5_doesText_X5_waits : GoodIn wsX5_doesText (wsV RX5 125 RX5 yX5_waits wsX5_waits) := goodIn_app (goodIn_of _ (by decide +kernel)) ggX5_doesText_X5_waits
set_option maxRecDepth 20000 in
theorem ggX5_doesText_X5_passMany : GoodIn wsX5_doesText wsX5_passMany := goodIn_r _ [37, 38, 39, 40, 10, 41, 2, 42, 43, 44, 45, 46, 47, 48, 49, 50, 51, 52, 53, 54, 55, 56, 57, 58, 59, 60, 61, 62, 63, 64, 65, 66, 67, 68, 69, 70, 71, 72, 73, 74, 75, 76, 77, 78, 79, 80, 81, 82, 83, 84, 85, 86, 87, 88, 89, 90, 91, 92, 93, 94, 95, 96, 97, 98, 99, 100, 101, 102, 103, 104, 105, 106, 107, 108, 109, 110, 111, 112, 113, 114, 115, 116, 117, 118, 119] (by decide +kernel) (by decide +kernel)
set_option maxRecDepth 20000 in
theorem gX5_doesText_X5_passMany : GoodIn wsX5_doesText (wsV RX5 132 RX5 yX5_passMany wsX5_passMany) := goodIn_app (goodIn_of _ (by decide +kernel)) ggX5_doesText_X5_passMany
set_option maxRecDepth 20000 in
theorem ggX5_doesText_X5_takesSign : GoodIn wsX5_doesText wsX5_takesSign := goodIn_r _ [17, 1, 18, 19, 20, 10, 21, 22, 13, 23, 24, 25, 106, 107, 108, 109, 110, 111, 112, 113, 114, 115, 116, 117, 118, 119] (by decide +kernel) (by decide +kernel)
set_option maxRecDepth 20000 in
theorem gX5_doesText_X5_takesSign : GoodIn wsX5_doesText (wsV RX5 153 RX5 yX5_takesSign wsX5_takesSign) := goodIn_app (goodIn_of _ (by decide +kernel)) ggX5_doesText_X5_takesSign
set_option maxRecDepth 20000 in
theorem ggX5_pushAll_X5_fault : GoodIn wsX5_pushAll wsX5_fault := goodIn_r _ [7, 8, 9, 10, 11, 12, 6, 13, 14, 15, 16, 17, 18, 19, 20, 21, 22, 23, 24, 25, 26, 27, 28, 29, 30, 31, 32, 33, 128, 129, 130, 131, 132, 133, 134, 135, 136, 137, 138, 139, 140, 141] (by decide +kernel) (by decide +kernel)
set_option maxRecDepth 20000 in
theorem gX5_pushAll_X5_fault : GoodIn wsX5_pushAll (wsV RX5 165 RX5 yX5_fault wsX5_fault) := goodIn_app (goodIn_of _ (by decide +kernel)) ggX5_pushAll_X5_fault
set_option maxRecDepth 20000 in
theorem ggX5_pushAll_X5_remember : GoodIn wsX5_pushAll wsX5_remember := goodIn_r _ [37, 2, 1, 38, 39, 6, 40, 128, 129, 130, 131, 132, 133, 134, 135, 136, 137, 138, 139, 140, 141] (by decide +kernel) (by decide +kernel)
set_option maxRecDepth 20000 in
theorem gX5_pushAll_X5_remember : GoodIn wsX5_pushAll (wsV RX5 108 RX5 yX5_remember wsX5_remember) := goodIn_app (goodIn_of _ (by decide +kernel)) ggX5_pushAll_X5_remember
set_option maxRecDepth 20000 in
theorem ggX5_pushAll_X5_doesText : GoodIn wsX5_pushAll wsX5_doesText := goodIn_r _ [44, 8, 2, 14, 15, 45, 17, 10, 11, 12, 6, 13, 16, 18, 19, 20, 21, 22, 23, 24, 25, 26, 9, 27, 28, 29, 30, 31, 32, 33, 46, 47, 48, 49, 50, 51, 52, 53, 54, 55, 56, 57, 58, 59, 60, 61, 62, 63, 64, 65, 66, 67, 68, 69, 70, 71, 72, 73, 74, 75, 76, 77, 78, 79, 80, 81, 82, 83, 84, 85, 86, 87, 88, 89, 90, 91, 92, 93, 94, 95, 96, 97, 98, 99, 100, 101, 102, 103, 104, 105, 106, 107, 108, 109, 110, 111, 112, 113, 114, 115, 116, 117, 118, 119, 120, 121, 128, 129, 130, 131, 132, 133, 134, 135, 136, 137, 138, 139, 140, 141] (by decide +kernel) (by decide +kernel)
set_option maxRecDepth 20000 in
theorem gX5_pushAll_X5_doesText : GoodIn wsX5_pushAll (wsV RX5 168 RX5 yX5_doesText wsX5_doesText) := goodIn_app (goodIn_of _ (by decide +kernel)) ggX5_pushAll_X5_doesText
set_option maxRecDepth 20000 in
theorem ggX5_pushAll_X5_copy : GoodIn wsX5_pushAll wsX5_copy := goodIn_r _ [40] (by decide +kernel) (by decide +kernel)
set_option maxRecDepth 20000 in
theorem gX5_pushAll_X5_copy : GoodIn wsX5_pushAll (va_wsS RX5 32 yX5_copy wsX5_copy) := goodIn_app (goodIn_of _ (by decide +kernel)) ggX5_pushAll_X5_copy
set_option maxRecDepth 20000 in
theorem ggX5_pushAll_X5_acted : GoodIn wsX5_pushAll wsX5_acted := goodIn_r _ [125, 126, 127, 1, 128, 129, 130, 131, 132, 133, 134, 135, 136, 137, 138, 139, 140, 141] (by decide +kernel) (by decide +kernel)
set_option maxRecDepth 20000 in
theorem gX5_pushAll_X5_acted : GoodIn wsX5_pushAll (wsV RX5 111 RX5 yX5_acted wsX5_acted) := goodIn_app (goodIn_of _ (by decide +kernel)) ggX5_pushAll_X5_acted
set_option maxRecDepth 20000 in
theorem ggX5_keep_X5_copy : GoodIn wsX5_keep wsX5_copy := goodIn_r _ [7] (by decide +kernel) (by decide +kernel)
set_option maxRecDepth 20000 in
theorem gX5_keep_X5_copy : GoodIn wsX5_keep (va_wsS RX5 32 yX5_copy wsX5_copy) := goodIn_app (goodIn_of _ (by decide +kernel)) ggX5_keep_X5_copy
set_option maxRecDepth 20000 in
theorem ggX5_restore_X5_remember : GoodIn wsX5_restore wsX5_remember := goodIn_r _ [8, 3, 9, 10, 11, 7, 12, 19, 20, 21, 22, 23, 24, 25, 26, 27, 28, 29, 30, 31, 32] (by decide +kernel) (by decide +kernel)
set_option maxRecDepth 20000 in
theorem gX5_restore_X5_remember : GoodIn wsX5_restore (wsV RX5 108 RX5 yX5_remember wsX5_remember) := goodIn_app (goodIn_of _ (by decide +kernel)) ggX5_restore_X5_remember
set_option maxRecDepth 20000 in
theorem ggX5_restore_X5_copy : GoodIn wsX5_restore wsX5_copy := goodIn_r _ [12] (by decide +kernel) (by decide +kernel)
set_option maxRecDepth 20000 in
theorem gX5_restore_X5_copy : GoodIn wsX5_restore (va_wsS RX5 32 yX5_copy wsX5_copy) := goodIn_app (goodIn_of _ (by decide +kernel)) ggX5_restore_X5_copy
set_option maxRecDepth 20000 in
theorem ggX5_restore_X5_acted : GoodIn wsX5_restore wsX5_acted := goodIn_r _ [16, 17, 18, 9, 19, 20, 21, 22, 23, 24, 25, 26, 27, 28, 29, 30, 31, 32] (by decide +kernel) (by decide +kernel)
set_option maxRecDepth 20000 in
theorem gX5_restore_X5_acted : GoodIn wsX5_restore (wsV RX5 111 RX5 yX5_acted wsX5_acted) := goodIn_app (goodIn_of _ (by decide +kernel)) ggX5_restore_X5_acted
set_option maxRecDepth 20000 in
theorem ggX5_isAlmost_X5_fillSeen : GoodIn wsX5_isAlmost wsX5_fillSeen := goodIn_r _ [6, 7, 8, 9, 5, 10, 1, 11, 12, 13, 14, 15, 16, 17, 18, 19, 20, 21, 22, 23, 24, 25, 26, 27, 28, 29, 30, 31, 32, 33, 34, 35, 36, 37, 38, 39, 40] (by decide +kernel) (by decide +kernel)
set_option maxRecDepth 20000 in
theorem gX5_isAlmost_X5_fillSeen : GoodIn wsX5_isAlmost (wsV RX5 58 RX5 yX5_fillSeen wsX5_fillSeen) := goodIn_app (goodIn_of _ (by decide +kernel)) ggX5_isAlmost_X5_fillSeen
set_option maxRecDepth 20000 in
theorem ggX5_isAlmost_X5_depth : GoodIn wsX5_isAlmost wsX5_depth := goodIn_r _ [26, 1, 27, 28, 29, 30, 31, 32, 33, 34, 35, 36, 37, 38, 39, 40] (by decide +kernel) (by decide +kernel)
set_option maxRecDepth 20000 in
theorem gX5_isAlmost_X5_depth : GoodIn wsX5_isAlmost (wsV RX5 40 RX5 yX5_depth wsX5_depth) := goodIn_app (goodIn_of _ (by decide +kernel)) ggX5_isAlmost_X5_depth
set_option maxRecDepth 20000 in
theorem ggX5_untilTick_X5_of : GoodIn wsX5_untilTick wsX5_of := goodIn_r _ [6, 1, 7, 8, 9, 10, 11, 12, 13, 14, 15, 16, 17, 18, 19, 20] (by decide +kernel) (by decide +kernel)
set_option maxRecDepth 20000 in
theorem gX5_untilTick_X5_of : GoodIn wsX5_untilTick (wsV RX5 44 RX5 yX5_of wsX5_of) := goodIn_app (goodIn_of _ (by decide +kernel)) ggX5_untilTick_X5_of
set_option maxRecDepth 20000 in
theorem ggX5_side_X5_isSide : GoodIn wsX5_side wsX5_isSide := goodIn_r _ [4] (by decide +kernel) (by decide +kernel)
set_option maxRecDepth 20000 in
theorem gX5_side_X5_isSide : GoodIn wsX5_side (va_wsS RX5 114 yX5_isSide wsX5_isSide) := goodIn_app (goodIn_of _ (by decide +kernel)) ggX5_side_X5_isSide
set_option maxRecDepth 20000 in
theorem ggX5_side_X5_of : GoodIn wsX5_side wsX5_of := goodIn_r _ [8, 9, 46, 47, 48, 49, 50, 51, 52, 53, 54, 55, 56, 57, 58, 59] (by decide +kernel) (by decide +kernel)
set_option maxRecDepth 20000 in
theorem gX5_side_X5_of : GoodIn wsX5_side (wsV RX5 44 RX5 yX5_of wsX5_of) := goodIn_app (goodIn_of _ (by decide +kernel)) ggX5_side_X5_of
set_option maxRecDepth 20000 in
theorem ggX5_side_X5_codeOf : GoodIn wsX5_side wsX5_codeOf := goodIn_r _ [13, 9, 46, 47, 48, 49, 50, 51, 52, 53, 54, 55, 56, 57, 58, 59] (by decide +kernel) (by decide +kernel)
set_option maxRecDepth 20000 in
theorem gX5_side_X5_codeOf : GoodIn wsX5_side (wsV RX5 65 RX5 yX5_codeOf wsX5_codeOf) := goodIn_app (goodIn_of _ (by decide +kernel)) ggX5_side_X5_codeOf
set_option maxRecDepth 20000 in
theorem ggX5_side_X5_seen : GoodIn wsX5_side wsX5_seen := goodIn_r _ [17, 5, 6, 7, 3, 8, 9, 18, 19, 20, 21, 46, 47, 48, 49, 50, 51, 52, 53, 54, 55, 56, 57, 58, 59] (by decide +kernel) (by decide +kernel)
set_option maxRecDepth 20000 in
theorem gX5_side_X5_seen : GoodIn wsX5_side (wsV RX5 52 RX5 yX5_seen wsX5_seen) := goodIn_app (goodIn_of _ (by decide +kernel)) ggX5_side_X5_seen
set_option maxRecDepth 20000 in
theorem ggX5_side_X5_fillSeen : GoodIn wsX5_side wsX5_fillSeen := goodIn_r _ [25, 5, 6, 7, 3, 8, 9, 14, 15, 16, 17, 18, 19, 20, 21, 26, 27, 28, 29, 30, 31, 32, 33, 46, 47, 48, 49, 50, 51, 52, 53, 54, 55, 56, 57, 58, 59] (by decide +kernel) (by decide +kernel)
set_option maxRecDepth 20000 in
theorem gX5_side_X5_fillSeen : GoodIn wsX5_side (wsV RX5 58 RX5 yX5_fillSeen wsX5_fillSeen) := goodIn_app (goodIn_of _ (by decide +kernel)) ggX5_side_X5_fillSeen
set_option maxRecDepth 20000 in
theorem ggX5_side_X5_seems : GoodIn wsX5_side wsX5_seems := goodIn_r _ [37, 22, 23, 24, 3, 25, 5, 6, 7, 8, 9, 14, 15, 16, 17, 18, 19, 20, 21, 26, 27, 28, 29, 30, 31, 32, 33, 46, 47, 48, 49, 50, 51, 52, 53, 54, 55, 56, 57, 58, 59] (by decide +kernel) (by decide +kernel)
set_option maxRecDepth 20000 in
theorem gX5_side_X5_seems : GoodIn wsX5_side (wsV RX5 61 RX5 yX5_seems wsX5_seems) := goodIn_app (goodIn_of _ (by decide +kernel)) ggX5_side_X5_seems
set_option maxRecDepth 20000 in
theorem ggX5_side_X5_isAlmost : GoodIn wsX5_side wsX5_isAlmost := goodIn_r _ [41, 9, 22, 23, 24, 3, 25, 5, 6, 7, 8, 14, 15, 16, 17, 18, 19, 20, 21, 26, 27, 28, 29, 30, 31, 32, 33, 46, 47, 48, 49, 50, 51, 52, 53, 54, 55, 56, 57, 58, 59] (by decide +kernel) (by decide +kernel)
set_option maxRecDepth 20000 in
theorem gX5_side_X5_isAlmost : GoodIn wsX5_side (wsV RX5 174 RX5 yX5_isAlmost wsX5_isAlmost) := goodIn_app (goodIn_of _ (by decide +kernel)) ggX5_side_X5_isAlmost
set_option maxRecDepth 20000 in
theorem ggX5_side_X5_untilTick : GoodIn wsX5_side wsX5_untilTick := goodIn_r _ [45, 9, 5, 6, 7, 3, 8, 46, 47, 48, 49, 50, 51, 52, 53, 54, 55, 56, 57, 58, 59] (by decide +kernel) (by decide +kernel)
set_option maxRecDepth 20000 in
theorem gX5_side_X5_untilTick : GoodIn wsX5_side (wsV RX5 177 RX5 yX5_untilTick wsX5_untilTick) := goodIn_app (goodIn_of _ (by decide +kernel)) ggX5_side_X5_untilTick
set_option maxRecDepth 20000 in
theorem ggX5_place_X5_depth : GoodIn wsX5_place wsX5_depth := goodIn_r _ [6, 1, 10, 11, 12, 13, 14, 15, 16, 17, 18, 19, 20, 21, 22, 23] (by decide +kernel) (by decide +kernel)
set_option maxRecDepth 20000 in
theorem gX5_place_X5_depth : GoodIn wsX5_place (wsV RX5 40 RX5 yX5_depth wsX5_depth) := goodIn_app (goodIn_of _ (by decide +kernel)) ggX5_place_X5_depth
set_option maxRecDepth 20000 in
theorem ggX5_place_X5_in : GoodIn wsX5_place wsX5_in := goodIn_r _ [9] (by decide +kernel) (by decide +kernel)
set_option maxRecDepth 20000 in
theorem gX5_place_X5_in : GoodIn wsX5_place (va_wsS RX5 104 yX5_in wsX5_in) := goodIn_app (goodIn_of _ (by decide +kernel)) ggX5_place_X5_in
set_option maxRecDepth 20000 in
theorem ggX5_doneIn_X5_copy : GoodIn wsX5_doneIn wsX5_copy := goodIn_r _ [6] (by decide +kernel) (by decide +kernel)
set_option maxRecDepth 20000 in
theorem gX5_doneIn_X5_copy : GoodIn wsX5_doneIn (va_wsS RX5 32 yX5_copy wsX5_copy) := goodIn_app (goodIn_of _ (by decide +kernel)) ggX5_doneIn_X5_copy
set_option maxRecDepth 20000 in
theorem ggX5_doneIn_X5_isDone : GoodIn wsX5_doneIn wsX5_isDone := goodIn_r _ [10, 1, 79, 80, 81, 82, 83, 84, 85, 86, 87, 88, 89, 90, 91, 92] (by decide +kernel) (by decide +kernel)
set_option maxRecDepth 20000 in
theorem gX5_doneIn_X5_isDone : GoodIn wsX5_doneIn (wsV RX5 180 RX5 yX5_isDone wsX5_isDone) := goodIn_app (goodIn_of _ (by decide +kernel)) ggX5_doneIn_X5_isDone
set_option maxRecDepth 20000 in
theorem ggX5_doneIn_X5_passes : GoodIn wsX5_doneIn wsX5_passes := goodIn_r _ [14, 1, 15, 16, 17, 5, 18, 19, 20, 21, 22, 23, 24, 25, 26, 27, 28, 29, 30, 31, 32, 33, 34, 35, 36, 37, 38, 39, 40, 41, 42, 43, 44, 45, 46, 47, 48, 49, 50, 51, 52, 53, 54, 55, 56, 57, 58, 59, 60, 61, 62, 63, 64, 65, 66, 67, 68, 69, 70, 71, 72, 73, 74, 75, 76, 77, 78, 79, 80, 81, 82, 83, 84, 85, 86, 87, 88, 89, 90, 91, 92] (by decide +kernel) (by decide +kernel)
set_option maxRecDepth 20000 in
theorem gX5_doneIn_X5_passes : GoodIn wsX5_doneIn (wsV RX5 98 RX5 yX5_passes wsX5_passes) := goodIn_app (goodIn_of _ (by decide +kernel)) ggX5_doneIn_X5_passes
set_option maxRecDepth 20000 in
theorem ggX5_isEnough_X5_copy : GoodIn wsX5_isEnough wsX5_copy := goodIn_r _ [6] (by decide +kernel) (by decide +kernel)
set_option maxRecDepth 20000 in
theorem gX5_isEnough_X5_copy : GoodIn wsX5_isEnough (va_wsS RX5 32 yX5_copy wsX5_copy) := goodIn_app (goodIn_of _ (by decide +kernel)) ggX5_isEnough_X5_copy
set_option maxRecDepth 20000 in
theorem ggX5_isEnough_X5_builds : GoodIn wsX5_isEnough wsX5_builds := goodIn_r _ [10, 2, 11, 12, 13, 5, 14, 83, 84, 85, 86, 87, 88, 89, 90, 91, 92, 93, 94, 95, 96] (by decide +kernel) (by decide +kernel)
set_option maxRecDepth 20000 in
theorem gX5_isEnough_X5_builds : GoodIn wsX5_isEnough (wsV RX5 28 RX5 yX5_builds wsX5_builds) := goodIn_app (goodIn_of _ (by decide +kernel)) ggX5_isEnough_X5_builds
set_option maxRecDepth 20000 in
theorem ggX5_isEnough_X5_waits : GoodIn wsX5_isEnough wsX5_waits := goodIn_r _ [18, 2, 83, 84, 85, 86, 87, 88, 89, 90, 91, 92, 93, 94, 95, 96] (by decide +kernel) (by decide +kernel)
set_option maxRecDepth 20000 in
theorem gX5_isEnough_X5_waits : GoodIn wsX5_isEnough (wsV RX5 125 RX5 yX5_waits wsX5_waits) := goodIn_app (goodIn_of _ (by decide +kernel)) ggX5_isEnough_X5_waits
set_option maxRecDepth 20000 in
theorem ggX5_isEnough_X5_passes : GoodIn wsX5_isEnough wsX5_passes := goodIn_r _ [22, 2, 23, 24, 25, 5, 26, 27, 28, 29, 30, 31, 32, 33, 34, 35, 36, 37, 38, 39, 40, 41, 42, 43, 44, 45, 46, 47, 48, 49, 50, 51, 52, 53, 54, 55, 56, 57, 58, 59, 60, 61, 62, 63, 64, 65, 66, 67, 68, 69, 70, 11, 12, 13, 14, 71, 72, 73, 74, 75, 76, 77, 78, 79, 80, 81, 82, 83, 84, 85, 86, 87, 88, 89, 90, 91, 92, 93, 94, 95, 96] (by decide +kernel) (by decide +kernel)
set_option maxRecDepth 20000 in
theorem gX5_isEnough_X5_passes : GoodIn wsX5_isEnough (wsV RX5 98 RX5 yX5_passes wsX5_passes) := goodIn_app (goodIn_of _ (by decide +kernel)) ggX5_isEnough_X5_passes
set_option maxRecDepth 20000 in
theorem ggX5_leastDepth_X5_in : GoodIn wsX5_leastDepth wsX5_in := goodIn_r _ [7] (by decide +kernel) (by decide +kernel)
set_option maxRecDepth 20000 in
theorem gX5_leastDepth_X5_in : GoodIn wsX5_leastDepth (va_wsS RX5 104 yX5_in wsX5_in) := goodIn_app (goodIn_of _ (by decide +kernel)) ggX5_leastDepth_X5_in
set_option maxRecDepth 20000 in
theorem ggX5_leastDepth_X5_copy : GoodIn wsX5_leastDepth wsX5_copy := goodIn_r _ [10] (by decide +kernel) (by decide +kernel)
set_option maxRecDepth 20000 in
theorem gX5_leastDepth_X5_copy : GoodIn wsX5_leastDepth (va_wsS RX5 32 yX5_copy wsX5_copy) := goodIn_app (goodIn_of _ (by decide +kernel)) ggX5_leastDepth_X5_copy
set_option maxRecDepth 20000 in
theorem ggX5_leastDepth_X5_isEnough : GoodIn wsX5_leastDepth wsX5_isEnough := goodIn_r _ [14, 3, 2, 8, 9, 6, 10, 15, 16, 17, 18, 19, 20, 21, 22, 23, 24, 25, 26, 27, 28, 29, 30, 31, 32, 33, 34, 35, 36, 37, 38, 39, 40, 41, 42, 43, 44, 45, 46, 47, 48, 49, 50, 51, 52, 53, 54, 55, 56, 57, 58, 59, 60, 61, 62, 63, 64, 65, 66, 67, 68, 69, 70, 71, 72, 73, 74, 75, 76, 77, 78, 79, 80, 81, 82, 83, 84, 85, 86, 87, 88, 89, 90, 91, 92, 93, 94, 95, 96, 97, 98, 99, 100, 101, 102, 103, 104] (by decide +kernel) (by decide +kernel)
set_option maxRecDepth 20000 in
theorem gX5_leastDepth_X5_isEnough : GoodIn wsX5_leastDepth (wsV RX5 183 RX5 yX5_isEnough wsX5_isEnough) := goodIn_app (goodIn_of _ (by decide +kernel)) ggX5_leastDepth_X5_isEnough
set_option maxRecDepth 20000 in
theorem ggX5_count_X5_depth : GoodIn wsX5_count wsX5_depth := goodIn_r _ [8, 1, 17, 18, 19, 20, 21, 22, 23, 24, 25, 26, 27, 28, 29, 30] (by decide +kernel) (by decide +kernel)
set_option maxRecDepth 20000 in
theorem gX5_count_X5_depth : GoodIn wsX5_count (wsV RX5 40 RX5 yX5_depth wsX5_depth) := goodIn_app (goodIn_of _ (by decide +kernel)) ggX5_count_X5_depth
set_option maxRecDepth 20000 in
theorem ggX5_count_X5_of : GoodIn wsX5_count wsX5_of := goodIn_r _ [12, 1, 17, 18, 19, 20, 21, 22, 23, 24, 25, 26, 27, 28, 29, 30] (by decide +kernel) (by decide +kernel)
set_option maxRecDepth 20000 in
theorem gX5_count_X5_of : GoodIn wsX5_count (wsV RX5 44 RX5 yX5_of wsX5_of) := goodIn_app (goodIn_of _ (by decide +kernel)) ggX5_count_X5_of
set_option maxRecDepth 20000 in
theorem ggX5_count_X5_around : GoodIn wsX5_count wsX5_around := goodIn_r _ [16, 4, 5, 6, 7, 8, 1, 17, 18, 19, 20, 21, 22, 23, 24, 25, 26, 27, 28, 29, 30] (by decide +kernel) (by decide +kernel)
set_option maxRecDepth 20000 in
theorem gX5_count_X5_around : GoodIn wsX5_count (wsV RX5 55 RX5 yX5_around wsX5_around) := goodIn_app (goodIn_of _ (by decide +kernel)) ggX5_count_X5_around
set_option maxRecDepth 20000 in
theorem ggL_law_X4_init : GoodIn wsL_law wsX4_init := goodIn_r _ [8, 9, 10, 11, 12, 13, 14, 15, 16, 17, 18, 19, 20, 21, 22, 23, 24, 25, 26, 27, 28, 29, 30, 31, 32, 33, 34, 35, 36, 37, 38, 39, 40, 41, 42, 43, 44, 45, 46, 47, 48, 49, 50, 2, 51, 52, 53, 54, 55, 56, 57, 58, 59, 60, 61, 62, 63, 64, 65, 613, 614, 615, 616, 617, 618, 619, 620, 621, 622, 623, 624, 625, 626, 627, 593, 594, 595, 596, 597, 598, 628, 629, 630, 631, 632, 633, 634, 635, 636, 637, 638, 639, 640, 641, 642, 643, 644] (by decide +kernel) (by decide +kernel)
set_option maxRecDepth 20000 in
theorem gL_law_X4_init : GoodIn wsL_law (wsX4_init) := ggL_law_X4_init
set_option maxRecDepth 20000 in
theorem ggL_law_X5_init : GoodIn wsL_law wsX5_init := goodIn_r _ [68, 69, 10, 11, 39, 70, 71, 72, 73, 74, 75, 76, 77, 78, 5, 79, 80, 81, 82, 83, 599, 600, 601, 602, 603, 604, 605, 606, 607, 608, 609, 610, 611, 612] (by decide +kernel) (by decide +kernel)
set_option maxRecDepth 20000 in
theorem gL_law_X5_init : GoodIn wsL_law (wsX5_init) := ggL_law_X5_init
set_option maxRecDepth 20000 in
theorem ggL_law_X4_build : GoodIn wsL_law wsX4_build := goodIn_r _ [87, 21, 15, 88, 89, 2, 90, 91, 92, 93, 20, 94, 95, 96, 97, 98, 99, 100, 101, 102, 57, 103, 104, 105, 14, 106, 30, 31, 107, 32, 33, 37, 38, 40, 41, 42, 108, 43, 109, 110, 111, 112, 113, 114, 36, 115, 49, 116, 48, 117, 118, 119, 120, 121, 122, 123, 124, 125, 126, 127, 128, 129, 130, 131, 50, 51, 132, 133, 134, 135, 593, 594, 595, 596, 597, 598, 613, 614, 615, 616, 617, 618, 619, 620, 621, 622, 623, 624, 625, 626, 627, 628, 629, 630, 637, 638, 639, 640, 641, 642, 643, 644] (by decide +kernel) (by decide +kernel)
set_option maxRecDepth 20000 in
theorem gL_law_X4_build : GoodIn wsL_law (wsV RL 13 RX4 yX4_build wsX4_build) := goodIn_app (goodIn_of _ (by decide +kernel)) ggL_law_X4_build
set_option maxRecDepth 20000 in
theorem ggL_law_X5_build : GoodIn wsL_law wsX5_build := goodIn_r _ [139, 140, 141, 142, 5, 143, 144, 145, 146, 147, 70, 71, 148, 149, 150, 76, 77, 78, 79, 80, 81, 82, 83, 151, 152, 153, 154, 155, 156, 157, 158, 159, 73, 599, 600, 601, 602, 603, 604, 605, 606, 607, 608, 609, 610, 611, 612] (by decide +kernel) (by decide +kernel)
set_option maxRecDepth 20000 in
theorem gL_law_X5_build : GoodIn wsL_law (wsV RL 17 RX5 yX5_build wsX5_build) := goodIn_app (goodIn_of _ (by decide +kernel)) ggL_law_X5_build
set_option maxRecDepth 20000 in
theorem ggL_law_X4_setClock : GoodIn wsL_law wsX4_setClock := goodIn_r _ [163, 15, 21, 164, 165, 2, 166, 88, 89, 90, 167, 168, 169, 14, 170, 37, 38, 91, 92, 93, 20, 94, 95, 96, 97, 98, 99, 100, 101, 102, 57, 103, 104, 105, 106, 30, 31, 107, 32, 33, 40, 41, 42, 108, 43, 109, 110, 111, 112, 113, 114, 36, 115, 49, 116, 48, 117, 118, 119, 120, 121, 122, 123, 593, 594, 595, 596, 597, 598, 637, 638, 639, 640, 641, 642, 643, 644, 613, 614, 615, 616, 617, 618, 619, 620, 621, 622, 623, 624, 625, 626, 627, 628, 629, 630] (by decide +kernel) (by decide +kernel)
set_option maxRecDepth 20000 in
theorem gL_law_X4_setClock : GoodIn wsL_law (wsV RL 18 RX4 yX4_setClock wsX4_setClock) := goodIn_app (goodIn_of _ (by decide +kernel)) ggL_law_X4_setClock
set_option maxRecDepth 20000 in
theorem ggL_law_X5_setClock : GoodIn wsL_law wsX5_setClock := goodIn_r _ [174, 175, 176, 177, 178, 5, 179, 141, 142, 143, 180, 181, 182, 183, 70, 144, 145, 146, 147, 71, 148, 149, 150, 80, 81, 82, 83, 155, 156, 157, 158, 159, 73, 599, 600, 601, 602, 603, 604, 605, 606, 607, 608, 609, 610, 611, 612] (by decide +kernel) (by decide +kernel)
set_option maxRecDepth 20000 in
theorem gL_law_X5_setClock : GoodIn wsL_law (wsV RL 22 RX5 yX5_setClock wsX5_setClock) := goodIn_app (goodIn_of _ (by decide +kernel)) ggL_law_X5_setClock
set_option maxRecDepth 20000 in
theorem ggL_law_X4_start : GoodIn wsL_law wsX4_start := goodIn_r _ [187, 15, 21, 164, 165, 2, 166, 167, 168, 169, 14, 170, 37, 38, 91, 92, 93, 20, 94, 95, 96, 97, 98, 99, 100, 101, 102, 57, 103, 104, 105, 106, 30, 31, 107, 32, 33, 40, 41, 42, 108, 43, 109, 110, 111, 112, 113, 114, 36, 115, 49, 116, 48, 117, 118, 119, 120, 121, 122, 123, 593, 594, 595, 596, 597, 598, 637, 638, 639, 640, 641, 642, 643, 644, 613, 614, 615, 616, 617, 618, 619, 620, 621, 622, 623, 624, 625, 626, 627, 628, 629, 630] (by decide +kernel) (by decide +kernel)
set_option maxRecDepth 20000 in
theorem gL_law_X4_start : GoodIn wsL_law (wsV RL 23 RX4 yX4_start wsX4_start) := goodIn_app (goodIn_of _ (by decide +kernel)) ggL_law_X4_start
set_option maxRecDepth 20000 in
theorem ggL_law_X5_start : GoodIn wsL_law wsX5_start := goodIn_r _ [191, 70, 177, 178, 5, 179, 180, 181, 182, 183, 144, 145, 146, 147, 71, 148, 149, 150, 80, 81, 82, 83, 155, 156, 157, 158, 159, 73, 599, 600, 601, 602, 603, 604, 605, 606, 607, 608, 609, 610, 611, 612] (by decide +kernel) (by decide +kernel)
set_option maxRecDepth 20000 in
theorem gL_law_X5_start : GoodIn wsL_law (wsV RL 26 RX5 yX5_start wsX5_start) := goodIn_app (goodIn_of _ (by decide +kernel)) ggL_law_X5_start
set_option maxRecDepth 20000 in
theorem ggL_law_X4_set : GoodIn wsL_law wsX4_set := goodIn_r _ [195, 15, 21, 88, 89, 2, 90, 91, 92, 93, 20, 94, 95, 96, 97, 98, 99, 100, 101, 102, 57, 103, 104, 105, 14, 106, 30, 31, 107, 32, 33, 37, 38, 40, 41, 42, 108, 43, 109, 110, 111, 112, 113, 114, 36, 115, 49, 116, 48, 117, 118, 119, 120, 121, 122, 123, 593, 594, 595, 596, 597, 598, 613, 614, 615, 616, 617, 618, 619, 620, 621, 622, 623, 624, 625, 626, 627, 628, 629, 630, 637, 638, 639, 640, 641, 642, 643, 644] (by decide +kernel) (by decide +kernel)
set_option maxRecDepth 20000 in
theorem gL_law_X4_set : GoodIn wsL_law (wsV RL 27 RX4 yX4_set wsX4_set) := goodIn_app (goodIn_of _ (by decide +kernel)) ggL_law_X4_set
set_option maxRecDepth 20000 in
theorem ggL_law_X5_set : GoodIn wsL_law wsX5_set := goodIn_r _ [199, 200, 70, 141, 142, 5, 143, 144, 145, 146, 147, 71, 148, 149, 150, 155, 156, 157, 158, 159, 73, 599, 600, 601, 602, 603, 604, 605, 606, 607, 608, 609, 610, 611, 612] (by decide +kernel) (by decide +kernel)
set_option maxRecDepth 20000 in
theorem gL_law_X5_set : GoodIn wsL_law (wsV RL 31 RX5 yX5_set wsX5_set) := goodIn_app (goodIn_of _ (by decide +kernel)) ggL_law_X5_set
set_option maxRecDepth 20000 in
theorem ggL_law_X4_push : GoodIn wsL_law wsX4_push := goodIn_r _ [204, 15, 21, 88, 89, 2, 90, 91, 92, 93, 20, 94, 95, 96, 97, 98, 99, 100, 101, 102, 57, 103, 104, 105, 14, 106, 30, 31, 107, 32, 33, 37, 38, 40, 41, 42, 108, 43, 109, 110, 111, 112, 113, 114, 36, 115, 49, 116, 48, 117, 118, 119, 120, 121, 122, 123, 205, 206, 207, 208, 209, 210, 593, 594, 595, 596, 597, 598, 613, 614, 615, 616, 617, 618, 619, 620, 621, 622, 623, 624, 625, 626, 627, 628, 629, 630, 637, 638, 639, 640, 641, 642, 643, 644] (by decide +kernel) (by decide +kernel)
set_option maxRecDepth 20000 in
theorem gL_law_X4_push : GoodIn wsL_law (wsV RL 32 RX4 yX4_push wsX4_push) := goodIn_app (goodIn_of _ (by decide +kernel)) ggL_law_X4_push
set_option maxRecDepth 20000 in
theorem ggL_law_X5_push : GoodIn wsL_law wsX5_push := goodIn_r _ [214, 215, 70, 141, 142, 5, 143, 144, 145, 146, 147, 71, 148, 149, 150, 216, 217, 218, 219, 155, 156, 157, 158, 159, 73, 599, 600, 601, 602, 603, 604, 605, 606, 607, 608, 609, 610, 611, 612] (by decide +kernel) (by decide +kernel)
set_option maxRecDepth 20000 in
theorem gL_law_X5_push : GoodIn wsL_law (wsV RL 36 RX5 yX5_push wsX5_push) := goodIn_app (goodIn_of _ (by decide +kernel)) ggL_law_X5_push
set_option maxRecDepth 20000 in
theorem ggL_law_X4_pushAll : GoodIn wsL_law wsX4_pushAll := goodIn_r _ [223, 25, 16, 15, 21, 224, 225, 226, 24, 227, 228, 229, 230, 231, 232, 233, 234, 235, 236, 237, 238, 63, 239, 240, 241, 242, 243, 244, 245, 246, 247, 248, 249, 250, 251, 252, 253, 254, 64, 65, 209, 2, 210, 255, 104, 105, 14, 106, 30, 31, 107, 32, 33, 37, 38, 40, 41, 42, 108, 43, 109, 110, 111, 112, 113, 114, 36, 115, 49, 116, 48, 117, 118, 119, 120, 121, 122, 123, 256, 257, 258, 259, 260, 261, 262, 206, 207, 208, 263, 264, 265, 266, 267, 268, 269, 270, 271, 272, 273, 274, 275, 276, 277, 278, 279, 97, 98, 280, 281, 282, 283, 284, 285, 286, 287, 288, 133, 134, 135, 289, 290, 291, 292, 293, 294, 295, 296, 297, 298, 299, 300, 301, 302, 303, 304, 305, 306, 307, 308, 309, 310, 311, 312, 313, 314, 315, 316, 91, 92, 93, 20, 94, 95, 96, 99, 100, 101, 102, 57, 103, 317, 318, 319, 320, 593, 594, 595, 596, 597, 598, 631, 632, 633, 634, 635, 636, 613, 614, 615, 616, 617, 618, 619, 620, 621, 622, 623, 624, 625, 626, 627, 637, 638, 639, 640, 641, 642, 643, 644, 628, 629, 630] (by decide +kernel) (by decide +kernel)
set_option maxRecDepth 20000 in
theorem gL_law_X4_pushAll : GoodIn wsL_law (wsV RL 37 RX4 yX4_pushAll wsX4_pushAll) := goodIn_app (goodIn_of _ (by decide +kernel)) ggL_law_X4_pushAll
set_option maxRecDepth 20000 in
theorem ggL_law_X5_pushAll : GoodIn wsL_law wsX5_pushAll := goodIn_r _ [324, 71, 70, 325, 326, 327, 5, 328, 329, 330, 331, 332, 333, 334, 335, 336, 337, 338, 75, 339, 340, 341, 342, 343, 344, 345, 346, 141, 142, 143, 347, 348, 349, 350, 144, 145, 146, 147, 148, 149, 150, 351, 352, 353, 354, 355, 216, 217, 218, 219, 356, 357, 358, 359, 360, 361, 362, 363, 364, 365, 366, 367, 180, 181, 182, 183, 368, 369, 370, 371, 372, 373, 374, 375, 376, 377, 378, 379, 380, 381, 382, 383, 384, 385, 386, 387, 388, 389, 390, 391, 151, 152, 153, 154, 392, 393, 394, 395, 396, 397, 398, 399, 400, 401, 402, 403, 80, 81, 82, 83, 404, 405, 406, 407, 408, 409, 410, 411, 412, 413, 414, 415, 155, 156, 157, 158, 159, 73, 599, 600, 601, 602, 603, 604, 605, 606, 607, 608, 609, 610, 611, 612] (by decide +kernel) (by decide +kernel)
set_option maxRecDepth 20000 in
theorem gL_law_X5_pushAll : GoodIn wsL_law (wsV RL 41 RX5 yX5_pushAll wsX5_pushAll) := goodIn_app (goodIn_of _ (by decide +kernel)) ggL_law_X5_pushAll
set_option maxRecDepth 20000 in
theorem ggL_law_X4_pass : GoodIn wsL_law wsX4_pass := goodIn_r _ [419, 15, 21, 88, 89, 2, 90, 420, 264, 265, 14, 266, 107, 267, 91, 92, 93, 20, 94, 95, 96, 97, 98, 99, 100, 101, 102, 57, 103, 104, 105, 106, 30, 31, 32, 33, 37, 38, 40, 41, 42, 108, 43, 109, 110, 111, 112, 113, 114, 36, 115, 49, 116, 48, 117, 118, 119, 120, 121, 122, 123, 421, 269, 270, 271, 272, 273, 274, 275, 276, 277, 278, 279, 280, 281, 282, 283, 284, 285, 286, 287, 288, 133, 134, 135, 289, 290, 291, 292, 293, 294, 295, 296, 297, 298, 299, 300, 301, 302, 303, 304, 305, 306, 307, 308, 309, 310, 311, 312, 260, 261, 209, 210, 313, 314, 315, 316, 593, 594, 595, 596, 597, 598, 613, 614, 615, 616, 617, 618, 619, 620, 621, 622, 623, 624, 625, 626, 627, 628, 629, 630, 637, 638, 639, 640, 641, 642, 643, 644] (by decide +kernel) (by decide +kernel)
set_option maxRecDepth 20000 in
theorem gL_law_X4_pass : GoodIn wsL_law (wsV RL 42 RX4 yX4_pass wsX4_pass) := goodIn_app (goodIn_of _ (by decide +kernel)) ggL_law_X4_pass
set_option maxRecDepth 20000 in
theorem ggL_law_X5_pass : GoodIn wsL_law wsX5_pass := goodIn_r _ [425, 426, 70, 355, 141, 142, 5, 143, 144, 145, 146, 147, 71, 148, 149, 150, 356, 357, 358, 359, 360, 361, 362, 363, 364, 365, 366, 367, 180, 181, 182, 183, 368, 369, 370, 371, 372, 373, 374, 375, 376, 377, 378, 379, 380, 381, 382, 383, 384, 385, 386, 387, 388, 389, 390, 391, 151, 152, 153, 154, 392, 393, 394, 395, 396, 397, 398, 399, 400, 401, 402, 403, 80, 81, 82, 83, 404, 405, 406, 407, 408, 409, 410, 411, 412, 413, 414, 415, 155, 156, 157, 158, 159, 73, 599, 600, 601, 602, 603, 604, 605, 606, 607, 608, 609, 610, 611, 612] (by decide +kernel) (by decide +kernel)
set_option maxRecDepth 20000 in
theorem gL_law_X5_pass : GoodIn wsL_law (wsV RL 45 RX5 yX5_pass wsX5_pass) := goodIn_app (goodIn_of _ (by decide +kernel)) ggL_law_X5_pass
set_option maxRecDepth 20000 in
theorem ggL_law_X4_type : GoodIn wsL_law wsX4_type := goodIn_r _ [430, 25, 431, 432, 433, 24, 434, 230, 63, 593, 594, 595, 596, 597, 598, 631, 632, 633, 634, 635, 636] (by decide +kernel) (by decide +kernel)
set_option maxRecDepth 20000 in
theorem gL_law_X4_type : GoodIn wsL_law (wsV RL 46 RX4 yX4_type wsX4_type) := goodIn_app (goodIn_of _ (by decide +kernel)) ggL_law_X4_type
set_option maxRecDepth 20000 in
theorem ggL_law_X5_type : GoodIn wsL_law wsX5_type := goodIn_r _ [438, 330, 75, 599, 600, 601, 602, 603, 604, 605, 606, 607, 608, 609, 610, 611, 612] (by decide +kernel) (by decide +kernel)
set_option maxRecDepth 20000 in
theorem gL_law_X5_type : GoodIn wsL_law (wsV RL 50 RX5 yX5_type wsX5_type) := goodIn_app (goodIn_of _ (by decide +kernel)) ggL_law_X5_type
set_option maxRecDepth 20000 in
theorem ggL_law_X4_clearText : GoodIn wsL_law wsX4_clearText := goodIn_r _ [442, 25, 593, 594, 595, 596, 597, 598, 631, 632, 633, 634, 635, 636] (by decide +kernel) (by decide +kernel)
set_option maxRecDepth 20000 in
theorem gL_law_X4_clearText : GoodIn wsL_law (wsV RL 51 RX4 yX4_clearText wsX4_clearText) := goodIn_app (goodIn_of _ (by decide +kernel)) ggL_law_X4_clearText
set_option maxRecDepth 20000 in
theorem ggL_law_X5_clearText : GoodIn wsL_law wsX5_clearText := goodIn_r _ [446, 330, 599, 600, 601, 602, 603, 604, 605, 606, 607, 608, 609, 610, 611, 612] (by decide +kernel) (by decide +kernel)
set_option maxRecDepth 20000 in
theorem gL_law_X5_clearText : GoodIn wsL_law (wsV RL 54 RX5 yX5_clearText wsX5_clearText) := goodIn_app (goodIn_of _ (by decide +kernel)) ggL_law_X5_clearText
set_option maxRecDepth 20000 in
theorem ggL_law_X4_undo : GoodIn wsL_law wsX4_undo := goodIn_r _ [450, 21, 15, 451, 452, 453, 20, 454, 95, 99, 100, 101, 102, 96, 57, 97, 2, 98, 103, 104, 105, 14, 106, 30, 31, 107, 32, 33, 37, 38, 40, 41, 42, 108, 43, 109, 110, 111, 112, 113, 114, 36, 115, 49, 116, 48, 117, 118, 119, 120, 121, 122, 123, 593, 594, 595, 596, 597, 598, 628, 629, 630, 613, 614, 615, 616, 617, 618, 619, 620, 621, 622, 623, 624, 625, 626, 627, 637, 638, 639, 640, 641, 642, 643, 644] (by decide +kernel) (by decide +kernel)
set_option maxRecDepth 20000 in
theorem gL_law_X4_undo : GoodIn wsL_law (wsV RL 55 RX4 yX4_undo wsX4_undo) := goodIn_app (goodIn_of _ (by decide +kernel)) ggL_law_X4_undo
set_option maxRecDepth 20000 in
theorem ggL_law_X5_undo : GoodIn wsL_law wsX5_undo := goodIn_r _ [458, 159, 70, 73, 599, 600, 601, 602, 603, 604, 605, 606, 607, 608, 609, 610, 611, 612] (by decide +kernel) (by decide +kernel)
set_option maxRecDepth 20000 in
theorem gL_law_X5_undo : GoodIn wsL_law (wsV RL 58 RX5 yX5_undo wsX5_undo) := goodIn_app (goodIn_of _ (by decide +kernel)) ggL_law_X5_undo
set_option maxRecDepth 20000 in
theorem ggL_law_X4_keep : GoodIn wsL_law wsX4_keep := goodIn_r _ [462, 17, 15, 463, 255, 104, 105, 14, 106, 30, 31, 107, 32, 33, 37, 38, 40, 41, 42, 108, 43, 109, 110, 111, 112, 113, 114, 36, 115, 49, 116, 48, 117, 118, 119, 120, 121, 122, 2, 123, 593, 594, 595, 596, 597, 598, 613, 614, 615, 616, 617, 618, 619, 620, 621, 622, 623, 624, 625, 626, 627, 637, 638, 639, 640, 641, 642, 643, 644] (by decide +kernel) (by decide +kernel)
set_option maxRecDepth 20000 in
theorem gL_law_X4_keep : GoodIn wsL_law (wsV RL 59 RX4 yX4_keep wsX4_keep) := goodIn_app (goodIn_of _ (by decide +kernel)) ggL_law_X4_keep
set_option maxRecDepth 20000 in
theorem ggL_law_X5_keep : GoodIn wsL_law wsX5_keep := goodIn_r _ [467, 70, 74, 468, 148, 149, 5, 150, 599, 600, 601, 602, 603, 604, 605, 606, 607, 608, 609, 610, 611, 612] (by decide +kernel) (by decide +kernel)
set_option maxRecDepth 20000 in
theorem gL_law_X5_keep : GoodIn wsL_law (wsV RL 62 RX5 yX5_keep wsX5_keep) := goodIn_app (goodIn_of _ (by decide +kernel)) ggL_law_X5_keep
set_option maxRecDepth 20000 in
theorem ggL_law_X4_restore : GoodIn wsL_law wsX4_restore := goodIn_r _ [472, 463, 21, 15, 17, 91, 92, 93, 20, 94, 95, 96, 97, 2, 98, 99, 100, 101, 102, 57, 103, 104, 105, 14, 106, 30, 31, 107, 32, 33, 37, 38, 40, 41, 42, 108, 43, 109, 110, 111, 112, 113, 114, 36, 115, 49, 116, 48, 117, 118, 119, 120, 121, 122, 123, 255, 593, 594, 595, 596, 597, 598, 613, 614, 615, 616, 617, 618, 619, 620, 621, 622, 623, 624, 625, 626, 627, 628, 629, 630, 637, 638, 639, 640, 641, 642, 643, 644] (by decide +kernel) (by decide +kernel)
set_option maxRecDepth 20000 in
theorem gL_law_X4_restore : GoodIn wsL_law (wsV RL 63 RX4 yX4_restore wsX4_restore) := goodIn_app (goodIn_of _ (by decide +kernel)) ggL_law_X4_restore
set_option maxRecDepth 20000 in
theorem ggL_law_X5_restore : GoodIn wsL_law wsX5_restore := goodIn_r _ [476, 468, 74, 70, 144, 145, 146, 5, 147, 71, 148, 149, 150, 155, 156, 157, 158, 159, 73, 599, 600, 601, 602, 603, 604, 605, 606, 607, 608, 609, 610, 611, 612] (by decide +kernel) (by decide +kernel)
set_option maxRecDepth 20000 in
theorem gL_law_X5_restore : GoodIn wsL_law (wsV RL 66 RX5 yX5_restore wsX5_restore) := goodIn_app (goodIn_of _ (by decide +kernel)) ggL_law_X5_restore
set_option maxRecDepth 20000 in
theorem ggL_law_X4_side : GoodIn wsL_law wsX4_side := goodIn_r _ [480, 15, 164, 165, 2, 166, 167, 168, 169, 14, 170, 37, 38, 481, 482, 483, 484, 298, 299, 300, 31, 485, 285, 286, 287, 486, 487, 488, 489, 284, 289, 290, 291, 292, 288, 133, 134, 135, 30, 490, 491, 492, 493, 494, 281, 282, 283, 495, 294, 295, 296, 496, 497, 498, 499, 32, 500, 501, 502, 503, 504, 33, 505, 506, 507, 508, 36, 509, 48, 49, 116, 97, 98, 593, 594, 595, 596, 597, 598, 637, 638, 639, 640, 641, 642, 643, 644, 613, 614, 615, 616, 617, 618, 619, 620, 621, 622, 623, 624, 625, 626, 627] (by decide +kernel) (by decide +kernel)
set_option maxRecDepth 20000 in
theorem gL_law_X4_side : GoodIn wsL_law (wsV RL 67 RX4 yX4_side wsX4_side) := goodIn_app (goodIn_of _ (by decide +kernel)) ggL_law_X4_side
set_option maxRecDepth 20000 in
theorem ggL_law_X5_side : GoodIn wsL_law wsX5_side := goodIn_r _ [513, 177, 178, 5, 179, 180, 181, 182, 183, 70, 396, 397, 398, 399, 380, 381, 382, 383, 384, 385, 386, 387, 376, 377, 378, 379, 388, 389, 390, 391, 151, 152, 153, 154, 372, 373, 374, 375, 514, 515, 516, 517, 518, 519, 520, 521, 599, 600, 601, 602, 603, 604, 605, 606, 607, 608, 609, 610, 611, 612] (by decide +kernel) (by decide +kernel)
set_option maxRecDepth 20000 in
theorem gL_law_X5_side : GoodIn wsL_law (wsV RL 70 RX5 yX5_side wsX5_side) := goodIn_app (goodIn_of _ (by decide +kernel)) ggL_law_X5_side
set_option maxRecDepth 20000 in
theorem ggL_law_X4_place : GoodIn wsL_law wsX4_place := goodIn_r _ [525, 15, 132, 133, 134, 14, 135, 30, 88, 89, 2, 90, 526, 260, 261, 593, 594, 595, 596, 597, 598, 613, 614, 615, 616, 617, 618, 619, 620, 621, 622, 623, 624, 625, 626, 627] (by decide +kernel) (by decide +kernel)
set_option maxRecDepth 20000 in
theorem gL_law_X4_place : GoodIn wsL_law (wsV RL 71 RX4 yX4_place wsX4_place) := goodIn_app (goodIn_of _ (by decide +kernel)) ggL_law_X4_place
set_option maxRecDepth 20000 in
theorem ggL_law_X5_place : GoodIn wsL_law wsX5_place := goodIn_r _ [530, 70, 151, 152, 153, 5, 154, 141, 142, 143, 599, 600, 601, 602, 603, 604, 605, 606, 607, 608, 609, 610, 611, 612] (by decide +kernel) (by decide +kernel)
set_option maxRecDepth 20000 in
theorem gL_law_X5_place : GoodIn wsL_law (wsV RL 74 RX5 yX5_place wsX5_place) := goodIn_app (goodIn_of _ (by decide +kernel)) ggL_law_X5_place
set_option maxRecDepth 20000 in
theorem ggL_law_X4_waiting : GoodIn wsL_law wsX4_waiting := goodIn_r _ [534, 15, 526, 260, 2, 261, 593, 594, 595, 596, 597, 598, 613, 614, 615, 616, 617, 618, 619, 620, 621, 622, 623, 624, 625, 626, 627] (by decide +kernel) (by decide +kernel)
set_option maxRecDepth 20000 in
theorem gL_law_X4_waiting : GoodIn wsL_law (wsV RL 75 RX4 yX4_waiting wsX4_waiting) := goodIn_app (goodIn_of _ (by decide +kernel)) ggL_law_X4_waiting
set_option maxRecDepth 20000 in
theorem ggL_law_X5_waiting : GoodIn wsL_law wsX5_waiting := goodIn_r _ [538, 70, 599, 600, 601, 602, 603, 604, 605, 606, 607, 608, 609, 610, 611, 612] (by decide +kernel) (by decide +kernel)
set_option maxRecDepth 20000 in
theorem gL_law_X5_waiting : GoodIn wsL_law (wsV RL 78 RX5 yX5_waiting wsX5_waiting) := goodIn_app (goodIn_of _ (by decide +kernel)) ggL_law_X5_waiting
set_option maxRecDepth 20000 in
theorem ggL_law_X4_taken : GoodIn wsL_law wsX4_taken := goodIn_r _ [542, 15, 543, 544, 545, 14, 546, 110, 43, 260, 2, 261, 593, 594, 595, 596, 597, 598, 613, 614, 615, 616, 617, 618, 619, 620, 621, 622, 623, 624, 625, 626, 627] (by decide +kernel) (by decide +kernel)
set_option maxRecDepth 20000 in
theorem gL_law_X4_taken : GoodIn wsL_law (wsV RL 79 RX4 yX4_taken wsX4_taken) := goodIn_app (goodIn_of _ (by decide +kernel)) ggL_law_X4_taken
set_option maxRecDepth 20000 in
theorem ggL_law_X5_taken : GoodIn wsL_law wsX5_taken := goodIn_r _ [550, 70, 599, 600, 601, 602, 603, 604, 605, 606, 607, 608, 609, 610, 611, 612] (by decide +kernel) (by decide +kernel)
set_option maxRecDepth 20000 in
theorem gL_law_X5_taken : GoodIn wsL_law (wsV RL 82 RX5 yX5_taken wsX5_taken) := goodIn_app (goodIn_of _ (by decide +kernel)) ggL_law_X5_taken
set_option maxRecDepth 20000 in
theorem ggL_law_X4_doneIn : GoodIn wsL_law wsX4_doneIn := goodIn_r _ [554, 16, 15, 255, 104, 105, 14, 106, 30, 31, 107, 32, 33, 37, 38, 40, 41, 42, 108, 43, 109, 110, 111, 112, 113, 114, 36, 115, 49, 116, 48, 117, 118, 119, 120, 121, 122, 2, 123, 555, 556, 557, 558, 559, 273, 274, 275, 276, 277, 278, 279, 97, 98, 280, 281, 282, 283, 284, 285, 286, 287, 288, 133, 134, 135, 289, 290, 291, 292, 293, 294, 295, 296, 297, 298, 299, 300, 301, 302, 303, 304, 305, 306, 307, 308, 309, 310, 311, 312, 260, 261, 209, 210, 313, 314, 315, 316, 593, 594, 595, 596, 597, 598, 613, 614, 615, 616, 617, 618, 619, 620, 621, 622, 623, 624, 625, 626, 627, 637, 638, 639, 640, 641, 642, 643, 644] (by decide +kernel) (by decide +kernel)
set_option maxRecDepth 20000 in
theorem gL_law_X4_doneIn : GoodIn wsL_law (wsV RL 83 RX4 yX4_doneIn wsX4_doneIn) := goodIn_app (goodIn_of _ (by decide +kernel)) ggL_law_X4_doneIn
set_option maxRecDepth 20000 in
theorem ggL_law_X5_doneIn : GoodIn wsL_law wsX5_doneIn := goodIn_r _ [563, 70, 72, 148, 149, 5, 150, 564, 565, 566, 567, 360, 361, 362, 363, 364, 365, 366, 367, 180, 181, 182, 183, 368, 369, 370, 371, 372, 373, 374, 375, 376, 377, 378, 379, 380, 381, 382, 383, 384, 385, 386, 387, 388, 389, 390, 391, 151, 152, 153, 154, 392, 393, 394, 395, 396, 397, 398, 399, 400, 401, 402, 403, 80, 81, 82, 83, 404, 405, 406, 407, 408, 409, 410, 411, 412, 413, 414, 415, 599, 600, 601, 602, 603, 604, 605, 606, 607, 608, 609, 610, 611, 612] (by decide +kernel) (by decide +kernel)
set_option maxRecDepth 20000 in
theorem gL_law_X5_doneIn : GoodIn wsL_law (wsV RL 86 RX5 yX5_doneIn wsX5_doneIn) := goodIn_app (goodIn_of _ (by decide +kernel)) ggL_law_X5_doneIn
set_option maxRecDepth 20000 in
theorem ggL_law_X4_leastDepth : GoodIn wsL_law wsX4_leastDepth := goodIn_r _ [571, 16, 15, 88, 89, 2, 90, 255, 104, 105, 14, 106, 30, 31, 107, 32, 33, 37, 38, 40, 41, 42, 108, 43, 109, 110, 111, 112, 113, 114, 36, 115, 49, 116, 48, 117, 118, 119, 120, 121, 122, 123, 124, 125, 126, 127, 128, 129, 130, 131, 50, 51, 572, 573, 574, 575, 276, 277, 278, 279, 97, 98, 280, 281, 282, 283, 284, 285, 286, 287, 288, 133, 134, 135, 289, 290, 291, 292, 272, 273, 274, 275, 293, 294, 295, 296, 297, 298, 299, 300, 301, 302, 303, 304, 305, 306, 307, 308, 309, 310, 311, 312, 260, 261, 209, 210, 313, 314, 315, 316, 593, 594, 595, 596, 597, 598, 613, 614, 615, 616, 617, 618, 619, 620, 621, 622, 623, 624, 625, 626, 627, 637, 638, 639, 640, 641, 642, 643, 644] (by decide +kernel) (by decide +kernel)
set_option maxRecDepth 20000 in
theorem gL_law_X4_leastDepth : GoodIn wsL_law (wsV RL 87 RX4 yX4_leastDepth wsX4_leastDepth) := goodIn_app (goodIn_of _ (by decide +kernel)) ggL_law_X4_leastDepth
set_option maxRecDepth 20000 in
theorem ggL_law_X5_leastDepth : GoodIn wsL_law wsX5_leastDepth := goodIn_r _ [579, 426, 70, 72, 141, 142, 5, 143, 148, 149, 150, 580, 581, 582, 583, 76, 77, 78, 79, 80, 81, 82, 83, 216, 217, 218, 219, 360, 361, 362, 363, 364, 365, 366, 367, 180, 181, 182, 183, 368, 369, 370, 371, 372, 373, 374, 375, 376, 377, 378, 379, 380, 381, 382, 383, 384, 385, 386, 387, 388, 389, 390, 391, 151, 152, 153, 154, 392, 393, 394, 395, 396, 397, 398, 399, 400, 401, 402, 403, 404, 405, 406, 407, 408, 409, 410, 411, 412, 413, 414, 415, 599, 600, 601, 602, 603, 604, 605, 606, 607, 608, 609, 610, 611, 612] (by decide +kernel) (by decide +kernel)
set_option maxRecDepth 20000 in
theorem gL_law_X5_leastDepth : GoodIn wsL_law (wsV RL 90 RX5 yX5_leastDepth wsX5_leastDepth) := goodIn_app (goodIn_of _ (by decide +kernel)) ggL_law_X5_leastDepth
set_option maxRecDepth 20000 in
theorem ggL_law_X4_count : GoodIn wsL_law wsX4_count := goodIn_r _ [587, 15, 21, 25, 132, 133, 134, 14, 135, 30, 481, 482, 2, 483, 588, 290, 291, 292, 288, 593, 594, 595, 596, 597, 598, 613, 614, 615, 616, 617, 618, 619, 620, 621, 622, 623, 624, 625, 626, 627, 637, 638, 639, 640, 641, 642, 643, 644, 628, 629, 630, 631, 632, 633, 634, 635, 636] (by decide +kernel) (by decide +kernel)
set_option maxRecDepth 20000 in
theorem gL_law_X4_count : GoodIn wsL_law (wsV RL 91 RX4 yX4_count wsX4_count) := goodIn_app (goodIn_of _ (by decide +kernel)) ggL_law_X4_count
set_option maxRecDepth 20000 in
theorem ggL_law_X5_count : GoodIn wsL_law wsX5_count := goodIn_r _ [592, 70, 159, 330, 151, 152, 153, 5, 154, 180, 181, 182, 183, 388, 389, 390, 391, 599, 600, 601, 602, 603, 604, 605, 606, 607, 608, 609, 610, 611, 612] (by decide +kernel) (by decide +kernel)
set_option maxRecDepth 20000 in
theorem gL_law_X5_count : GoodIn wsL_law (wsV RL 94 RX5 yX5_count wsX5_count) := goodIn_app (goodIn_of _ (by decide +kernel)) ggL_law_X5_count
abbrev vwCl : List vw_C := [(RX0, TX0, 3), (RX1, TX1, 8), (RX2, TX2, 15), (RX3, TX3, 6), (RX4, TX4, 6), (RX5, TX5, 14)]
end
section
theorem dX0_init_0 : decode cX0_init 0 = .ok (.aload_n 0, 1) := by decide +kernel
theorem dX0_init_1 : decode cX0_init 1 = .ok (.invokespecial 3, 3) := by decide +kernel
theorem dX0_init_4 : decode cX0_init 4 = .ok (.aload_n 0, 1) := by decide +kernel
theorem dX0_init_5 : decode cX0_init 5 = .ok (.iconst 4, 1) := by decide +kernel
theorem dX0_init_6 : decode cX0_init 6 = .ok (.anewarray 9, 3) := by decide +kernel
theorem dX0_init_9 : decode cX0_init 9 = .ok (.putfield 11, 3) := by decide +kernel
theorem dX0_init_12 : decode cX0_init 12 = .ok (.iconst 0, 1) := by decide +kernel
theorem dX0_init_13 : decode cX0_init 13 = .ok (.istore_n 1, 1) := by decide +kernel
theorem dX0_init_14 : decode cX0_init 14 = .ok (.iload_n 1, 1) := by decide +kernel
theorem dX0_init_15 : decode cX0_init 15 = .ok (.aload_n 0, 1) := by decide +kernel
theorem dX0_init_16 : decode cX0_init 16 = .ok (.getfield 11, 3) := by decide +kernel
theorem dX0_init_19 : decode cX0_init 19 = .ok (.arraylength, 1) := by decide +kernel
theorem dX0_init_20 : decode cX0_init 20 = .ok (.if_icmp .ge 22, 3) := by decide +kernel
theorem dX0_init_23 : decode cX0_init 23 = .ok (.aload_n 0, 1) := by decide +kernel
theorem dX0_init_24 : decode cX0_init 24 = .ok (.getfield 11, 3) := by decide +kernel
theorem dX0_init_27 : decode cX0_init 27 = .ok (.iload_n 1, 1) := by decide +kernel
theorem dX0_init_28 : decode cX0_init 28 = .ok (.new 9, 3) := by decide +kernel
theorem dX0_init_31 : decode cX0_init 31 = .ok (.dup, 1) := by decide +kernel
theorem dX0_init_32 : decode cX0_init 32 = .ok (.invokespecial 17, 3) := by decide +kernel
theorem dX0_init_35 : decode cX0_init 35 = .ok (.aastore, 1) := by decide +kernel
theorem dX0_init_36 : decode cX0_init 36 = .ok (.iinc 1 1, 3) := by decide +kernel
theorem dX0_init_39 : decode cX0_init 39 = .ok (.goto (-25), 3) := by decide +kernel
theorem dX0_init_42 : decode cX0_init 42 = .ok (.return_, 1) := by decide +kernel
theorem dX0_add_0 : decode cX0_add 0 = .ok (.aload_n 0, 1) := by decide +kernel
theorem dX0_add_1 : decode cX0_add 1 = .ok (.getfield 18, 3) := by decide +kernel
theorem dX0_add_4 : decode cX0_add 4 = .ok (.iconst 4, 1) := by decide +kernel
theorem dX0_add_5 : decode cX0_add 5 = .ok (.if_icmp .ne 27, 3) := by decide +kernel
theorem dX0_add_8 : decode cX0_add 8 = .ok (.aload_n 0, 1) := by decide +kernel
theorem dX0_add_9 : decode cX0_add 9 = .ok (.aload_n 0, 1) := by decide +kernel
theorem dX0_add_10 : decode cX0_add 10 = .ok (.getfield 22, 3) := by decide +kernel
theorem dX0_add_13 : decode cX0_add 13 = .ok (.iconst 1, 1) := by decide +kernel
theorem dX0_add_14 : decode cX0_add 14 = .ok (.iadd, 1) := by decide +kernel
theorem dX0_add_15 : decode cX0_add 15 = .ok (.iconst 4, 1) := by decide +kernel
theorem dX0_add_16 : decode cX0_add 16 = .ok (.invokestatic 25, 3) := by decide +kernel
theorem dX0_add_19 : decode cX0_add 19 = .ok (.putfield 22, 3) := by decide +kernel
theorem dX0_add_22 : decode cX0_add 22 = .ok (.aload_n 0, 1) := by decide +kernel
theorem dX0_add_23 : decode cX0_add 23 = .ok (.dup, 1) := by decide +kernel
theorem dX0_add_24 : decode cX0_add 24 = .ok (.getfield 18, 3) := by decide +kernel
theorem dX0_add_27 : decode cX0_add 27 = .ok (.iconst 1, 1) := by decide +kernel
theorem dX0_add_28 : decode cX0_add 28 = .ok (.isub, 1) := by decide +kernel
theorem dX0_add_29 : decode cX0_add 29 = .ok (.putfield 18, 3) := by decide +kernel
theorem dX0_add_32 : decode cX0_add 32 = .ok (.aload_n 0, 1) := by decide +kernel
theorem dX0_add_33 : decode cX0_add 33 = .ok (.aload_n 0, 1) := by decide +kernel
theorem dX0_add_34 : decode cX0_add 34 = .ok (.getfield 18, 3) := by decide +kernel
theorem dX0_add_37 : decode cX0_add 37 = .ok (.invokevirtual 29, 3) := by decide +kernel
theorem dX0_add_40 : decode cX0_add 40 = .ok (.astore_n 2, 1) := by decide +kernel
theorem dX0_add_41 : decode cX0_add 41 = .ok (.aload_n 2, 1) := by decide +kernel
theorem dX0_add_42 : decode cX0_add 42 = .ok (.ifnull 18, 3) := by decide +kernel
theorem dX0_add_45 : decode cX0_add 45 = .ok (.aload_n 2, 1) := by decide +kernel
theorem dX0_add_46 : decode cX0_add 46 = .ok (.aload_n 1, 1) := by decide +kernel
theorem dX0_add_47 : decode cX0_add 47 = .ok (.invokevirtual 33, 3) := by decide +kernel
theorem dX0_add_50 : decode cX0_add 50 = .ok (.aload_n 0, 1) := by decide +kernel
theorem dX0_add_51 : decode cX0_add 51 = .ok (.dup, 1) := by decide +kernel
theorem dX0_add_52 : decode cX0_add 52 = .ok (.getfield 18, 3) := by decide +kernel
theorem dX0_add_55 : decode cX0_add 55 = .ok (.iconst 1, 1) := by decide +kernel
theorem dX0_add_56 : decode cX0_add 56 = .ok (.iadd, 1) := by decide +kernel
theorem dX0_add_57 : decode cX0_add 57 = .ok (.putfield 18, 3) := by decide +kernel
theorem dX0_add_60 : decode cX0_add 60 = .ok (.return_, 1) := by decide +kernel
theorem dX0_moveLatestTo_0 : decode cX0_moveLatestTo 0 = .ok (.aload_n 0, 1) := by decide +kernel
theorem dX0_moveLatestTo_1 : decode cX0_moveLatestTo 1 = .ok (.getfield 18, 3) := by decide +kernel
theorem dX0_moveLatestTo_4 : decode cX0_moveLatestTo 4 = .ok (.ifCond .le 16, 3) := by decide +kernel
theorem dX0_moveLatestTo_7 : decode cX0_moveLatestTo 7 = .ok (.aload_n 0, 1) := by decide +kernel
theorem dX0_moveLatestTo_8 : decode cX0_moveLatestTo 8 = .ok (.aload_n 0, 1) := by decide +kernel
theorem dX0_moveLatestTo_9 : decode cX0_moveLatestTo 9 = .ok (.getfield 18, 3) := by decide +kernel
theorem dX0_moveLatestTo_12 : decode cX0_moveLatestTo 12 = .ok (.iconst 1, 1) := by decide +kernel
theorem dX0_moveLatestTo_13 : decode cX0_moveLatestTo 13 = .ok (.isub, 1) := by decide +kernel
theorem dX0_moveLatestTo_14 : decode cX0_moveLatestTo 14 = .ok (.invokevirtual 29, 3) := by decide +kernel
theorem dX0_moveLatestTo_17 : decode cX0_moveLatestTo 17 = .ok (.goto 4, 3) := by decide +kernel
theorem dX0_moveLatestTo_20 : decode cX0_moveLatestTo 20 = .ok (.aconst_null, 1) := by decide +kernel
theorem dX0_moveLatestTo_21 : decode cX0_moveLatestTo 21 = .ok (.astore_n 2, 1) := by decide +kernel
theorem dX0_moveLatestTo_22 : decode cX0_moveLatestTo 22 = .ok (.aload_n 2, 1) := by decide +kernel
theorem dX0_moveLatestTo_23 : decode cX0_moveLatestTo 23 = .ok (.ifnonnull 5, 3) := by decide +kernel
theorem dX0_moveLatestTo_26 : decode cX0_moveLatestTo 26 = .ok (.iconst 0, 1) := by decide +kernel
theorem dX0_moveLatestTo_27 : decode cX0_moveLatestTo 27 = .ok (.ireturn, 1) := by decide +kernel
theorem dX0_moveLatestTo_28 : decode cX0_moveLatestTo 28 = .ok (.aload_n 1, 1) := by decide +kernel
theorem dX0_moveLatestTo_29 : decode cX0_moveLatestTo 29 = .ok (.aload_n 2, 1) := by decide +kernel
theorem dX0_moveLatestTo_30 : decode cX0_moveLatestTo 30 = .ok (.invokevirtual 33, 3) := by decide +kernel
theorem dX0_moveLatestTo_33 : decode cX0_moveLatestTo 33 = .ok (.aload_n 0, 1) := by decide +kernel
theorem dX0_moveLatestTo_34 : decode cX0_moveLatestTo 34 = .ok (.dup, 1) := by decide +kernel
theorem dX0_moveLatestTo_35 : decode cX0_moveLatestTo 35 = .ok (.getfield 18, 3) := by decide +kernel
theorem dX0_moveLatestTo_38 : decode cX0_moveLatestTo 38 = .ok (.iconst 1, 1) := by decide +kernel
theorem dX0_moveLatestTo_39 : decode cX0_moveLatestTo 39 = .ok (.isub, 1) := by decide +kernel
theorem dX0_moveLatestTo_40 : decode cX0_moveLatestTo 40 = .ok (.putfield 18, 3) := by decide +kernel
theorem dX0_moveLatestTo_43 : decode cX0_moveLatestTo 43 = .ok (.iconst 1, 1) := by decide +kernel
theorem dX0_moveLatestTo_44 : decode cX0_moveLatestTo 44 = .ok (.ireturn, 1) := by decide +kernel
theorem dX0_stateAt_0 : decode cX0_stateAt 0 = .ok (.aload_n 0, 1) := by decide +kernel
theorem dX0_stateAt_1 : decode cX0_stateAt 1 = .ok (.getfield 22, 3) := by decide +kernel
theorem dX0_stateAt_4 : decode cX0_stateAt 4 = .ok (.iload_n 1, 1) := by decide +kernel
theorem dX0_stateAt_5 : decode cX0_stateAt 5 = .ok (.iadd, 1) := by decide +kernel
theorem dX0_stateAt_6 : decode cX0_stateAt 6 = .ok (.iconst 4, 1) := by decide +kernel
theorem dX0_stateAt_7 : decode cX0_stateAt 7 = .ok (.invokestatic 25, 3) := by decide +kernel
theorem dX0_stateAt_10 : decode cX0_stateAt 10 = .ok (.istore_n 2, 1) := by decide +kernel
theorem dX0_stateAt_11 : decode cX0_stateAt 11 = .ok (.iload_n 2, 1) := by decide +kernel
theorem dX0_stateAt_12 : decode cX0_stateAt 12 = .ok (.ifCond .lt 21, 3) := by decide +kernel
theorem dX0_stateAt_15 : decode cX0_stateAt 15 = .ok (.iload_n 2, 1) := by decide +kernel
theorem dX0_stateAt_16 : decode cX0_stateAt 16 = .ok (.aload_n 0, 1) := by decide +kernel
theorem dX0_stateAt_17 : decode cX0_stateAt 17 = .ok (.getfield 11, 3) := by decide +kernel
theorem dX0_stateAt_20 : decode cX0_stateAt 20 = .ok (.arraylength, 1) := by decide +kernel
theorem dX0_stateAt_21 : decode cX0_stateAt 21 = .ok (.if_icmp .ge 12, 3) := by decide +kernel
theorem dX0_stateAt_24 : decode cX0_stateAt 24 = .ok (.aload_n 0, 1) := by decide +kernel
theorem dX0_stateAt_25 : decode cX0_stateAt 25 = .ok (.getfield 11, 3) := by decide +kernel
theorem dX0_stateAt_28 : decode cX0_stateAt 28 = .ok (.iload_n 2, 1) := by decide +kernel
theorem dX0_stateAt_29 : decode cX0_stateAt 29 = .ok (.aaload, 1) := by decide +kernel
theorem dX0_stateAt_30 : decode cX0_stateAt 30 = .ok (.goto 4, 3) := by decide +kernel
theorem dX0_stateAt_33 : decode cX0_stateAt 33 = .ok (.aconst_null, 1) := by decide +kernel
theorem dX0_stateAt_34 : decode cX0_stateAt 34 = .ok (.areturn, 1) := by decide +kernel
theorem dX1_init_0 : decode cX1_init 0 = .ok (.aload_n 0, 1) := by decide +kernel
theorem dX1_init_1 : decode cX1_init 1 = .ok (.invokespecial 3, 3) := by decide +kernel
theorem dX1_init_4 : decode cX1_init 4 = .ok (.aload_n 0, 1) := by decide +kernel
theorem dX1_init_5 : decode cX1_init 5 = .ok (.iconst 1, 1) := by decide +kernel
theorem dX1_init_6 : decode cX1_init 6 = .ok (.putfield 9, 3) := by decide +kernel
theorem dX1_init_9 : decode cX1_init 9 = .ok (.aload_n 0, 1) := by decide +kernel
theorem dX1_init_10 : decode cX1_init 10 = .ok (.iload_n 1, 1) := by decide +kernel
theorem dX1_init_11 : decode cX1_init 11 = .ok (.putfield 15, 3) := by decide +kernel
theorem dX1_init_14 : decode cX1_init 14 = .ok (.return_, 1) := by decide +kernel
theorem dX1_ticksAt_0 : decode cX1_ticksAt 0 = .ok (.aload_n 0, 1) := by decide +kernel
theorem dX1_ticksAt_1 : decode cX1_ticksAt 1 = .ok (.getfield 9, 3) := by decide +kernel
theorem dX1_ticksAt_4 : decode cX1_ticksAt 4 = .ok (.ifCond .eq 23, 3) := by decide +kernel
theorem dX1_ticksAt_7 : decode cX1_ticksAt 7 = .ok (.iload_n 1, 1) := by decide +kernel
theorem dX1_ticksAt_8 : decode cX1_ticksAt 8 = .ok (.aload_n 0, 1) := by decide +kernel
theorem dX1_ticksAt_9 : decode cX1_ticksAt 9 = .ok (.getfield 19, 3) := by decide +kernel
theorem dX1_ticksAt_12 : decode cX1_ticksAt 12 = .ok (.iadd, 1) := by decide +kernel
theorem dX1_ticksAt_13 : decode cX1_ticksAt 13 = .ok (.aload_n 0, 1) := by decide +kernel
theorem dX1_ticksAt_14 : decode cX1_ticksAt 14 = .ok (.getfield 15, 3) := by decide +kernel
theorem dX1_ticksAt_17 : decode cX1_ticksAt 17 = .ok (.invokestatic 22, 3) := by decide +kernel
theorem dX1_ticksAt_20 : decode cX1_ticksAt 20 = .ok (.ifCond .ne 7, 3) := by decide +kernel
theorem dX1_ticksAt_23 : decode cX1_ticksAt 23 = .ok (.iconst 1, 1) := by decide +kernel
theorem dX1_ticksAt_24 : decode cX1_ticksAt 24 = .ok (.goto 4, 3) := by decide +kernel
theorem dX1_ticksAt_27 : decode cX1_ticksAt 27 = .ok (.iconst 0, 1) := by decide +kernel
theorem dX1_ticksAt_28 : decode cX1_ticksAt 28 = .ok (.ireturn, 1) := by decide +kernel
theorem dX1_timesToTick_0 : decode cX1_timesToTick 0 = .ok (.aload_n 0, 1) := by decide +kernel
theorem dX1_timesToTick_1 : decode cX1_timesToTick 1 = .ok (.getfield 9, 3) := by decide +kernel
theorem dX1_timesToTick_4 : decode cX1_timesToTick 4 = .ok (.ifCond .eq 24, 3) := by decide +kernel
theorem dX1_timesToTick_7 : decode cX1_timesToTick 7 = .ok (.aload_n 0, 1) := by decide +kernel
theorem dX1_timesToTick_8 : decode cX1_timesToTick 8 = .ok (.getfield 15, 3) := by decide +kernel
theorem dX1_timesToTick_11 : decode cX1_timesToTick 11 = .ok (.iload_n 1, 1) := by decide +kernel
theorem dX1_timesToTick_12 : decode cX1_timesToTick 12 = .ok (.aload_n 0, 1) := by decide +kernel
theorem dX1_timesToTick_13 : decode cX1_timesToTick 13 = .ok (.getfield 19, 3) := by decide +kernel
theorem dX1_timesToTick_16 : decode cX1_timesToTick 16 = .ok (.iadd, 1) := by decide +kernel
theorem dX1_timesToTick_17 : decode cX1_timesToTick 17 = .ok (.aload_n 0, 1) := by decide +kernel
theorem dX1_timesToTick_18 : decode cX1_timesToTick 18 = .ok (.getfield 15, 3) := by decide +kernel
theorem dX1_timesToTick_21 : decode cX1_timesToTick 21 = .ok (.invokestatic 22, 3) := by decide +kernel
theorem dX1_timesToTick_24 : decode cX1_timesToTick 24 = .ok (.isub, 1) := by decide +kernel
theorem dX1_timesToTick_25 : decode cX1_timesToTick 25 = .ok (.goto 5, 3) := by decide +kernel
theorem dX1_timesToTick_28 : decode cX1_timesToTick 28 = .ok (.bipush (-5), 2) := by decide +kernel
theorem dX1_timesToTick_30 : decode cX1_timesToTick 30 = .ok (.ireturn, 1) := by decide +kernel
theorem dX1_tick_0 : decode cX1_tick 0 = .ok (.iload_n 1, 1) := by decide +kernel
theorem dX1_tick_1 : decode cX1_tick 1 = .ok (.iload_n 2, 1) := by decide +kernel
theorem dX1_tick_2 : decode cX1_tick 2 = .ok (.ixor, 1) := by decide +kernel
theorem dX1_tick_3 : decode cX1_tick 3 = .ok (.istore_n 3, 1) := by decide +kernel
theorem dX1_tick_4 : decode cX1_tick 4 = .ok (.aload_n 0, 1) := by decide +kernel
theorem dX1_tick_5 : decode cX1_tick 5 = .ok (.dup, 1) := by decide +kernel
theorem dX1_tick_6 : decode cX1_tick 6 = .ok (.getfield 26, 3) := by decide +kernel
theorem dX1_tick_9 : decode cX1_tick 9 = .ok (.iconst 1, 1) := by decide +kernel
theorem dX1_tick_10 : decode cX1_tick 10 = .ok (.iadd, 1) := by decide +kernel
theorem dX1_tick_11 : decode cX1_tick 11 = .ok (.putfield 26, 3) := by decide +kernel
theorem dX1_tick_14 : decode cX1_tick 14 = .ok (.iload_n 3, 1) := by decide +kernel
theorem dX1_tick_15 : decode cX1_tick 15 = .ok (.ifCond .eq 13, 3) := by decide +kernel
theorem dX1_tick_18 : decode cX1_tick 18 = .ok (.aload_n 0, 1) := by decide +kernel
theorem dX1_tick_19 : decode cX1_tick 19 = .ok (.dup, 1) := by decide +kernel
theorem dX1_tick_20 : decode cX1_tick 20 = .ok (.getfield 29, 3) := by decide +kernel
theorem dX1_tick_23 : decode cX1_tick 23 = .ok (.iconst 1, 1) := by decide +kernel
theorem dX1_tick_24 : decode cX1_tick 24 = .ok (.iadd, 1) := by decide +kernel
theorem dX1_tick_25 : decode cX1_tick 25 = .ok (.putfield 29, 3) := by decide +kernel
theorem dX1_tick_28 : decode cX1_tick 28 = .ok (.aload_n 0, 1) := by decide +kernel
theorem dX1_tick_29 : decode cX1_tick 29 = .ok (.aload_n 0, 1) := by decide +kernel
theorem dX1_tick_30 : decode cX1_tick 30 = .ok (.getfield 32, 3) := by decide +kernel
theorem dX1_tick_33 : decode cX1_tick 33 = .ok (.putfield 35, 3) := by decide +kernel
theorem dX1_tick_36 : decode cX1_tick 36 = .ok (.aload_n 0, 1) := by decide +kernel
theorem dX1_tick_37 : decode cX1_tick 37 = .ok (.iload_n 1, 1) := by decide +kernel
theorem dX1_tick_38 : decode cX1_tick 38 = .ok (.iload_n 3, 1) := by decide +kernel
theorem dX1_tick_39 : decode cX1_tick 39 = .ok (.sipush 170, 3) := by decide +kernel
theorem dX1_tick_42 : decode cX1_tick 42 = .ok (.iand, 1) := by decide +kernel
theorem dX1_tick_43 : decode cX1_tick 43 = .ok (.ixor, 1) := by decide +kernel
theorem dX1_tick_44 : decode cX1_tick 44 = .ok (.putfield 32, 3) := by decide +kernel
theorem dX1_tick_47 : decode cX1_tick 47 = .ok (.return_, 1) := by decide +kernel
theorem dX1_clearPointers_0 : decode cX1_clearPointers 0 = .ok (.aload_n 0, 1) := by decide +kernel
theorem dX1_clearPointers_1 : decode cX1_clearPointers 1 = .ok (.iconst 0, 1) := by decide +kernel
theorem dX1_clearPointers_2 : decode cX1_clearPointers 2 = .ok (.putfield 38, 3) := by decide +kernel
theorem dX1_clearPointers_5 : decode cX1_clearPointers 5 = .ok (.aload_n 0, 1) := by decide +kernel
theorem dX1_clearPointers_6 : decode cX1_clearPointers 6 = .ok (.iconst 0, 1) := by decide +kernel
theorem dX1_clearPointers_7 : decode cX1_clearPointers 7 = .ok (.putfield 32, 3) := by decide +kernel
theorem dX1_clearPointers_10 : decode cX1_clearPointers 10 = .ok (.aload_n 0, 1) := by decide +kernel
theorem dX1_clearPointers_11 : decode cX1_clearPointers 11 = .ok (.iconst 0, 1) := by decide +kernel
theorem dX1_clearPointers_12 : decode cX1_clearPointers 12 = .ok (.putfield 35, 3) := by decide +kernel
theorem dX1_clearPointers_15 : decode cX1_clearPointers 15 = .ok (.return_, 1) := by decide +kernel
theorem dX1_copy_0 : decode cX1_copy 0 = .ok (.aload_n 0, 1) := by decide +kernel
theorem dX1_copy_1 : decode cX1_copy 1 = .ok (.aload_n 1, 1) := by decide +kernel
theorem dX1_copy_2 : decode cX1_copy 2 = .ok (.getfield 15, 3) := by decide +kernel
theorem dX1_copy_5 : decode cX1_copy 5 = .ok (.putfield 15, 3) := by decide +kernel
theorem dX1_copy_8 : decode cX1_copy 8 = .ok (.aload_n 0, 1) := by decide +kernel
theorem dX1_copy_9 : decode cX1_copy 9 = .ok (.aload_n 1, 1) := by decide +kernel
theorem dX1_copy_10 : decode cX1_copy 10 = .ok (.getfield 19, 3) := by decide +kernel
theorem dX1_copy_13 : decode cX1_copy 13 = .ok (.putfield 19, 3) := by decide +kernel
theorem dX1_copy_16 : decode cX1_copy 16 = .ok (.aload_n 0, 1) := by decide +kernel
theorem dX1_copy_17 : decode cX1_copy 17 = .ok (.aload_n 1, 1) := by decide +kernel
theorem dX1_copy_18 : decode cX1_copy 18 = .ok (.getfield 9, 3) := by decide +kernel
theorem dX1_copy_21 : decode cX1_copy 21 = .ok (.putfield 9, 3) := by decide +kernel
theorem dX1_copy_24 : decode cX1_copy 24 = .ok (.aload_n 0, 1) := by decide +kernel
theorem dX1_copy_25 : decode cX1_copy 25 = .ok (.aload_n 1, 1) := by decide +kernel
theorem dX1_copy_26 : decode cX1_copy 26 = .ok (.getfield 38, 3) := by decide +kernel
theorem dX1_copy_29 : decode cX1_copy 29 = .ok (.putfield 38, 3) := by decide +kernel
theorem dX1_copy_32 : decode cX1_copy 32 = .ok (.aload_n 0, 1) := by decide +kernel
theorem dX1_copy_33 : decode cX1_copy 33 = .ok (.aload_n 1, 1) := by decide +kernel
theorem dX1_copy_34 : decode cX1_copy 34 = .ok (.getfield 32, 3) := by decide +kernel
theorem dX1_copy_37 : decode cX1_copy 37 = .ok (.putfield 32, 3) := by decide +kernel
theorem dX1_copy_40 : decode cX1_copy 40 = .ok (.aload_n 0, 1) := by decide +kernel
theorem dX1_copy_41 : decode cX1_copy 41 = .ok (.aload_n 1, 1) := by decide +kernel
theorem dX1_copy_42 : decode cX1_copy 42 = .ok (.getfield 35, 3) := by decide +kernel
theorem dX1_copy_45 : decode cX1_copy 45 = .ok (.putfield 35, 3) := by decide +kernel
theorem dX1_copy_48 : decode cX1_copy 48 = .ok (.aload_n 0, 1) := by decide +kernel
theorem dX1_copy_49 : decode cX1_copy 49 = .ok (.aload_n 1, 1) := by decide +kernel
theorem dX1_copy_50 : decode cX1_copy 50 = .ok (.getfield 26, 3) := by decide +kernel
theorem dX1_copy_53 : decode cX1_copy 53 = .ok (.putfield 26, 3) := by decide +kernel
theorem dX1_copy_56 : decode cX1_copy 56 = .ok (.aload_n 0, 1) := by decide +kernel
theorem dX1_copy_57 : decode cX1_copy 57 = .ok (.aload_n 1, 1) := by decide +kernel
theorem dX1_copy_58 : decode cX1_copy 58 = .ok (.getfield 29, 3) := by decide +kernel
theorem dX1_copy_61 : decode cX1_copy 61 = .ok (.putfield 29, 3) := by decide +kernel
theorem dX1_copy_64 : decode cX1_copy 64 = .ok (.return_, 1) := by decide +kernel
theorem dX2_init_0 : decode cX2_init 0 = .ok (.aload_n 0, 1) := by decide +kernel
theorem dX2_init_1 : decode cX2_init 1 = .ok (.invokespecial 3, 3) := by decide +kernel
theorem dX2_init_4 : decode cX2_init 4 = .ok (.aload_n 0, 1) := by decide +kernel
theorem dX2_init_5 : decode cX2_init 5 = .ok (.iconst 2, 1) := by decide +kernel
theorem dX2_init_6 : decode cX2_init 6 = .ok (.putfield 9, 3) := by decide +kernel
theorem dX2_init_9 : decode cX2_init 9 = .ok (.aload_n 0, 1) := by decide +kernel
theorem dX2_init_10 : decode cX2_init 10 = .ok (.iconst 1, 1) := by decide +kernel
theorem dX2_init_11 : decode cX2_init 11 = .ok (.putfield 15, 3) := by decide +kernel
theorem dX2_init_14 : decode cX2_init 14 = .ok (.aload_n 0, 1) := by decide +kernel
theorem dX2_init_15 : decode cX2_init 15 = .ok (.iconst 1, 1) := by decide +kernel
theorem dX2_init_16 : decode cX2_init 16 = .ok (.putfield 19, 3) := by decide +kernel
theorem dX2_init_19 : decode cX2_init 19 = .ok (.aload_n 0, 1) := by decide +kernel
theorem dX2_init_20 : decode cX2_init 20 = .ok (.iconst 1, 1) := by decide +kernel
theorem dX2_init_21 : decode cX2_init 21 = .ok (.putfield 22, 3) := by decide +kernel
theorem dX2_init_24 : decode cX2_init 24 = .ok (.aload_n 0, 1) := by decide +kernel
theorem dX2_init_25 : decode cX2_init 25 = .ok (.new 25, 3) := by decide +kernel
theorem dX2_init_28 : decode cX2_init 28 = .ok (.dup, 1) := by decide +kernel
theorem dX2_init_29 : decode cX2_init 29 = .ok (.bipush 10, 2) := by decide +kernel
theorem dX2_init_31 : decode cX2_init 31 = .ok (.invokespecial 27, 3) := by decide +kernel
theorem dX2_init_34 : decode cX2_init 34 = .ok (.putfield 30, 3) := by decide +kernel
theorem dX2_init_37 : decode cX2_init 37 = .ok (.aload_n 0, 1) := by decide +kernel
theorem dX2_init_38 : decode cX2_init 38 = .ok (.new 25, 3) := by decide +kernel
theorem dX2_init_41 : decode cX2_init 41 = .ok (.dup, 1) := by decide +kernel
theorem dX2_init_42 : decode cX2_init 42 = .ok (.bipush 14, 2) := by decide +kernel
theorem dX2_init_44 : decode cX2_init 44 = .ok (.invokespecial 27, 3) := by decide +kernel
theorem dX2_init_47 : decode cX2_init 47 = .ok (.putfield 34, 3) := by decide +kernel
theorem dX2_init_50 : decode cX2_init 50 = .ok (.aload_n 0, 1) := by decide +kernel
theorem dX2_init_51 : decode cX2_init 51 = .ok (.bipush 16, 2) := by decide +kernel
theorem dX2_init_53 : decode cX2_init 53 = .ok (.newarray .int, 2) := by decide +kernel
theorem dX2_init_55 : decode cX2_init 55 = .ok (.putfield 37, 3) := by decide +kernel
theorem dX2_init_58 : decode cX2_init 58 = .ok (.aload_n 0, 1) := by decide +kernel
theorem dX2_init_59 : decode cX2_init 59 = .ok (.bipush 16, 2) := by decide +kernel
theorem dX2_init_61 : decode cX2_init 61 = .ok (.newarray .int, 2) := by decide +kernel
theorem dX2_init_63 : decode cX2_init 63 = .ok (.putfield 41, 3) := by decide +kernel
theorem dX2_init_66 : decode cX2_init 66 = .ok (.aload_n 0, 1) := by decide +kernel
theorem dX2_init_67 : decode cX2_init 67 = .ok (.bipush 20, 2) := by decide +kernel
theorem dX2_init_69 : decode cX2_init 69 = .ok (.newarray .int, 2) := by decide +kernel
theorem dX2_init_71 : decode cX2_init 71 = .ok (.putfield 44, 3) := by decide +kernel
theorem dX2_init_74 : decode cX2_init 74 = .ok (.aload_n 0, 1) := by decide +kernel
theorem dX2_init_75 : decode cX2_init 75 = .ok (.bipush 16, 2) := by decide +kernel
theorem dX2_init_77 : decode cX2_init 77 = .ok (.newarray .int, 2) := by decide +kernel
theorem dX2_init_79 : decode cX2_init 79 = .ok (.putfield 47, 3) := by decide +kernel
theorem dX2_init_82 : decode cX2_init 82 = .ok (.aload_n 0, 1) := by decide +kernel
theorem dX2_init_83 : decode cX2_init 83 = .ok (.getfield 41, 3) := by decide +kernel
theorem dX2_init_86 : decode cX2_init 86 = .ok (.bipush (-5), 2) := by decide +kernel
theorem dX2_init_88 : decode cX2_init 88 = .ok (.invokestatic 50, 3) := by decide +kernel
theorem dX2_init_91 : decode cX2_init 91 = .ok (.return_, 1) := by decide +kernel
theorem dX2_sideOf_0 : decode cX2_sideOf 0 = .ok (.iload_n 1, 1) := by decide +kernel
theorem dX2_sideOf_1 : decode cX2_sideOf 1 = .ok (.ifCond .ne 10, 3) := by decide +kernel
theorem dX2_sideOf_4 : decode cX2_sideOf 4 = .ok (.aload_n 0, 1) := by decide +kernel
theorem dX2_sideOf_5 : decode cX2_sideOf 5 = .ok (.getfield 30, 3) := by decide +kernel
theorem dX2_sideOf_8 : decode cX2_sideOf 8 = .ok (.goto 7, 3) := by decide +kernel
theorem dX2_sideOf_11 : decode cX2_sideOf 11 = .ok (.aload_n 0, 1) := by decide +kernel
theorem dX2_sideOf_12 : decode cX2_sideOf 12 = .ok (.getfield 34, 3) := by decide +kernel
theorem dX2_sideOf_15 : decode cX2_sideOf 15 = .ok (.areturn, 1) := by decide +kernel
theorem dX2_depth_0 : decode cX2_depth 0 = .ok (.iconst 1, 1) := by decide +kernel
theorem dX2_depth_1 : decode cX2_depth 1 = .ok (.aload_n 0, 1) := by decide +kernel
theorem dX2_depth_2 : decode cX2_depth 2 = .ok (.getfield 9, 3) := by decide +kernel
theorem dX2_depth_5 : decode cX2_depth 5 = .ok (.ishl, 1) := by decide +kernel
theorem dX2_depth_6 : decode cX2_depth 6 = .ok (.ireturn, 1) := by decide +kernel
theorem dX2_placeOf_0 : decode cX2_placeOf 0 = .ok (.iload_n 1, 1) := by decide +kernel
theorem dX2_placeOf_1 : decode cX2_placeOf 1 = .ok (.aload_n 0, 1) := by decide +kernel
theorem dX2_placeOf_2 : decode cX2_placeOf 2 = .ok (.invokevirtual 54, 3) := by decide +kernel
theorem dX2_placeOf_5 : decode cX2_placeOf 5 = .ok (.iconst 1, 1) := by decide +kernel
theorem dX2_placeOf_6 : decode cX2_placeOf 6 = .ok (.isub, 1) := by decide +kernel
theorem dX2_placeOf_7 : decode cX2_placeOf 7 = .ok (.iand, 1) := by decide +kernel
theorem dX2_placeOf_8 : decode cX2_placeOf 8 = .ok (.ireturn, 1) := by decide +kernel
theorem dX2_around_0 : decode cX2_around 0 = .ok (.iload_n 1, 1) := by decide +kernel
theorem dX2_around_1 : decode cX2_around 1 = .ok (.iconst 2, 1) := by decide +kernel
theorem dX2_around_2 : decode cX2_around 2 = .ok (.aload_n 0, 1) := by decide +kernel
theorem dX2_around_3 : decode cX2_around 3 = .ok (.invokevirtual 54, 3) := by decide +kernel
theorem dX2_around_6 : decode cX2_around 6 = .ok (.imul, 1) := by decide +kernel
theorem dX2_around_7 : decode cX2_around 7 = .ok (.iconst 1, 1) := by decide +kernel
theorem dX2_around_8 : decode cX2_around 8 = .ok (.isub, 1) := by decide +kernel
theorem dX2_around_9 : decode cX2_around 9 = .ok (.iand, 1) := by decide +kernel
theorem dX2_around_10 : decode cX2_around 10 = .ok (.ireturn, 1) := by decide +kernel
theorem dX2_codeOf_0 : decode cX2_codeOf 0 = .ok (.aload_n 0, 1) := by decide +kernel
theorem dX2_codeOf_1 : decode cX2_codeOf 1 = .ok (.getfield 15, 3) := by decide +kernel
theorem dX2_codeOf_4 : decode cX2_codeOf 4 = .ok (.ifCond .eq 11, 3) := by decide +kernel
theorem dX2_codeOf_7 : decode cX2_codeOf 7 = .ok (.iload_n 1, 1) := by decide +kernel
theorem dX2_codeOf_8 : decode cX2_codeOf 8 = .ok (.iload_n 1, 1) := by decide +kernel
theorem dX2_codeOf_9 : decode cX2_codeOf 9 = .ok (.iconst 1, 1) := by decide +kernel
theorem dX2_codeOf_10 : decode cX2_codeOf 10 = .ok (.ishr, 1) := by decide +kernel
theorem dX2_codeOf_11 : decode cX2_codeOf 11 = .ok (.ixor, 1) := by decide +kernel
theorem dX2_codeOf_12 : decode cX2_codeOf 12 = .ok (.goto 4, 3) := by decide +kernel
theorem dX2_codeOf_15 : decode cX2_codeOf 15 = .ok (.iload_n 1, 1) := by decide +kernel
theorem dX2_codeOf_16 : decode cX2_codeOf 16 = .ok (.ireturn, 1) := by decide +kernel
theorem dX2_pointerOf_0 : decode cX2_pointerOf 0 = .ok (.aload_n 0, 1) := by decide +kernel
theorem dX2_pointerOf_1 : decode cX2_pointerOf 1 = .ok (.getfield 15, 3) := by decide +kernel
theorem dX2_pointerOf_4 : decode cX2_pointerOf 4 = .ok (.ifCond .ne 5, 3) := by decide +kernel
theorem dX2_pointerOf_7 : decode cX2_pointerOf 7 = .ok (.iload_n 1, 1) := by decide +kernel
theorem dX2_pointerOf_8 : decode cX2_pointerOf 8 = .ok (.ireturn, 1) := by decide +kernel
theorem dX2_pointerOf_9 : decode cX2_pointerOf 9 = .ok (.iload_n 1, 1) := by decide +kernel
theorem dX2_pointerOf_10 : decode cX2_pointerOf 10 = .ok (.istore_n 2, 1) := by decide +kernel
theorem dX2_pointerOf_11 : decode cX2_pointerOf 11 = .ok (.iconst 1, 1) := by decide +kernel
theorem dX2_pointerOf_12 : decode cX2_pointerOf 12 = .ok (.istore_n 3, 1) := by decide +kernel
theorem dX2_pointerOf_13 : decode cX2_pointerOf 13 = .ok (.iload_n 3, 1) := by decide +kernel
theorem dX2_pointerOf_14 : decode cX2_pointerOf 14 = .ok (.iconst 4, 1) := by decide +kernel
theorem dX2_pointerOf_15 : decode cX2_pointerOf 15 = .ok (.if_icmp .gt 15, 3) := by decide +kernel
theorem dX2_pointerOf_18 : decode cX2_pointerOf 18 = .ok (.iload_n 2, 1) := by decide +kernel
theorem dX2_pointerOf_19 : decode cX2_pointerOf 19 = .ok (.iload_n 1, 1) := by decide +kernel
theorem dX2_pointerOf_20 : decode cX2_pointerOf 20 = .ok (.iload_n 3, 1) := by decide +kernel
theorem dX2_pointerOf_21 : decode cX2_pointerOf 21 = .ok (.ishr, 1) := by decide +kernel
theorem dX2_pointerOf_22 : decode cX2_pointerOf 22 = .ok (.ixor, 1) := by decide +kernel
theorem dX2_pointerOf_23 : decode cX2_pointerOf 23 = .ok (.istore_n 2, 1) := by decide +kernel
theorem dX2_pointerOf_24 : decode cX2_pointerOf 24 = .ok (.iinc 3 1, 3) := by decide +kernel
theorem dX2_pointerOf_27 : decode cX2_pointerOf 27 = .ok (.goto (-14), 3) := by decide +kernel
theorem dX2_pointerOf_30 : decode cX2_pointerOf 30 = .ok (.iload_n 2, 1) := by decide +kernel
theorem dX2_pointerOf_31 : decode cX2_pointerOf 31 = .ok (.ireturn, 1) := by decide +kernel
theorem dX2_fillToWriter_0 : decode cX2_fillToWriter 0 = .ok (.aload_n 0, 1) := by decide +kernel
theorem dX2_fillToWriter_1 : decode cX2_fillToWriter 1 = .ok (.aload_n 0, 1) := by decide +kernel
theorem dX2_fillToWriter_2 : decode cX2_fillToWriter 2 = .ok (.getfield 30, 3) := by decide +kernel
theorem dX2_fillToWriter_5 : decode cX2_fillToWriter 5 = .ok (.getfield 58, 3) := by decide +kernel
theorem dX2_fillToWriter_8 : decode cX2_fillToWriter 8 = .ok (.aload_n 0, 1) := by decide +kernel
theorem dX2_fillToWriter_9 : decode cX2_fillToWriter 9 = .ok (.aload_n 0, 1) := by decide +kernel
theorem dX2_fillToWriter_10 : decode cX2_fillToWriter 10 = .ok (.getfield 30, 3) := by decide +kernel
theorem dX2_fillToWriter_13 : decode cX2_fillToWriter 13 = .ok (.getfield 61, 3) := by decide +kernel
theorem dX2_fillToWriter_16 : decode cX2_fillToWriter 16 = .ok (.invokevirtual 64, 3) := by decide +kernel
theorem dX2_fillToWriter_19 : decode cX2_fillToWriter 19 = .ok (.isub, 1) := by decide +kernel
theorem dX2_fillToWriter_20 : decode cX2_fillToWriter 20 = .ok (.invokevirtual 68, 3) := by decide +kernel
theorem dX2_fillToWriter_23 : decode cX2_fillToWriter 23 = .ok (.ireturn, 1) := by decide +kernel
theorem dX2_fillToReader_0 : decode cX2_fillToReader 0 = .ok (.aload_n 0, 1) := by decide +kernel
theorem dX2_fillToReader_1 : decode cX2_fillToReader 1 = .ok (.aload_n 0, 1) := by decide +kernel
theorem dX2_fillToReader_2 : decode cX2_fillToReader 2 = .ok (.aload_n 0, 1) := by decide +kernel
theorem dX2_fillToReader_3 : decode cX2_fillToReader 3 = .ok (.getfield 34, 3) := by decide +kernel
theorem dX2_fillToReader_6 : decode cX2_fillToReader 6 = .ok (.getfield 61, 3) := by decide +kernel
theorem dX2_fillToReader_9 : decode cX2_fillToReader 9 = .ok (.invokevirtual 64, 3) := by decide +kernel
theorem dX2_fillToReader_12 : decode cX2_fillToReader 12 = .ok (.aload_n 0, 1) := by decide +kernel
theorem dX2_fillToReader_13 : decode cX2_fillToReader 13 = .ok (.getfield 34, 3) := by decide +kernel
theorem dX2_fillToReader_16 : decode cX2_fillToReader 16 = .ok (.getfield 58, 3) := by decide +kernel
theorem dX2_fillToReader_19 : decode cX2_fillToReader 19 = .ok (.isub, 1) := by decide +kernel
theorem dX2_fillToReader_20 : decode cX2_fillToReader 20 = .ok (.invokevirtual 68, 3) := by decide +kernel
theorem dX2_fillToReader_23 : decode cX2_fillToReader 23 = .ok (.ireturn, 1) := by decide +kernel
theorem dX2_seemsFull_0 : decode cX2_seemsFull 0 = .ok (.aload_n 0, 1) := by decide +kernel
theorem dX2_seemsFull_1 : decode cX2_seemsFull 1 = .ok (.aload_n 0, 1) := by decide +kernel
theorem dX2_seemsFull_2 : decode cX2_seemsFull 2 = .ok (.getfield 30, 3) := by decide +kernel
theorem dX2_seemsFull_5 : decode cX2_seemsFull 5 = .ok (.getfield 61, 3) := by decide +kernel
theorem dX2_seemsFull_8 : decode cX2_seemsFull 8 = .ok (.invokevirtual 64, 3) := by decide +kernel
theorem dX2_seemsFull_11 : decode cX2_seemsFull 11 = .ok (.aload_n 0, 1) := by decide +kernel
theorem dX2_seemsFull_12 : decode cX2_seemsFull 12 = .ok (.aload_n 0, 1) := by decide +kernel
theorem dX2_seemsFull_13 : decode cX2_seemsFull 13 = .ok (.getfield 30, 3) := by decide +kernel
theorem dX2_seemsFull_16 : decode cX2_seemsFull 16 = .ok (.getfield 58, 3) := by decide +kernel
theorem dX2_seemsFull_19 : decode cX2_seemsFull 19 = .ok (.aload_n 0, 1) := by decide +kernel
theorem dX2_seemsFull_20 : decode cX2_seemsFull 20 = .ok (.invokevirtual 54, 3) := by decide +kernel
theorem dX2_seemsFull_23 : decode cX2_seemsFull 23 = .ok (.iadd, 1) := by decide +kernel
theorem dX2_seemsFull_24 : decode cX2_seemsFull 24 = .ok (.invokevirtual 68, 3) := by decide +kernel
theorem dX2_seemsFull_27 : decode cX2_seemsFull 27 = .ok (.if_icmp .ne 7, 3) := by decide +kernel
theorem dX2_seemsFull_30 : decode cX2_seemsFull 30 = .ok (.iconst 1, 1) := by decide +kernel
theorem dX2_seemsFull_31 : decode cX2_seemsFull 31 = .ok (.goto 4, 3) := by decide +kernel
theorem dX2_seemsFull_34 : decode cX2_seemsFull 34 = .ok (.iconst 0, 1) := by decide +kernel
theorem dX2_seemsFull_35 : decode cX2_seemsFull 35 = .ok (.ireturn, 1) := by decide +kernel
theorem dX2_seemsEmpty_0 : decode cX2_seemsEmpty 0 = .ok (.aload_n 0, 1) := by decide +kernel
theorem dX2_seemsEmpty_1 : decode cX2_seemsEmpty 1 = .ok (.aload_n 0, 1) := by decide +kernel
theorem dX2_seemsEmpty_2 : decode cX2_seemsEmpty 2 = .ok (.getfield 34, 3) := by decide +kernel
theorem dX2_seemsEmpty_5 : decode cX2_seemsEmpty 5 = .ok (.getfield 61, 3) := by decide +kernel
theorem dX2_seemsEmpty_8 : decode cX2_seemsEmpty 8 = .ok (.invokevirtual 64, 3) := by decide +kernel
theorem dX2_seemsEmpty_11 : decode cX2_seemsEmpty 11 = .ok (.aload_n 0, 1) := by decide +kernel
theorem dX2_seemsEmpty_12 : decode cX2_seemsEmpty 12 = .ok (.getfield 34, 3) := by decide +kernel
theorem dX2_seemsEmpty_15 : decode cX2_seemsEmpty 15 = .ok (.getfield 58, 3) := by decide +kernel
theorem dX2_seemsEmpty_18 : decode cX2_seemsEmpty 18 = .ok (.if_icmp .ne 7, 3) := by decide +kernel
theorem dX2_seemsEmpty_21 : decode cX2_seemsEmpty 21 = .ok (.iconst 1, 1) := by decide +kernel
theorem dX2_seemsEmpty_22 : decode cX2_seemsEmpty 22 = .ok (.goto 4, 3) := by decide +kernel
theorem dX2_seemsEmpty_25 : decode cX2_seemsEmpty 25 = .ok (.iconst 0, 1) := by decide +kernel
theorem dX2_seemsEmpty_26 : decode cX2_seemsEmpty 26 = .ok (.ireturn, 1) := by decide +kernel
theorem dX2_seemsNearFull_0 : decode cX2_seemsNearFull 0 = .ok (.aload_n 0, 1) := by decide +kernel
theorem dX2_seemsNearFull_1 : decode cX2_seemsNearFull 1 = .ok (.invokevirtual 71, 3) := by decide +kernel
theorem dX2_seemsNearFull_4 : decode cX2_seemsNearFull 4 = .ok (.aload_n 0, 1) := by decide +kernel
theorem dX2_seemsNearFull_5 : decode cX2_seemsNearFull 5 = .ok (.invokevirtual 54, 3) := by decide +kernel
theorem dX2_seemsNearFull_8 : decode cX2_seemsNearFull 8 = .ok (.aload_n 0, 1) := by decide +kernel
theorem dX2_seemsNearFull_9 : decode cX2_seemsNearFull 9 = .ok (.getfield 19, 3) := by decide +kernel
theorem dX2_seemsNearFull_12 : decode cX2_seemsNearFull 12 = .ok (.isub, 1) := by decide +kernel
theorem dX2_seemsNearFull_13 : decode cX2_seemsNearFull 13 = .ok (.if_icmp .lt 7, 3) := by decide +kernel
theorem dX2_seemsNearFull_16 : decode cX2_seemsNearFull 16 = .ok (.iconst 1, 1) := by decide +kernel
theorem dX2_seemsNearFull_17 : decode cX2_seemsNearFull 17 = .ok (.goto 4, 3) := by decide +kernel
theorem dX2_seemsNearFull_20 : decode cX2_seemsNearFull 20 = .ok (.iconst 0, 1) := by decide +kernel
theorem dX2_seemsNearFull_21 : decode cX2_seemsNearFull 21 = .ok (.ireturn, 1) := by decide +kernel
theorem dX2_seemsNearEmpty_0 : decode cX2_seemsNearEmpty 0 = .ok (.aload_n 0, 1) := by decide +kernel
theorem dX2_seemsNearEmpty_1 : decode cX2_seemsNearEmpty 1 = .ok (.invokevirtual 74, 3) := by decide +kernel
theorem dX2_seemsNearEmpty_4 : decode cX2_seemsNearEmpty 4 = .ok (.aload_n 0, 1) := by decide +kernel
theorem dX2_seemsNearEmpty_5 : decode cX2_seemsNearEmpty 5 = .ok (.getfield 22, 3) := by decide +kernel
theorem dX2_seemsNearEmpty_8 : decode cX2_seemsNearEmpty 8 = .ok (.if_icmp .gt 7, 3) := by decide +kernel
theorem dX2_seemsNearEmpty_11 : decode cX2_seemsNearEmpty 11 = .ok (.iconst 1, 1) := by decide +kernel
theorem dX2_seemsNearEmpty_12 : decode cX2_seemsNearEmpty 12 = .ok (.goto 4, 3) := by decide +kernel
theorem dX2_seemsNearEmpty_15 : decode cX2_seemsNearEmpty 15 = .ok (.iconst 0, 1) := by decide +kernel
theorem dX2_seemsNearEmpty_16 : decode cX2_seemsNearEmpty 16 = .ok (.ireturn, 1) := by decide +kernel
theorem dX2_emptyRing_0 : decode cX2_emptyRing 0 = .ok (.aload_n 0, 1) := by decide +kernel
theorem dX2_emptyRing_1 : decode cX2_emptyRing 1 = .ok (.iload_n 1, 1) := by decide +kernel
theorem dX2_emptyRing_2 : decode cX2_emptyRing 2 = .ok (.putfield 9, 3) := by decide +kernel
theorem dX2_emptyRing_5 : decode cX2_emptyRing 5 = .ok (.aload_n 0, 1) := by decide +kernel
theorem dX2_emptyRing_6 : decode cX2_emptyRing 6 = .ok (.iload_n 2, 1) := by decide +kernel
theorem dX2_emptyRing_7 : decode cX2_emptyRing 7 = .ok (.putfield 15, 3) := by decide +kernel
theorem dX2_emptyRing_10 : decode cX2_emptyRing 10 = .ok (.aload_n 0, 1) := by decide +kernel
theorem dX2_emptyRing_11 : decode cX2_emptyRing 11 = .ok (.getfield 30, 3) := by decide +kernel
theorem dX2_emptyRing_14 : decode cX2_emptyRing 14 = .ok (.invokevirtual 77, 3) := by decide +kernel
theorem dX2_emptyRing_17 : decode cX2_emptyRing 17 = .ok (.aload_n 0, 1) := by decide +kernel
theorem dX2_emptyRing_18 : decode cX2_emptyRing 18 = .ok (.getfield 34, 3) := by decide +kernel
theorem dX2_emptyRing_21 : decode cX2_emptyRing 21 = .ok (.invokevirtual 77, 3) := by decide +kernel
theorem dX2_emptyRing_24 : decode cX2_emptyRing 24 = .ok (.aload_n 0, 1) := by decide +kernel
theorem dX2_emptyRing_25 : decode cX2_emptyRing 25 = .ok (.getfield 37, 3) := by decide +kernel
theorem dX2_emptyRing_28 : decode cX2_emptyRing 28 = .ok (.iconst 0, 1) := by decide +kernel
theorem dX2_emptyRing_29 : decode cX2_emptyRing 29 = .ok (.invokestatic 50, 3) := by decide +kernel
theorem dX2_emptyRing_32 : decode cX2_emptyRing 32 = .ok (.aload_n 0, 1) := by decide +kernel
theorem dX2_emptyRing_33 : decode cX2_emptyRing 33 = .ok (.getfield 41, 3) := by decide +kernel
theorem dX2_emptyRing_36 : decode cX2_emptyRing 36 = .ok (.bipush (-5), 2) := by decide +kernel
theorem dX2_emptyRing_38 : decode cX2_emptyRing 38 = .ok (.invokestatic 50, 3) := by decide +kernel
theorem dX2_emptyRing_41 : decode cX2_emptyRing 41 = .ok (.aload_n 0, 1) := by decide +kernel
theorem dX2_emptyRing_42 : decode cX2_emptyRing 42 = .ok (.iconst 0, 1) := by decide +kernel
theorem dX2_emptyRing_43 : decode cX2_emptyRing 43 = .ok (.putfield 80, 3) := by decide +kernel
theorem dX2_emptyRing_46 : decode cX2_emptyRing 46 = .ok (.aload_n 0, 1) := by decide +kernel
theorem dX2_emptyRing_47 : decode cX2_emptyRing 47 = .ok (.iconst 0, 1) := by decide +kernel
theorem dX2_emptyRing_48 : decode cX2_emptyRing 48 = .ok (.putfield 83, 3) := by decide +kernel
theorem dX2_emptyRing_51 : decode cX2_emptyRing 51 = .ok (.aload_n 0, 1) := by decide +kernel
theorem dX2_emptyRing_52 : decode cX2_emptyRing 52 = .ok (.iconst 0, 1) := by decide +kernel
theorem dX2_emptyRing_53 : decode cX2_emptyRing 53 = .ok (.putfield 86, 3) := by decide +kernel
theorem dX2_emptyRing_56 : decode cX2_emptyRing 56 = .ok (.return_, 1) := by decide +kernel
theorem dX2_letWait_0 : decode cX2_letWait 0 = .ok (.aload_n 0, 1) := by decide +kernel
theorem dX2_letWait_1 : decode cX2_letWait 1 = .ok (.getfield 89, 3) := by decide +kernel
theorem dX2_letWait_4 : decode cX2_letWait 4 = .ok (.iload_n 2, 1) := by decide +kernel
theorem dX2_letWait_5 : decode cX2_letWait 5 = .ok (.iadd, 1) := by decide +kernel
theorem dX2_letWait_6 : decode cX2_letWait 6 = .ok (.bipush 20, 2) := by decide +kernel
theorem dX2_letWait_8 : decode cX2_letWait 8 = .ok (.if_icmp .le 5, 3) := by decide +kernel
theorem dX2_letWait_11 : decode cX2_letWait 11 = .ok (.iconst 0, 1) := by decide +kernel
theorem dX2_letWait_12 : decode cX2_letWait 12 = .ok (.ireturn, 1) := by decide +kernel
theorem dX2_letWait_13 : decode cX2_letWait 13 = .ok (.iconst 0, 1) := by decide +kernel
theorem dX2_letWait_14 : decode cX2_letWait 14 = .ok (.istore_n 3, 1) := by decide +kernel
theorem dX2_letWait_15 : decode cX2_letWait 15 = .ok (.iload_n 3, 1) := by decide +kernel
theorem dX2_letWait_16 : decode cX2_letWait 16 = .ok (.iload_n 2, 1) := by decide +kernel
theorem dX2_letWait_17 : decode cX2_letWait 17 = .ok (.if_icmp .ge 31, 3) := by decide +kernel
theorem dX2_letWait_20 : decode cX2_letWait 20 = .ok (.aload_n 0, 1) := by decide +kernel
theorem dX2_letWait_21 : decode cX2_letWait 21 = .ok (.getfield 44, 3) := by decide +kernel
theorem dX2_letWait_24 : decode cX2_letWait 24 = .ok (.aload_n 0, 1) := by decide +kernel
theorem dX2_letWait_25 : decode cX2_letWait 25 = .ok (.getfield 89, 3) := by decide +kernel
theorem dX2_letWait_28 : decode cX2_letWait 28 = .ok (.iload_n 1, 1) := by decide +kernel
theorem dX2_letWait_29 : decode cX2_letWait 29 = .ok (.invokestatic 92, 3) := by decide +kernel
theorem dX2_letWait_32 : decode cX2_letWait 32 = .ok (.aload_n 0, 1) := by decide +kernel
theorem dX2_letWait_33 : decode cX2_letWait 33 = .ok (.dup, 1) := by decide +kernel
theorem dX2_letWait_34 : decode cX2_letWait 34 = .ok (.getfield 89, 3) := by decide +kernel
theorem dX2_letWait_37 : decode cX2_letWait 37 = .ok (.iconst 1, 1) := by decide +kernel
theorem dX2_letWait_38 : decode cX2_letWait 38 = .ok (.iadd, 1) := by decide +kernel
theorem dX2_letWait_39 : decode cX2_letWait 39 = .ok (.putfield 89, 3) := by decide +kernel
theorem dX2_letWait_42 : decode cX2_letWait 42 = .ok (.iinc 3 1, 3) := by decide +kernel
theorem dX2_letWait_45 : decode cX2_letWait 45 = .ok (.goto (-30), 3) := by decide +kernel
theorem dX2_letWait_48 : decode cX2_letWait 48 = .ok (.iconst 1, 1) := by decide +kernel
theorem dX2_letWait_49 : decode cX2_letWait 49 = .ok (.ireturn, 1) := by decide +kernel
theorem dX2_hasTimeFor_0 : decode cX2_hasTimeFor 0 = .ok (.aload_n 0, 1) := by decide +kernel
theorem dX2_hasTimeFor_1 : decode cX2_hasTimeFor 1 = .ok (.getfield 96, 3) := by decide +kernel
theorem dX2_hasTimeFor_4 : decode cX2_hasTimeFor 4 = .ok (.iload_n 1, 1) := by decide +kernel
theorem dX2_hasTimeFor_5 : decode cX2_hasTimeFor 5 = .ok (.iadd, 1) := by decide +kernel
theorem dX2_hasTimeFor_6 : decode cX2_hasTimeFor 6 = .ok (.ldc 99, 2) := by decide +kernel
theorem dX2_hasTimeFor_8 : decode cX2_hasTimeFor 8 = .ok (.if_icmp .gt 7, 3) := by decide +kernel
theorem dX2_hasTimeFor_11 : decode cX2_hasTimeFor 11 = .ok (.iconst 1, 1) := by decide +kernel
theorem dX2_hasTimeFor_12 : decode cX2_hasTimeFor 12 = .ok (.goto 4, 3) := by decide +kernel
theorem dX2_hasTimeFor_15 : decode cX2_hasTimeFor 15 = .ok (.iconst 0, 1) := by decide +kernel
theorem dX2_hasTimeFor_16 : decode cX2_hasTimeFor 16 = .ok (.ireturn, 1) := by decide +kernel
theorem dX2_letPass_0 : decode cX2_letPass 0 = .ok (.iconst 0, 1) := by decide +kernel
theorem dX2_letPass_1 : decode cX2_letPass 1 = .ok (.istore_n 2, 1) := by decide +kernel
theorem dX2_letPass_2 : decode cX2_letPass 2 = .ok (.iload_n 2, 1) := by decide +kernel
theorem dX2_letPass_3 : decode cX2_letPass 3 = .ok (.iload_n 1, 1) := by decide +kernel
theorem dX2_letPass_4 : decode cX2_letPass 4 = .ok (.if_icmp .ge 13, 3) := by decide +kernel
theorem dX2_letPass_7 : decode cX2_letPass 7 = .ok (.aload_n 0, 1) := by decide +kernel
theorem dX2_letPass_8 : decode cX2_letPass 8 = .ok (.invokevirtual 100, 3) := by decide +kernel
theorem dX2_letPass_11 : decode cX2_letPass 11 = .ok (.iinc 2 1, 3) := by decide +kernel
theorem dX2_letPass_14 : decode cX2_letPass 14 = .ok (.goto (-12), 3) := by decide +kernel
theorem dX2_letPass_17 : decode cX2_letPass 17 = .ok (.return_, 1) := by decide +kernel
theorem dX2_follow_0 : decode cX2_follow 0 = .ok (.iconst 0, 1) := by decide +kernel
theorem dX2_follow_1 : decode cX2_follow 1 = .ok (.istore_n 2, 1) := by decide +kernel
theorem dX2_follow_2 : decode cX2_follow 2 = .ok (.iload_n 2, 1) := by decide +kernel
theorem dX2_follow_3 : decode cX2_follow 3 = .ok (.aload_n 1, 1) := by decide +kernel
theorem dX2_follow_4 : decode cX2_follow 4 = .ok (.getfield 103, 3) := by decide +kernel
theorem dX2_follow_7 : decode cX2_follow 7 = .ok (.if_icmp .ge 65, 3) := by decide +kernel
theorem dX2_follow_10 : decode cX2_follow 10 = .ok (.aload_n 1, 1) := by decide +kernel
theorem dX2_follow_11 : decode cX2_follow 11 = .ok (.getfield 108, 3) := by decide +kernel
theorem dX2_follow_14 : decode cX2_follow 14 = .ok (.iload_n 2, 1) := by decide +kernel
theorem dX2_follow_15 : decode cX2_follow 15 = .ok (.invokestatic 111, 3) := by decide +kernel
theorem dX2_follow_18 : decode cX2_follow 18 = .ok (.istore_n 3, 1) := by decide +kernel
theorem dX2_follow_19 : decode cX2_follow 19 = .ok (.aload_n 1, 1) := by decide +kernel
theorem dX2_follow_20 : decode cX2_follow 20 = .ok (.getfield 115, 3) := by decide +kernel
theorem dX2_follow_23 : decode cX2_follow 23 = .ok (.iload_n 2, 1) := by decide +kernel
theorem dX2_follow_24 : decode cX2_follow 24 = .ok (.invokestatic 111, 3) := by decide +kernel
theorem dX2_follow_27 : decode cX2_follow 27 = .ok (.istore 4, 2) := by decide +kernel
theorem dX2_follow_29 : decode cX2_follow 29 = .ok (.iload_n 3, 1) := by decide +kernel
theorem dX2_follow_30 : decode cX2_follow 30 = .ok (.iconst (-1), 1) := by decide +kernel
theorem dX2_follow_31 : decode cX2_follow 31 = .ok (.if_icmp .eq 15, 3) := by decide +kernel
theorem dX2_follow_34 : decode cX2_follow 34 = .ok (.aload_n 0, 1) := by decide +kernel
theorem dX2_follow_35 : decode cX2_follow 35 = .ok (.iload_n 3, 1) := by decide +kernel
theorem dX2_follow_36 : decode cX2_follow 36 = .ok (.iload 4, 2) := by decide +kernel
theorem dX2_follow_38 : decode cX2_follow 38 = .ok (.invokevirtual 118, 3) := by decide +kernel
theorem dX2_follow_41 : decode cX2_follow 41 = .ok (.ifCond .ne 25, 3) := by decide +kernel
theorem dX2_follow_44 : decode cX2_follow 44 = .ok (.iconst 0, 1) := by decide +kernel
theorem dX2_follow_45 : decode cX2_follow 45 = .ok (.ireturn, 1) := by decide +kernel
theorem dX2_follow_46 : decode cX2_follow 46 = .ok (.aload_n 0, 1) := by decide +kernel
theorem dX2_follow_47 : decode cX2_follow 47 = .ok (.iload 4, 2) := by decide +kernel
theorem dX2_follow_49 : decode cX2_follow 49 = .ok (.invokevirtual 122, 3) := by decide +kernel
theorem dX2_follow_52 : decode cX2_follow 52 = .ok (.ifCond .eq 12, 3) := by decide +kernel
theorem dX2_follow_55 : decode cX2_follow 55 = .ok (.aload_n 0, 1) := by decide +kernel
theorem dX2_follow_56 : decode cX2_follow 56 = .ok (.iload 4, 2) := by decide +kernel
theorem dX2_follow_58 : decode cX2_follow 58 = .ok (.invokevirtual 126, 3) := by decide +kernel
theorem dX2_follow_61 : decode cX2_follow 61 = .ok (.goto 5, 3) := by decide +kernel
theorem dX2_follow_64 : decode cX2_follow 64 = .ok (.iconst 0, 1) := by decide +kernel
theorem dX2_follow_65 : decode cX2_follow 65 = .ok (.ireturn, 1) := by decide +kernel
theorem dX2_follow_66 : decode cX2_follow 66 = .ok (.iinc 2 1, 3) := by decide +kernel
theorem dX2_follow_69 : decode cX2_follow 69 = .ok (.goto (-67), 3) := by decide +kernel
theorem dX2_follow_72 : decode cX2_follow 72 = .ok (.iconst 1, 1) := by decide +kernel
theorem dX2_follow_73 : decode cX2_follow 73 = .ok (.ireturn, 1) := by decide +kernel
theorem dX2_isDone_0 : decode cX2_isDone 0 = .ok (.aload_n 0, 1) := by decide +kernel
theorem dX2_isDone_1 : decode cX2_isDone 1 = .ok (.getfield 89, 3) := by decide +kernel
theorem dX2_isDone_4 : decode cX2_isDone 4 = .ok (.ifCond .ne 18, 3) := by decide +kernel
theorem dX2_isDone_7 : decode cX2_isDone 7 = .ok (.aload_n 0, 1) := by decide +kernel
theorem dX2_isDone_8 : decode cX2_isDone 8 = .ok (.getfield 83, 3) := by decide +kernel
theorem dX2_isDone_11 : decode cX2_isDone 11 = .ok (.aload_n 0, 1) := by decide +kernel
theorem dX2_isDone_12 : decode cX2_isDone 12 = .ok (.getfield 80, 3) := by decide +kernel
theorem dX2_isDone_15 : decode cX2_isDone 15 = .ok (.if_icmp .ne 7, 3) := by decide +kernel
theorem dX2_isDone_18 : decode cX2_isDone 18 = .ok (.iconst 1, 1) := by decide +kernel
theorem dX2_isDone_19 : decode cX2_isDone 19 = .ok (.goto 4, 3) := by decide +kernel
theorem dX2_isDone_22 : decode cX2_isDone 22 = .ok (.iconst 0, 1) := by decide +kernel
theorem dX2_isDone_23 : decode cX2_isDone 23 = .ok (.ireturn, 1) := by decide +kernel
theorem dX2_stallsWithin_0 : decode cX2_stallsWithin 0 = .ok (.iconst 0, 1) := by decide +kernel
theorem dX2_stallsWithin_1 : decode cX2_stallsWithin 1 = .ok (.istore_n 2, 1) := by decide +kernel
theorem dX2_stallsWithin_2 : decode cX2_stallsWithin 2 = .ok (.iload_n 2, 1) := by decide +kernel
theorem dX2_stallsWithin_3 : decode cX2_stallsWithin 3 = .ok (.iload_n 1, 1) := by decide +kernel
theorem dX2_stallsWithin_4 : decode cX2_stallsWithin 4 = .ok (.if_icmp .ge 45, 3) := by decide +kernel
theorem dX2_stallsWithin_7 : decode cX2_stallsWithin 7 = .ok (.aload_n 0, 1) := by decide +kernel
theorem dX2_stallsWithin_8 : decode cX2_stallsWithin 8 = .ok (.getfield 30, 3) := by decide +kernel
theorem dX2_stallsWithin_11 : decode cX2_stallsWithin 11 = .ok (.aload_n 0, 1) := by decide +kernel
theorem dX2_stallsWithin_12 : decode cX2_stallsWithin 12 = .ok (.getfield 96, 3) := by decide +kernel
theorem dX2_stallsWithin_15 : decode cX2_stallsWithin 15 = .ok (.iconst 1, 1) := by decide +kernel
theorem dX2_stallsWithin_16 : decode cX2_stallsWithin 16 = .ok (.iadd, 1) := by decide +kernel
theorem dX2_stallsWithin_17 : decode cX2_stallsWithin 17 = .ok (.invokevirtual 129, 3) := by decide +kernel
theorem dX2_stallsWithin_20 : decode cX2_stallsWithin 20 = .ok (.ifCond .eq 19, 3) := by decide +kernel
theorem dX2_stallsWithin_23 : decode cX2_stallsWithin 23 = .ok (.aload_n 0, 1) := by decide +kernel
theorem dX2_stallsWithin_24 : decode cX2_stallsWithin 24 = .ok (.getfield 89, 3) := by decide +kernel
theorem dX2_stallsWithin_27 : decode cX2_stallsWithin 27 = .ok (.ifCond .le 12, 3) := by decide +kernel
theorem dX2_stallsWithin_30 : decode cX2_stallsWithin 30 = .ok (.aload_n 0, 1) := by decide +kernel
theorem dX2_stallsWithin_31 : decode cX2_stallsWithin 31 = .ok (.invokevirtual 132, 3) := by decide +kernel
theorem dX2_stallsWithin_34 : decode cX2_stallsWithin 34 = .ok (.ifCond .eq 5, 3) := by decide +kernel
theorem dX2_stallsWithin_37 : decode cX2_stallsWithin 37 = .ok (.iconst 1, 1) := by decide +kernel
theorem dX2_stallsWithin_38 : decode cX2_stallsWithin 38 = .ok (.ireturn, 1) := by decide +kernel
theorem dX2_stallsWithin_39 : decode cX2_stallsWithin 39 = .ok (.aload_n 0, 1) := by decide +kernel
theorem dX2_stallsWithin_40 : decode cX2_stallsWithin 40 = .ok (.invokevirtual 100, 3) := by decide +kernel
theorem dX2_stallsWithin_43 : decode cX2_stallsWithin 43 = .ok (.iinc 2 1, 3) := by decide +kernel
theorem dX2_stallsWithin_46 : decode cX2_stallsWithin 46 = .ok (.goto (-44), 3) := by decide +kernel
theorem dX2_stallsWithin_49 : decode cX2_stallsWithin 49 = .ok (.iconst 0, 1) := by decide +kernel
theorem dX2_stallsWithin_50 : decode cX2_stallsWithin 50 = .ok (.ireturn, 1) := by decide +kernel
theorem dX2_step_0 : decode cX2_step 0 = .ok (.aload_n 0, 1) := by decide +kernel
theorem dX2_step_1 : decode cX2_step 1 = .ok (.dup, 1) := by decide +kernel
theorem dX2_step_2 : decode cX2_step 2 = .ok (.getfield 96, 3) := by decide +kernel
theorem dX2_step_5 : decode cX2_step 5 = .ok (.iconst 1, 1) := by decide +kernel
theorem dX2_step_6 : decode cX2_step 6 = .ok (.iadd, 1) := by decide +kernel
theorem dX2_step_7 : decode cX2_step 7 = .ok (.putfield 96, 3) := by decide +kernel
theorem dX2_step_10 : decode cX2_step 10 = .ok (.aload_n 0, 1) := by decide +kernel
theorem dX2_step_11 : decode cX2_step 11 = .ok (.getfield 30, 3) := by decide +kernel
theorem dX2_step_14 : decode cX2_step 14 = .ok (.aload_n 0, 1) := by decide +kernel
theorem dX2_step_15 : decode cX2_step 15 = .ok (.getfield 96, 3) := by decide +kernel
theorem dX2_step_18 : decode cX2_step 18 = .ok (.invokevirtual 129, 3) := by decide +kernel
theorem dX2_step_21 : decode cX2_step 21 = .ok (.istore_n 1, 1) := by decide +kernel
theorem dX2_step_22 : decode cX2_step 22 = .ok (.aload_n 0, 1) := by decide +kernel
theorem dX2_step_23 : decode cX2_step 23 = .ok (.getfield 34, 3) := by decide +kernel
theorem dX2_step_26 : decode cX2_step 26 = .ok (.aload_n 0, 1) := by decide +kernel
theorem dX2_step_27 : decode cX2_step 27 = .ok (.getfield 96, 3) := by decide +kernel
theorem dX2_step_30 : decode cX2_step 30 = .ok (.invokevirtual 129, 3) := by decide +kernel
theorem dX2_step_33 : decode cX2_step 33 = .ok (.istore_n 2, 1) := by decide +kernel
theorem dX2_step_34 : decode cX2_step 34 = .ok (.iload_n 1, 1) := by decide +kernel
theorem dX2_step_35 : decode cX2_step 35 = .ok (.ifCond .ne 8, 3) := by decide +kernel
theorem dX2_step_38 : decode cX2_step 38 = .ok (.iload_n 2, 1) := by decide +kernel
theorem dX2_step_39 : decode cX2_step 39 = .ok (.ifCond .ne 4, 3) := by decide +kernel
theorem dX2_step_42 : decode cX2_step 42 = .ok (.return_, 1) := by decide +kernel
theorem dX2_step_43 : decode cX2_step 43 = .ok (.iload_n 1, 1) := by decide +kernel
theorem dX2_step_44 : decode cX2_step 44 = .ok (.ifCond .eq 21, 3) := by decide +kernel
theorem dX2_step_47 : decode cX2_step 47 = .ok (.aload_n 0, 1) := by decide +kernel
theorem dX2_step_48 : decode cX2_step 48 = .ok (.getfield 89, 3) := by decide +kernel
theorem dX2_step_51 : decode cX2_step 51 = .ok (.ifCond .le 14, 3) := by decide +kernel
theorem dX2_step_54 : decode cX2_step 54 = .ok (.aload_n 0, 1) := by decide +kernel
theorem dX2_step_55 : decode cX2_step 55 = .ok (.invokevirtual 132, 3) := by decide +kernel
theorem dX2_step_58 : decode cX2_step 58 = .ok (.ifCond .ne 7, 3) := by decide +kernel
theorem dX2_step_61 : decode cX2_step 61 = .ok (.iconst 1, 1) := by decide +kernel
theorem dX2_step_62 : decode cX2_step 62 = .ok (.goto 4, 3) := by decide +kernel
theorem dX2_step_65 : decode cX2_step 65 = .ok (.iconst 0, 1) := by decide +kernel
theorem dX2_step_66 : decode cX2_step 66 = .ok (.istore_n 3, 1) := by decide +kernel
theorem dX2_step_67 : decode cX2_step 67 = .ok (.iload_n 2, 1) := by decide +kernel
theorem dX2_step_68 : decode cX2_step 68 = .ok (.ifCond .eq 14, 3) := by decide +kernel
theorem dX2_step_71 : decode cX2_step 71 = .ok (.aload_n 0, 1) := by decide +kernel
theorem dX2_step_72 : decode cX2_step 72 = .ok (.invokevirtual 136, 3) := by decide +kernel
theorem dX2_step_75 : decode cX2_step 75 = .ok (.ifCond .ne 7, 3) := by decide +kernel
theorem dX2_step_78 : decode cX2_step 78 = .ok (.iconst 1, 1) := by decide +kernel
theorem dX2_step_79 : decode cX2_step 79 = .ok (.goto 4, 3) := by decide +kernel
theorem dX2_step_82 : decode cX2_step 82 = .ok (.iconst 0, 1) := by decide +kernel
theorem dX2_step_83 : decode cX2_step 83 = .ok (.istore 4, 2) := by decide +kernel
theorem dX2_step_85 : decode cX2_step 85 = .ok (.aload_n 0, 1) := by decide +kernel
theorem dX2_step_86 : decode cX2_step 86 = .ok (.aload_n 0, 1) := by decide +kernel
theorem dX2_step_87 : decode cX2_step 87 = .ok (.getfield 30, 3) := by decide +kernel
theorem dX2_step_90 : decode cX2_step 90 = .ok (.getfield 58, 3) := by decide +kernel
theorem dX2_step_93 : decode cX2_step 93 = .ok (.invokevirtual 139, 3) := by decide +kernel
theorem dX2_step_96 : decode cX2_step 96 = .ok (.istore 5, 2) := by decide +kernel
theorem dX2_step_98 : decode cX2_step 98 = .ok (.iload_n 3, 1) := by decide +kernel
theorem dX2_step_99 : decode cX2_step 99 = .ok (.ifCond .eq 23, 3) := by decide +kernel
theorem dX2_step_102 : decode cX2_step 102 = .ok (.aload_n 0, 1) := by decide +kernel
theorem dX2_step_103 : decode cX2_step 103 = .ok (.aload_n 0, 1) := by decide +kernel
theorem dX2_step_104 : decode cX2_step 104 = .ok (.aload_n 0, 1) := by decide +kernel
theorem dX2_step_105 : decode cX2_step 105 = .ok (.getfield 30, 3) := by decide +kernel
theorem dX2_step_108 : decode cX2_step 108 = .ok (.getfield 58, 3) := by decide +kernel
theorem dX2_step_111 : decode cX2_step 111 = .ok (.iconst 1, 1) := by decide +kernel
theorem dX2_step_112 : decode cX2_step 112 = .ok (.iadd, 1) := by decide +kernel
theorem dX2_step_113 : decode cX2_step 113 = .ok (.invokevirtual 68, 3) := by decide +kernel
theorem dX2_step_116 : decode cX2_step 116 = .ok (.invokevirtual 139, 3) := by decide +kernel
theorem dX2_step_119 : decode cX2_step 119 = .ok (.goto 5, 3) := by decide +kernel
theorem dX2_step_122 : decode cX2_step 122 = .ok (.iload 5, 2) := by decide +kernel
theorem dX2_step_124 : decode cX2_step 124 = .ok (.istore 6, 2) := by decide +kernel
theorem dX2_step_126 : decode cX2_step 126 = .ok (.aload_n 0, 1) := by decide +kernel
theorem dX2_step_127 : decode cX2_step 127 = .ok (.aload_n 0, 1) := by decide +kernel
theorem dX2_step_128 : decode cX2_step 128 = .ok (.getfield 34, 3) := by decide +kernel
theorem dX2_step_131 : decode cX2_step 131 = .ok (.getfield 58, 3) := by decide +kernel
theorem dX2_step_134 : decode cX2_step 134 = .ok (.invokevirtual 139, 3) := by decide +kernel
theorem dX2_step_137 : decode cX2_step 137 = .ok (.istore 7, 2) := by decide +kernel
theorem dX2_step_139 : decode cX2_step 139 = .ok (.iload 4, 2) := by decide +kernel
theorem dX2_step_141 : decode cX2_step 141 = .ok (.ifCond .eq 23, 3) := by decide +kernel
theorem dX2_step_144 : decode cX2_step 144 = .ok (.aload_n 0, 1) := by decide +kernel
theorem dX2_step_145 : decode cX2_step 145 = .ok (.aload_n 0, 1) := by decide +kernel
theorem dX2_step_146 : decode cX2_step 146 = .ok (.aload_n 0, 1) := by decide +kernel
theorem dX2_step_147 : decode cX2_step 147 = .ok (.getfield 34, 3) := by decide +kernel
theorem dX2_step_150 : decode cX2_step 150 = .ok (.getfield 58, 3) := by decide +kernel
theorem dX2_step_153 : decode cX2_step 153 = .ok (.iconst 1, 1) := by decide +kernel
theorem dX2_step_154 : decode cX2_step 154 = .ok (.iadd, 1) := by decide +kernel
theorem dX2_step_155 : decode cX2_step 155 = .ok (.invokevirtual 68, 3) := by decide +kernel
theorem dX2_step_158 : decode cX2_step 158 = .ok (.invokevirtual 139, 3) := by decide +kernel
theorem dX2_step_161 : decode cX2_step 161 = .ok (.goto 5, 3) := by decide +kernel
theorem dX2_step_164 : decode cX2_step 164 = .ok (.iload 7, 2) := by decide +kernel
theorem dX2_step_166 : decode cX2_step 166 = .ok (.istore 8, 2) := by decide +kernel
theorem dX2_step_168 : decode cX2_step 168 = .ok (.iload_n 1, 1) := by decide +kernel
theorem dX2_step_169 : decode cX2_step 169 = .ok (.ifCond .eq 14, 3) := by decide +kernel
theorem dX2_step_172 : decode cX2_step 172 = .ok (.aload_n 0, 1) := by decide +kernel
theorem dX2_step_173 : decode cX2_step 173 = .ok (.getfield 30, 3) := by decide +kernel
theorem dX2_step_176 : decode cX2_step 176 = .ok (.iload 7, 2) := by decide +kernel
theorem dX2_step_178 : decode cX2_step 178 = .ok (.iload 8, 2) := by decide +kernel
theorem dX2_step_180 : decode cX2_step 180 = .ok (.invokevirtual 142, 3) := by decide +kernel
theorem dX2_step_183 : decode cX2_step 183 = .ok (.iload_n 2, 1) := by decide +kernel
theorem dX2_step_184 : decode cX2_step 184 = .ok (.ifCond .eq 14, 3) := by decide +kernel
theorem dX2_step_187 : decode cX2_step 187 = .ok (.aload_n 0, 1) := by decide +kernel
theorem dX2_step_188 : decode cX2_step 188 = .ok (.getfield 34, 3) := by decide +kernel
theorem dX2_step_191 : decode cX2_step 191 = .ok (.iload 5, 2) := by decide +kernel
theorem dX2_step_193 : decode cX2_step 193 = .ok (.iload 6, 2) := by decide +kernel
theorem dX2_step_195 : decode cX2_step 195 = .ok (.invokevirtual 142, 3) := by decide +kernel
theorem dX2_step_198 : decode cX2_step 198 = .ok (.iload 4, 2) := by decide +kernel
theorem dX2_step_200 : decode cX2_step 200 = .ok (.ifCond .eq 7, 3) := by decide +kernel
theorem dX2_step_203 : decode cX2_step 203 = .ok (.aload_n 0, 1) := by decide +kernel
theorem dX2_step_204 : decode cX2_step 204 = .ok (.invokevirtual 146, 3) := by decide +kernel
theorem dX2_step_207 : decode cX2_step 207 = .ok (.iload_n 3, 1) := by decide +kernel
theorem dX2_step_208 : decode cX2_step 208 = .ok (.ifCond .eq 7, 3) := by decide +kernel
theorem dX2_step_211 : decode cX2_step 211 = .ok (.aload_n 0, 1) := by decide +kernel
theorem dX2_step_212 : decode cX2_step 212 = .ok (.invokevirtual 149, 3) := by decide +kernel
theorem dX2_step_215 : decode cX2_step 215 = .ok (.return_, 1) := by decide +kernel
theorem dX2_takeWord_0 : decode cX2_takeWord 0 = .ok (.aload_n 0, 1) := by decide +kernel
theorem dX2_takeWord_1 : decode cX2_takeWord 1 = .ok (.aload_n 0, 1) := by decide +kernel
theorem dX2_takeWord_2 : decode cX2_takeWord 2 = .ok (.getfield 34, 3) := by decide +kernel
theorem dX2_takeWord_5 : decode cX2_takeWord 5 = .ok (.getfield 58, 3) := by decide +kernel
theorem dX2_takeWord_8 : decode cX2_takeWord 8 = .ok (.invokevirtual 152, 3) := by decide +kernel
theorem dX2_takeWord_11 : decode cX2_takeWord 11 = .ok (.istore_n 1, 1) := by decide +kernel
theorem dX2_takeWord_12 : decode cX2_takeWord 12 = .ok (.aload_n 0, 1) := by decide +kernel
theorem dX2_takeWord_13 : decode cX2_takeWord 13 = .ok (.getfield 37, 3) := by decide +kernel
theorem dX2_takeWord_16 : decode cX2_takeWord 16 = .ok (.iload_n 1, 1) := by decide +kernel
theorem dX2_takeWord_17 : decode cX2_takeWord 17 = .ok (.invokestatic 111, 3) := by decide +kernel
theorem dX2_takeWord_20 : decode cX2_takeWord 20 = .ok (.istore_n 2, 1) := by decide +kernel
theorem dX2_takeWord_21 : decode cX2_takeWord 21 = .ok (.aload_n 0, 1) := by decide +kernel
theorem dX2_takeWord_22 : decode cX2_takeWord 22 = .ok (.getfield 41, 3) := by decide +kernel
theorem dX2_takeWord_25 : decode cX2_takeWord 25 = .ok (.iload_n 1, 1) := by decide +kernel
theorem dX2_takeWord_26 : decode cX2_takeWord 26 = .ok (.invokestatic 111, 3) := by decide +kernel
theorem dX2_takeWord_29 : decode cX2_takeWord 29 = .ok (.aload_n 0, 1) := by decide +kernel
theorem dX2_takeWord_30 : decode cX2_takeWord 30 = .ok (.getfield 83, 3) := by decide +kernel
theorem dX2_takeWord_33 : decode cX2_takeWord 33 = .ok (.if_icmp .ne 7, 3) := by decide +kernel
theorem dX2_takeWord_36 : decode cX2_takeWord 36 = .ok (.iconst 1, 1) := by decide +kernel
theorem dX2_takeWord_37 : decode cX2_takeWord 37 = .ok (.goto 4, 3) := by decide +kernel
theorem dX2_takeWord_40 : decode cX2_takeWord 40 = .ok (.iconst 0, 1) := by decide +kernel
theorem dX2_takeWord_41 : decode cX2_takeWord 41 = .ok (.istore_n 3, 1) := by decide +kernel
theorem dX2_takeWord_42 : decode cX2_takeWord 42 = .ok (.aload_n 0, 1) := by decide +kernel
theorem dX2_takeWord_43 : decode cX2_takeWord 43 = .ok (.getfield 47, 3) := by decide +kernel
theorem dX2_takeWord_46 : decode cX2_takeWord 46 = .ok (.aload_n 0, 1) := by decide +kernel
theorem dX2_takeWord_47 : decode cX2_takeWord 47 = .ok (.getfield 83, 3) := by decide +kernel
theorem dX2_takeWord_50 : decode cX2_takeWord 50 = .ok (.bipush 15, 2) := by decide +kernel
theorem dX2_takeWord_52 : decode cX2_takeWord 52 = .ok (.iand, 1) := by decide +kernel
theorem dX2_takeWord_53 : decode cX2_takeWord 53 = .ok (.iload_n 3, 1) := by decide +kernel
theorem dX2_takeWord_54 : decode cX2_takeWord 54 = .ok (.ifCond .eq 7, 3) := by decide +kernel
theorem dX2_takeWord_57 : decode cX2_takeWord 57 = .ok (.iload_n 2, 1) := by decide +kernel
theorem dX2_takeWord_58 : decode cX2_takeWord 58 = .ok (.goto 7, 3) := by decide +kernel
theorem dX2_takeWord_61 : decode cX2_takeWord 61 = .ok (.iload_n 2, 1) := by decide +kernel
theorem dX2_takeWord_62 : decode cX2_takeWord 62 = .ok (.bipush 100, 2) := by decide +kernel
theorem dX2_takeWord_64 : decode cX2_takeWord 64 = .ok (.iadd, 1) := by decide +kernel
theorem dX2_takeWord_65 : decode cX2_takeWord 65 = .ok (.invokestatic 92, 3) := by decide +kernel
theorem dX2_takeWord_68 : decode cX2_takeWord 68 = .ok (.aload_n 0, 1) := by decide +kernel
theorem dX2_takeWord_69 : decode cX2_takeWord 69 = .ok (.dup, 1) := by decide +kernel
theorem dX2_takeWord_70 : decode cX2_takeWord 70 = .ok (.getfield 83, 3) := by decide +kernel
theorem dX2_takeWord_73 : decode cX2_takeWord 73 = .ok (.iconst 1, 1) := by decide +kernel
theorem dX2_takeWord_74 : decode cX2_takeWord 74 = .ok (.iadd, 1) := by decide +kernel
theorem dX2_takeWord_75 : decode cX2_takeWord 75 = .ok (.putfield 83, 3) := by decide +kernel
theorem dX2_takeWord_78 : decode cX2_takeWord 78 = .ok (.iload_n 3, 1) := by decide +kernel
theorem dX2_takeWord_79 : decode cX2_takeWord 79 = .ok (.ifCond .eq 13, 3) := by decide +kernel
theorem dX2_takeWord_82 : decode cX2_takeWord 82 = .ok (.aload_n 0, 1) := by decide +kernel
theorem dX2_takeWord_83 : decode cX2_takeWord 83 = .ok (.dup, 1) := by decide +kernel
theorem dX2_takeWord_84 : decode cX2_takeWord 84 = .ok (.getfield 86, 3) := by decide +kernel
theorem dX2_takeWord_87 : decode cX2_takeWord 87 = .ok (.iconst 1, 1) := by decide +kernel
theorem dX2_takeWord_88 : decode cX2_takeWord 88 = .ok (.iadd, 1) := by decide +kernel
theorem dX2_takeWord_89 : decode cX2_takeWord 89 = .ok (.putfield 86, 3) := by decide +kernel
theorem dX2_takeWord_92 : decode cX2_takeWord 92 = .ok (.aload_n 0, 1) := by decide +kernel
theorem dX2_takeWord_93 : decode cX2_takeWord 93 = .ok (.getfield 34, 3) := by decide +kernel
theorem dX2_takeWord_96 : decode cX2_takeWord 96 = .ok (.aload_n 0, 1) := by decide +kernel
theorem dX2_takeWord_97 : decode cX2_takeWord 97 = .ok (.aload_n 0, 1) := by decide +kernel
theorem dX2_takeWord_98 : decode cX2_takeWord 98 = .ok (.getfield 34, 3) := by decide +kernel
theorem dX2_takeWord_101 : decode cX2_takeWord 101 = .ok (.getfield 58, 3) := by decide +kernel
theorem dX2_takeWord_104 : decode cX2_takeWord 104 = .ok (.iconst 1, 1) := by decide +kernel
theorem dX2_takeWord_105 : decode cX2_takeWord 105 = .ok (.iadd, 1) := by decide +kernel
theorem dX2_takeWord_106 : decode cX2_takeWord 106 = .ok (.invokevirtual 68, 3) := by decide +kernel
theorem dX2_takeWord_109 : decode cX2_takeWord 109 = .ok (.putfield 58, 3) := by decide +kernel
theorem dX2_takeWord_112 : decode cX2_takeWord 112 = .ok (.return_, 1) := by decide +kernel
theorem dX2_putWord_0 : decode cX2_putWord 0 = .ok (.aload_n 0, 1) := by decide +kernel
theorem dX2_putWord_1 : decode cX2_putWord 1 = .ok (.aload_n 0, 1) := by decide +kernel
theorem dX2_putWord_2 : decode cX2_putWord 2 = .ok (.getfield 30, 3) := by decide +kernel
theorem dX2_putWord_5 : decode cX2_putWord 5 = .ok (.getfield 58, 3) := by decide +kernel
theorem dX2_putWord_8 : decode cX2_putWord 8 = .ok (.invokevirtual 152, 3) := by decide +kernel
theorem dX2_putWord_11 : decode cX2_putWord 11 = .ok (.istore_n 1, 1) := by decide +kernel
theorem dX2_putWord_12 : decode cX2_putWord 12 = .ok (.aload_n 0, 1) := by decide +kernel
theorem dX2_putWord_13 : decode cX2_putWord 13 = .ok (.getfield 37, 3) := by decide +kernel
theorem dX2_putWord_16 : decode cX2_putWord 16 = .ok (.iload_n 1, 1) := by decide +kernel
theorem dX2_putWord_17 : decode cX2_putWord 17 = .ok (.aload_n 0, 1) := by decide +kernel
theorem dX2_putWord_18 : decode cX2_putWord 18 = .ok (.getfield 44, 3) := by decide +kernel
theorem dX2_putWord_21 : decode cX2_putWord 21 = .ok (.iconst 0, 1) := by decide +kernel
theorem dX2_putWord_22 : decode cX2_putWord 22 = .ok (.invokestatic 111, 3) := by decide +kernel
theorem dX2_putWord_25 : decode cX2_putWord 25 = .ok (.invokestatic 92, 3) := by decide +kernel
theorem dX2_putWord_28 : decode cX2_putWord 28 = .ok (.aload_n 0, 1) := by decide +kernel
theorem dX2_putWord_29 : decode cX2_putWord 29 = .ok (.getfield 41, 3) := by decide +kernel
theorem dX2_putWord_32 : decode cX2_putWord 32 = .ok (.iload_n 1, 1) := by decide +kernel
theorem dX2_putWord_33 : decode cX2_putWord 33 = .ok (.aload_n 0, 1) := by decide +kernel
theorem dX2_putWord_34 : decode cX2_putWord 34 = .ok (.getfield 80, 3) := by decide +kernel
theorem dX2_putWord_37 : decode cX2_putWord 37 = .ok (.invokestatic 92, 3) := by decide +kernel
theorem dX2_putWord_40 : decode cX2_putWord 40 = .ok (.aload_n 0, 1) := by decide +kernel
theorem dX2_putWord_41 : decode cX2_putWord 41 = .ok (.dup, 1) := by decide +kernel
theorem dX2_putWord_42 : decode cX2_putWord 42 = .ok (.getfield 80, 3) := by decide +kernel
theorem dX2_putWord_45 : decode cX2_putWord 45 = .ok (.iconst 1, 1) := by decide +kernel
theorem dX2_putWord_46 : decode cX2_putWord 46 = .ok (.iadd, 1) := by decide +kernel
theorem dX2_putWord_47 : decode cX2_putWord 47 = .ok (.putfield 80, 3) := by decide +kernel
theorem dX2_putWord_50 : decode cX2_putWord 50 = .ok (.aload_n 0, 1) := by decide +kernel
theorem dX2_putWord_51 : decode cX2_putWord 51 = .ok (.dup, 1) := by decide +kernel
theorem dX2_putWord_52 : decode cX2_putWord 52 = .ok (.getfield 89, 3) := by decide +kernel
theorem dX2_putWord_55 : decode cX2_putWord 55 = .ok (.iconst 1, 1) := by decide +kernel
theorem dX2_putWord_56 : decode cX2_putWord 56 = .ok (.isub, 1) := by decide +kernel
theorem dX2_putWord_57 : decode cX2_putWord 57 = .ok (.putfield 89, 3) := by decide +kernel
theorem dX2_putWord_60 : decode cX2_putWord 60 = .ok (.iconst 0, 1) := by decide +kernel
theorem dX2_putWord_61 : decode cX2_putWord 61 = .ok (.istore_n 2, 1) := by decide +kernel
theorem dX2_putWord_62 : decode cX2_putWord 62 = .ok (.iload_n 2, 1) := by decide +kernel
theorem dX2_putWord_63 : decode cX2_putWord 63 = .ok (.aload_n 0, 1) := by decide +kernel
theorem dX2_putWord_64 : decode cX2_putWord 64 = .ok (.getfield 89, 3) := by decide +kernel
theorem dX2_putWord_67 : decode cX2_putWord 67 = .ok (.if_icmp .ge 27, 3) := by decide +kernel
theorem dX2_putWord_70 : decode cX2_putWord 70 = .ok (.aload_n 0, 1) := by decide +kernel
theorem dX2_putWord_71 : decode cX2_putWord 71 = .ok (.getfield 44, 3) := by decide +kernel
theorem dX2_putWord_74 : decode cX2_putWord 74 = .ok (.iload_n 2, 1) := by decide +kernel
theorem dX2_putWord_75 : decode cX2_putWord 75 = .ok (.aload_n 0, 1) := by decide +kernel
theorem dX2_putWord_76 : decode cX2_putWord 76 = .ok (.getfield 44, 3) := by decide +kernel
theorem dX2_putWord_79 : decode cX2_putWord 79 = .ok (.iload_n 2, 1) := by decide +kernel
theorem dX2_putWord_80 : decode cX2_putWord 80 = .ok (.iconst 1, 1) := by decide +kernel
theorem dX2_putWord_81 : decode cX2_putWord 81 = .ok (.iadd, 1) := by decide +kernel
theorem dX2_putWord_82 : decode cX2_putWord 82 = .ok (.invokestatic 111, 3) := by decide +kernel
theorem dX2_putWord_85 : decode cX2_putWord 85 = .ok (.invokestatic 92, 3) := by decide +kernel
theorem dX2_putWord_88 : decode cX2_putWord 88 = .ok (.iinc 2 1, 3) := by decide +kernel
theorem dX2_putWord_91 : decode cX2_putWord 91 = .ok (.goto (-29), 3) := by decide +kernel
theorem dX2_putWord_94 : decode cX2_putWord 94 = .ok (.aload_n 0, 1) := by decide +kernel
theorem dX2_putWord_95 : decode cX2_putWord 95 = .ok (.getfield 30, 3) := by decide +kernel
theorem dX2_putWord_98 : decode cX2_putWord 98 = .ok (.aload_n 0, 1) := by decide +kernel
theorem dX2_putWord_99 : decode cX2_putWord 99 = .ok (.aload_n 0, 1) := by decide +kernel
theorem dX2_putWord_100 : decode cX2_putWord 100 = .ok (.getfield 30, 3) := by decide +kernel
theorem dX2_putWord_103 : decode cX2_putWord 103 = .ok (.getfield 58, 3) := by decide +kernel
theorem dX2_putWord_106 : decode cX2_putWord 106 = .ok (.iconst 1, 1) := by decide +kernel
theorem dX2_putWord_107 : decode cX2_putWord 107 = .ok (.iadd, 1) := by decide +kernel
theorem dX2_putWord_108 : decode cX2_putWord 108 = .ok (.invokevirtual 68, 3) := by decide +kernel
theorem dX2_putWord_111 : decode cX2_putWord 111 = .ok (.putfield 58, 3) := by decide +kernel
theorem dX2_putWord_114 : decode cX2_putWord 114 = .ok (.return_, 1) := by decide +kernel
theorem dX2_latestCame_0 : decode cX2_latestCame 0 = .ok (.iload_n 1, 1) := by decide +kernel
theorem dX2_latestCame_1 : decode cX2_latestCame 1 = .ok (.aload_n 0, 1) := by decide +kernel
theorem dX2_latestCame_2 : decode cX2_latestCame 2 = .ok (.getfield 83, 3) := by decide +kernel
theorem dX2_latestCame_5 : decode cX2_latestCame 5 = .ok (.if_icmp .ge 9, 3) := by decide +kernel
theorem dX2_latestCame_8 : decode cX2_latestCame 8 = .ok (.iload_n 1, 1) := by decide +kernel
theorem dX2_latestCame_9 : decode cX2_latestCame 9 = .ok (.bipush 16, 2) := by decide +kernel
theorem dX2_latestCame_11 : decode cX2_latestCame 11 = .ok (.if_icmp .lt 6, 3) := by decide +kernel
theorem dX2_latestCame_14 : decode cX2_latestCame 14 = .ok (.bipush (-5), 2) := by decide +kernel
theorem dX2_latestCame_16 : decode cX2_latestCame 16 = .ok (.ireturn, 1) := by decide +kernel
theorem dX2_latestCame_17 : decode cX2_latestCame 17 = .ok (.aload_n 0, 1) := by decide +kernel
theorem dX2_latestCame_18 : decode cX2_latestCame 18 = .ok (.getfield 47, 3) := by decide +kernel
theorem dX2_latestCame_21 : decode cX2_latestCame 21 = .ok (.aload_n 0, 1) := by decide +kernel
theorem dX2_latestCame_22 : decode cX2_latestCame 22 = .ok (.getfield 83, 3) := by decide +kernel
theorem dX2_latestCame_25 : decode cX2_latestCame 25 = .ok (.iconst 1, 1) := by decide +kernel
theorem dX2_latestCame_26 : decode cX2_latestCame 26 = .ok (.isub, 1) := by decide +kernel
theorem dX2_latestCame_27 : decode cX2_latestCame 27 = .ok (.iload_n 1, 1) := by decide +kernel
theorem dX2_latestCame_28 : decode cX2_latestCame 28 = .ok (.isub, 1) := by decide +kernel
theorem dX2_latestCame_29 : decode cX2_latestCame 29 = .ok (.bipush 15, 2) := by decide +kernel
theorem dX2_latestCame_31 : decode cX2_latestCame 31 = .ok (.iand, 1) := by decide +kernel
theorem dX2_latestCame_32 : decode cX2_latestCame 32 = .ok (.invokestatic 111, 3) := by decide +kernel
theorem dX2_latestCame_35 : decode cX2_latestCame 35 = .ok (.ireturn, 1) := by decide +kernel
theorem dX2_copy_0 : decode cX2_copy 0 = .ok (.aload_n 0, 1) := by decide +kernel
theorem dX2_copy_1 : decode cX2_copy 1 = .ok (.aload_n 1, 1) := by decide +kernel
theorem dX2_copy_2 : decode cX2_copy 2 = .ok (.getfield 9, 3) := by decide +kernel
theorem dX2_copy_5 : decode cX2_copy 5 = .ok (.putfield 9, 3) := by decide +kernel
theorem dX2_copy_8 : decode cX2_copy 8 = .ok (.aload_n 0, 1) := by decide +kernel
theorem dX2_copy_9 : decode cX2_copy 9 = .ok (.aload_n 1, 1) := by decide +kernel
theorem dX2_copy_10 : decode cX2_copy 10 = .ok (.getfield 15, 3) := by decide +kernel
theorem dX2_copy_13 : decode cX2_copy 13 = .ok (.putfield 15, 3) := by decide +kernel
theorem dX2_copy_16 : decode cX2_copy 16 = .ok (.aload_n 0, 1) := by decide +kernel
theorem dX2_copy_17 : decode cX2_copy 17 = .ok (.aload_n 1, 1) := by decide +kernel
theorem dX2_copy_18 : decode cX2_copy 18 = .ok (.getfield 96, 3) := by decide +kernel
theorem dX2_copy_21 : decode cX2_copy 21 = .ok (.putfield 96, 3) := by decide +kernel
theorem dX2_copy_24 : decode cX2_copy 24 = .ok (.aload_n 0, 1) := by decide +kernel
theorem dX2_copy_25 : decode cX2_copy 25 = .ok (.aload_n 1, 1) := by decide +kernel
theorem dX2_copy_26 : decode cX2_copy 26 = .ok (.getfield 19, 3) := by decide +kernel
theorem dX2_copy_29 : decode cX2_copy 29 = .ok (.putfield 19, 3) := by decide +kernel
theorem dX2_copy_32 : decode cX2_copy 32 = .ok (.aload_n 0, 1) := by decide +kernel
theorem dX2_copy_33 : decode cX2_copy 33 = .ok (.aload_n 1, 1) := by decide +kernel
theorem dX2_copy_34 : decode cX2_copy 34 = .ok (.getfield 22, 3) := by decide +kernel
theorem dX2_copy_37 : decode cX2_copy 37 = .ok (.putfield 22, 3) := by decide +kernel
theorem dX2_copy_40 : decode cX2_copy 40 = .ok (.aload_n 0, 1) := by decide +kernel
theorem dX2_copy_41 : decode cX2_copy 41 = .ok (.getfield 30, 3) := by decide +kernel
theorem dX2_copy_44 : decode cX2_copy 44 = .ok (.aload_n 1, 1) := by decide +kernel
theorem dX2_copy_45 : decode cX2_copy 45 = .ok (.getfield 30, 3) := by decide +kernel
theorem dX2_copy_48 : decode cX2_copy 48 = .ok (.invokevirtual 155, 3) := by decide +kernel
theorem dX2_copy_51 : decode cX2_copy 51 = .ok (.aload_n 0, 1) := by decide +kernel
theorem dX2_copy_52 : decode cX2_copy 52 = .ok (.getfield 34, 3) := by decide +kernel
theorem dX2_copy_55 : decode cX2_copy 55 = .ok (.aload_n 1, 1) := by decide +kernel
theorem dX2_copy_56 : decode cX2_copy 56 = .ok (.getfield 34, 3) := by decide +kernel
theorem dX2_copy_59 : decode cX2_copy 59 = .ok (.invokevirtual 155, 3) := by decide +kernel
theorem dX2_copy_62 : decode cX2_copy 62 = .ok (.aload_n 1, 1) := by decide +kernel
theorem dX2_copy_63 : decode cX2_copy 63 = .ok (.getfield 37, 3) := by decide +kernel
theorem dX2_copy_66 : decode cX2_copy 66 = .ok (.aload_n 0, 1) := by decide +kernel
theorem dX2_copy_67 : decode cX2_copy 67 = .ok (.getfield 37, 3) := by decide +kernel
theorem dX2_copy_70 : decode cX2_copy 70 = .ok (.invokestatic 159, 3) := by decide +kernel
theorem dX2_copy_73 : decode cX2_copy 73 = .ok (.aload_n 1, 1) := by decide +kernel
theorem dX2_copy_74 : decode cX2_copy 74 = .ok (.getfield 41, 3) := by decide +kernel
theorem dX2_copy_77 : decode cX2_copy 77 = .ok (.aload_n 0, 1) := by decide +kernel
theorem dX2_copy_78 : decode cX2_copy 78 = .ok (.getfield 41, 3) := by decide +kernel
theorem dX2_copy_81 : decode cX2_copy 81 = .ok (.invokestatic 159, 3) := by decide +kernel
theorem dX2_copy_84 : decode cX2_copy 84 = .ok (.aload_n 1, 1) := by decide +kernel
theorem dX2_copy_85 : decode cX2_copy 85 = .ok (.getfield 44, 3) := by decide +kernel
theorem dX2_copy_88 : decode cX2_copy 88 = .ok (.aload_n 0, 1) := by decide +kernel
theorem dX2_copy_89 : decode cX2_copy 89 = .ok (.getfield 44, 3) := by decide +kernel
theorem dX2_copy_92 : decode cX2_copy 92 = .ok (.invokestatic 159, 3) := by decide +kernel
theorem dX2_copy_95 : decode cX2_copy 95 = .ok (.aload_n 0, 1) := by decide +kernel
theorem dX2_copy_96 : decode cX2_copy 96 = .ok (.aload_n 1, 1) := by decide +kernel
theorem dX2_copy_97 : decode cX2_copy 97 = .ok (.getfield 89, 3) := by decide +kernel
theorem dX2_copy_100 : decode cX2_copy 100 = .ok (.putfield 89, 3) := by decide +kernel
theorem dX2_copy_103 : decode cX2_copy 103 = .ok (.aload_n 1, 1) := by decide +kernel
theorem dX2_copy_104 : decode cX2_copy 104 = .ok (.getfield 47, 3) := by decide +kernel
theorem dX2_copy_107 : decode cX2_copy 107 = .ok (.aload_n 0, 1) := by decide +kernel
theorem dX2_copy_108 : decode cX2_copy 108 = .ok (.getfield 47, 3) := by decide +kernel
theorem dX2_copy_111 : decode cX2_copy 111 = .ok (.invokestatic 159, 3) := by decide +kernel
theorem dX2_copy_114 : decode cX2_copy 114 = .ok (.aload_n 0, 1) := by decide +kernel
theorem dX2_copy_115 : decode cX2_copy 115 = .ok (.aload_n 1, 1) := by decide +kernel
theorem dX2_copy_116 : decode cX2_copy 116 = .ok (.getfield 80, 3) := by decide +kernel
theorem dX2_copy_119 : decode cX2_copy 119 = .ok (.putfield 80, 3) := by decide +kernel
theorem dX2_copy_122 : decode cX2_copy 122 = .ok (.aload_n 0, 1) := by decide +kernel
theorem dX2_copy_123 : decode cX2_copy 123 = .ok (.aload_n 1, 1) := by decide +kernel
theorem dX2_copy_124 : decode cX2_copy 124 = .ok (.getfield 83, 3) := by decide +kernel
theorem dX2_copy_127 : decode cX2_copy 127 = .ok (.putfield 83, 3) := by decide +kernel
theorem dX2_copy_130 : decode cX2_copy 130 = .ok (.aload_n 0, 1) := by decide +kernel
theorem dX2_copy_131 : decode cX2_copy 131 = .ok (.aload_n 1, 1) := by decide +kernel
theorem dX2_copy_132 : decode cX2_copy 132 = .ok (.getfield 86, 3) := by decide +kernel
theorem dX2_copy_135 : decode cX2_copy 135 = .ok (.putfield 86, 3) := by decide +kernel
theorem dX2_copy_138 : decode cX2_copy 138 = .ok (.return_, 1) := by decide +kernel
theorem dX3_init_0 : decode cX3_init 0 = .ok (.aload_n 0, 1) := by decide +kernel
theorem dX3_init_1 : decode cX3_init 1 = .ok (.invokespecial 3, 3) := by decide +kernel
theorem dX3_init_4 : decode cX3_init 4 = .ok (.aload_n 0, 1) := by decide +kernel
theorem dX3_init_5 : decode cX3_init 5 = .ok (.bipush 60, 2) := by decide +kernel
theorem dX3_init_7 : decode cX3_init 7 = .ok (.newarray .char, 2) := by decide +kernel
theorem dX3_init_9 : decode cX3_init 9 = .ok (.putfield 9, 3) := by decide +kernel
theorem dX3_init_12 : decode cX3_init 12 = .ok (.aload_n 0, 1) := by decide +kernel
theorem dX3_init_13 : decode cX3_init 13 = .ok (.bipush 30, 2) := by decide +kernel
theorem dX3_init_15 : decode cX3_init 15 = .ok (.newarray .int, 2) := by decide +kernel
theorem dX3_init_17 : decode cX3_init 17 = .ok (.putfield 15, 3) := by decide +kernel
theorem dX3_init_20 : decode cX3_init 20 = .ok (.aload_n 0, 1) := by decide +kernel
theorem dX3_init_21 : decode cX3_init 21 = .ok (.bipush 30, 2) := by decide +kernel
theorem dX3_init_23 : decode cX3_init 23 = .ok (.newarray .int, 2) := by decide +kernel
theorem dX3_init_25 : decode cX3_init 25 = .ok (.putfield 19, 3) := by decide +kernel
theorem dX3_init_28 : decode cX3_init 28 = .ok (.return_, 1) := by decide +kernel
theorem dX3_append_0 : decode cX3_append 0 = .ok (.aload_n 0, 1) := by decide +kernel
theorem dX3_append_1 : decode cX3_append 1 = .ok (.getfield 22, 3) := by decide +kernel
theorem dX3_append_4 : decode cX3_append 4 = .ok (.ifCond .lt 15, 3) := by decide +kernel
theorem dX3_append_7 : decode cX3_append 7 = .ok (.aload_n 0, 1) := by decide +kernel
theorem dX3_append_8 : decode cX3_append 8 = .ok (.getfield 22, 3) := by decide +kernel
theorem dX3_append_11 : decode cX3_append 11 = .ok (.aload_n 0, 1) := by decide +kernel
theorem dX3_append_12 : decode cX3_append 12 = .ok (.getfield 9, 3) := by decide +kernel
theorem dX3_append_15 : decode cX3_append 15 = .ok (.arraylength, 1) := by decide +kernel
theorem dX3_append_16 : decode cX3_append 16 = .ok (.if_icmp .lt 5, 3) := by decide +kernel
theorem dX3_append_19 : decode cX3_append 19 = .ok (.iconst 0, 1) := by decide +kernel
theorem dX3_append_20 : decode cX3_append 20 = .ok (.ireturn, 1) := by decide +kernel
theorem dX3_append_21 : decode cX3_append 21 = .ok (.aload_n 0, 1) := by decide +kernel
theorem dX3_append_22 : decode cX3_append 22 = .ok (.getfield 9, 3) := by decide +kernel
theorem dX3_append_25 : decode cX3_append 25 = .ok (.aload_n 0, 1) := by decide +kernel
theorem dX3_append_26 : decode cX3_append 26 = .ok (.getfield 22, 3) := by decide +kernel
theorem dX3_append_29 : decode cX3_append 29 = .ok (.iload_n 1, 1) := by decide +kernel
theorem dX3_append_30 : decode cX3_append 30 = .ok (.castore, 1) := by decide +kernel
theorem dX3_append_31 : decode cX3_append 31 = .ok (.aload_n 0, 1) := by decide +kernel
theorem dX3_append_32 : decode cX3_append 32 = .ok (.dup, 1) := by decide +kernel
theorem dX3_append_33 : decode cX3_append 33 = .ok (.getfield 22, 3) := by decide +kernel
theorem dX3_append_36 : decode cX3_append 36 = .ok (.iconst 1, 1) := by decide +kernel
theorem dX3_append_37 : decode cX3_append 37 = .ok (.iadd, 1) := by decide +kernel
theorem dX3_append_38 : decode cX3_append 38 = .ok (.putfield 22, 3) := by decide +kernel
theorem dX3_append_41 : decode cX3_append 41 = .ok (.iconst 1, 1) := by decide +kernel
theorem dX3_append_42 : decode cX3_append 42 = .ok (.ireturn, 1) := by decide +kernel
theorem dX3_read_0 : decode cX3_read 0 = .ok (.aload_n 0, 1) := by decide +kernel
theorem dX3_read_1 : decode cX3_read 1 = .ok (.iconst 0, 1) := by decide +kernel
theorem dX3_read_2 : decode cX3_read 2 = .ok (.putfield 26, 3) := by decide +kernel
theorem dX3_read_5 : decode cX3_read 5 = .ok (.aload_n 0, 1) := by decide +kernel
theorem dX3_read_6 : decode cX3_read 6 = .ok (.iconst 0, 1) := by decide +kernel
theorem dX3_read_7 : decode cX3_read 7 = .ok (.putfield 29, 3) := by decide +kernel
theorem dX3_read_10 : decode cX3_read 10 = .ok (.iconst 0, 1) := by decide +kernel
theorem dX3_read_11 : decode cX3_read 11 = .ok (.istore_n 1, 1) := by decide +kernel
theorem dX3_read_12 : decode cX3_read 12 = .ok (.iload_n 1, 1) := by decide +kernel
theorem dX3_read_13 : decode cX3_read 13 = .ok (.bipush 30, 2) := by decide +kernel
theorem dX3_read_15 : decode cX3_read 15 = .ok (.if_icmp .ge 48, 3) := by decide +kernel
theorem dX3_read_18 : decode cX3_read 18 = .ok (.aload_n 0, 1) := by decide +kernel
theorem dX3_read_19 : decode cX3_read 19 = .ok (.invokevirtual 32, 3) := by decide +kernel
theorem dX3_read_22 : decode cX3_read 22 = .ok (.ifCond .ne 8, 3) := by decide +kernel
theorem dX3_read_25 : decode cX3_read 25 = .ok (.aload_n 0, 1) := by decide +kernel
theorem dX3_read_26 : decode cX3_read 26 = .ok (.getfield 29, 3) := by decide +kernel
theorem dX3_read_29 : decode cX3_read 29 = .ok (.ireturn, 1) := by decide +kernel
theorem dX3_read_30 : decode cX3_read 30 = .ok (.aload_n 0, 1) := by decide +kernel
theorem dX3_read_31 : decode cX3_read 31 = .ok (.getfield 29, 3) := by decide +kernel
theorem dX3_read_34 : decode cX3_read 34 = .ok (.aload_n 0, 1) := by decide +kernel
theorem dX3_read_35 : decode cX3_read 35 = .ok (.getfield 22, 3) := by decide +kernel
theorem dX3_read_38 : decode cX3_read 38 = .ok (.if_icmp .ne 5, 3) := by decide +kernel
theorem dX3_read_41 : decode cX3_read 41 = .ok (.iconst (-1), 1) := by decide +kernel
theorem dX3_read_42 : decode cX3_read 42 = .ok (.ireturn, 1) := by decide +kernel
theorem dX3_read_43 : decode cX3_read 43 = .ok (.aload_n 0, 1) := by decide +kernel
theorem dX3_read_44 : decode cX3_read 44 = .ok (.bipush 44, 2) := by decide +kernel
theorem dX3_read_46 : decode cX3_read 46 = .ok (.invokevirtual 36, 3) := by decide +kernel
theorem dX3_read_49 : decode cX3_read 49 = .ok (.ifCond .ne 8, 3) := by decide +kernel
theorem dX3_read_52 : decode cX3_read 52 = .ok (.aload_n 0, 1) := by decide +kernel
theorem dX3_read_53 : decode cX3_read 53 = .ok (.getfield 29, 3) := by decide +kernel
theorem dX3_read_56 : decode cX3_read 56 = .ok (.ireturn, 1) := by decide +kernel
theorem dX3_read_57 : decode cX3_read 57 = .ok (.iinc 1 1, 3) := by decide +kernel
theorem dX3_read_60 : decode cX3_read 60 = .ok (.goto (-48), 3) := by decide +kernel
theorem dX3_read_63 : decode cX3_read 63 = .ok (.aload_n 0, 1) := by decide +kernel
theorem dX3_read_64 : decode cX3_read 64 = .ok (.getfield 29, 3) := by decide +kernel
theorem dX3_read_67 : decode cX3_read 67 = .ok (.ireturn, 1) := by decide +kernel
theorem dX3_wordsInParts_0 : decode cX3_wordsInParts 0 = .ok (.iconst 0, 1) := by decide +kernel
theorem dX3_wordsInParts_1 : decode cX3_wordsInParts 1 = .ok (.istore_n 1, 1) := by decide +kernel
theorem dX3_wordsInParts_2 : decode cX3_wordsInParts 2 = .ok (.iconst 0, 1) := by decide +kernel
theorem dX3_wordsInParts_3 : decode cX3_wordsInParts 3 = .ok (.istore_n 2, 1) := by decide +kernel
theorem dX3_wordsInParts_4 : decode cX3_wordsInParts 4 = .ok (.iload_n 2, 1) := by decide +kernel
theorem dX3_wordsInParts_5 : decode cX3_wordsInParts 5 = .ok (.aload_n 0, 1) := by decide +kernel
theorem dX3_wordsInParts_6 : decode cX3_wordsInParts 6 = .ok (.getfield 26, 3) := by decide +kernel
theorem dX3_wordsInParts_9 : decode cX3_wordsInParts 9 = .ok (.if_icmp .ge 32, 3) := by decide +kernel
theorem dX3_wordsInParts_12 : decode cX3_wordsInParts 12 = .ok (.aload_n 0, 1) := by decide +kernel
theorem dX3_wordsInParts_13 : decode cX3_wordsInParts 13 = .ok (.getfield 15, 3) := by decide +kernel
theorem dX3_wordsInParts_16 : decode cX3_wordsInParts 16 = .ok (.iload_n 2, 1) := by decide +kernel
theorem dX3_wordsInParts_17 : decode cX3_wordsInParts 17 = .ok (.invokestatic 40, 3) := by decide +kernel
theorem dX3_wordsInParts_20 : decode cX3_wordsInParts 20 = .ok (.iconst (-1), 1) := by decide +kernel
theorem dX3_wordsInParts_21 : decode cX3_wordsInParts 21 = .ok (.if_icmp .eq 14, 3) := by decide +kernel
theorem dX3_wordsInParts_24 : decode cX3_wordsInParts 24 = .ok (.iload_n 1, 1) := by decide +kernel
theorem dX3_wordsInParts_25 : decode cX3_wordsInParts 25 = .ok (.aload_n 0, 1) := by decide +kernel
theorem dX3_wordsInParts_26 : decode cX3_wordsInParts 26 = .ok (.getfield 19, 3) := by decide +kernel
theorem dX3_wordsInParts_29 : decode cX3_wordsInParts 29 = .ok (.iload_n 2, 1) := by decide +kernel
theorem dX3_wordsInParts_30 : decode cX3_wordsInParts 30 = .ok (.invokestatic 40, 3) := by decide +kernel
theorem dX3_wordsInParts_33 : decode cX3_wordsInParts 33 = .ok (.iadd, 1) := by decide +kernel
theorem dX3_wordsInParts_34 : decode cX3_wordsInParts 34 = .ok (.istore_n 1, 1) := by decide +kernel
theorem dX3_wordsInParts_35 : decode cX3_wordsInParts 35 = .ok (.iinc 2 1, 3) := by decide +kernel
theorem dX3_wordsInParts_38 : decode cX3_wordsInParts 38 = .ok (.goto (-34), 3) := by decide +kernel
theorem dX3_wordsInParts_41 : decode cX3_wordsInParts 41 = .ok (.iload_n 1, 1) := by decide +kernel
theorem dX3_wordsInParts_42 : decode cX3_wordsInParts 42 = .ok (.ireturn, 1) := by decide +kernel
theorem dX3_readPart_0 : decode cX3_readPart 0 = .ok (.aload_n 0, 1) := by decide +kernel
theorem dX3_readPart_1 : decode cX3_readPart 1 = .ok (.bipush 46, 2) := by decide +kernel
theorem dX3_readPart_3 : decode cX3_readPart 3 = .ok (.invokevirtual 36, 3) := by decide +kernel
theorem dX3_readPart_6 : decode cX3_readPart 6 = .ok (.ifCond .eq 29, 3) := by decide +kernel
theorem dX3_readPart_9 : decode cX3_readPart 9 = .ok (.aload_n 0, 1) := by decide +kernel
theorem dX3_readPart_10 : decode cX3_readPart 10 = .ok (.iconst 1, 1) := by decide +kernel
theorem dX3_readPart_11 : decode cX3_readPart 11 = .ok (.invokevirtual 44, 3) := by decide +kernel
theorem dX3_readPart_14 : decode cX3_readPart 14 = .ok (.istore_n 1, 1) := by decide +kernel
theorem dX3_readPart_15 : decode cX3_readPart 15 = .ok (.iload_n 1, 1) := by decide +kernel
theorem dX3_readPart_16 : decode cX3_readPart 16 = .ok (.iconst (-1), 1) := by decide +kernel
theorem dX3_readPart_17 : decode cX3_readPart 17 = .ok (.if_icmp .eq 16, 3) := by decide +kernel
theorem dX3_readPart_20 : decode cX3_readPart 20 = .ok (.aload_n 0, 1) := by decide +kernel
theorem dX3_readPart_21 : decode cX3_readPart 21 = .ok (.iconst (-1), 1) := by decide +kernel
theorem dX3_readPart_22 : decode cX3_readPart 22 = .ok (.iload_n 1, 1) := by decide +kernel
theorem dX3_readPart_23 : decode cX3_readPart 23 = .ok (.invokevirtual 48, 3) := by decide +kernel
theorem dX3_readPart_26 : decode cX3_readPart 26 = .ok (.ifCond .eq 7, 3) := by decide +kernel
theorem dX3_readPart_29 : decode cX3_readPart 29 = .ok (.iconst 1, 1) := by decide +kernel
theorem dX3_readPart_30 : decode cX3_readPart 30 = .ok (.goto 4, 3) := by decide +kernel
theorem dX3_readPart_33 : decode cX3_readPart 33 = .ok (.iconst 0, 1) := by decide +kernel
theorem dX3_readPart_34 : decode cX3_readPart 34 = .ok (.ireturn, 1) := by decide +kernel
theorem dX3_readPart_35 : decode cX3_readPart 35 = .ok (.aload_n 0, 1) := by decide +kernel
theorem dX3_readPart_36 : decode cX3_readPart 36 = .ok (.iconst 0, 1) := by decide +kernel
theorem dX3_readPart_37 : decode cX3_readPart 37 = .ok (.invokevirtual 44, 3) := by decide +kernel
theorem dX3_readPart_40 : decode cX3_readPart 40 = .ok (.istore_n 1, 1) := by decide +kernel
theorem dX3_readPart_41 : decode cX3_readPart 41 = .ok (.iload_n 1, 1) := by decide +kernel
theorem dX3_readPart_42 : decode cX3_readPart 42 = .ok (.iconst (-1), 1) := by decide +kernel
theorem dX3_readPart_43 : decode cX3_readPart 43 = .ok (.if_icmp .ne 5, 3) := by decide +kernel
theorem dX3_readPart_46 : decode cX3_readPart 46 = .ok (.iconst 0, 1) := by decide +kernel
theorem dX3_readPart_47 : decode cX3_readPart 47 = .ok (.ireturn, 1) := by decide +kernel
theorem dX3_readPart_48 : decode cX3_readPart 48 = .ok (.aload_n 0, 1) := by decide +kernel
theorem dX3_readPart_49 : decode cX3_readPart 49 = .ok (.bipush 120, 2) := by decide +kernel
theorem dX3_readPart_51 : decode cX3_readPart 51 = .ok (.invokevirtual 36, 3) := by decide +kernel
theorem dX3_readPart_54 : decode cX3_readPart 54 = .ok (.ifCond .ne 10, 3) := by decide +kernel
theorem dX3_readPart_57 : decode cX3_readPart 57 = .ok (.aload_n 0, 1) := by decide +kernel
theorem dX3_readPart_58 : decode cX3_readPart 58 = .ok (.iload_n 1, 1) := by decide +kernel
theorem dX3_readPart_59 : decode cX3_readPart 59 = .ok (.iconst 1, 1) := by decide +kernel
theorem dX3_readPart_60 : decode cX3_readPart 60 = .ok (.invokevirtual 48, 3) := by decide +kernel
theorem dX3_readPart_63 : decode cX3_readPart 63 = .ok (.ireturn, 1) := by decide +kernel
theorem dX3_readPart_64 : decode cX3_readPart 64 = .ok (.aload_n 0, 1) := by decide +kernel
theorem dX3_readPart_65 : decode cX3_readPart 65 = .ok (.invokevirtual 52, 3) := by decide +kernel
theorem dX3_readPart_68 : decode cX3_readPart 68 = .ok (.istore_n 2, 1) := by decide +kernel
theorem dX3_readPart_69 : decode cX3_readPart 69 = .ok (.iload_n 2, 1) := by decide +kernel
theorem dX3_readPart_70 : decode cX3_readPart 70 = .ok (.iconst 2, 1) := by decide +kernel
theorem dX3_readPart_71 : decode cX3_readPart 71 = .ok (.if_icmp .ge 5, 3) := by decide +kernel
theorem dX3_readPart_74 : decode cX3_readPart 74 = .ok (.iconst 0, 1) := by decide +kernel
theorem dX3_readPart_75 : decode cX3_readPart 75 = .ok (.ireturn, 1) := by decide +kernel
theorem dX3_readPart_76 : decode cX3_readPart 76 = .ok (.aload_n 0, 1) := by decide +kernel
theorem dX3_readPart_77 : decode cX3_readPart 77 = .ok (.dup, 1) := by decide +kernel
theorem dX3_readPart_78 : decode cX3_readPart 78 = .ok (.getfield 29, 3) := by decide +kernel
theorem dX3_readPart_81 : decode cX3_readPart 81 = .ok (.iconst 1, 1) := by decide +kernel
theorem dX3_readPart_82 : decode cX3_readPart 82 = .ok (.iadd, 1) := by decide +kernel
theorem dX3_readPart_83 : decode cX3_readPart 83 = .ok (.putfield 29, 3) := by decide +kernel
theorem dX3_readPart_86 : decode cX3_readPart 86 = .ok (.aload_n 0, 1) := by decide +kernel
theorem dX3_readPart_87 : decode cX3_readPart 87 = .ok (.iload_n 1, 1) := by decide +kernel
theorem dX3_readPart_88 : decode cX3_readPart 88 = .ok (.iload_n 2, 1) := by decide +kernel
theorem dX3_readPart_89 : decode cX3_readPart 89 = .ok (.invokevirtual 48, 3) := by decide +kernel
theorem dX3_readPart_92 : decode cX3_readPart 92 = .ok (.ireturn, 1) := by decide +kernel
theorem dX3_readNumber_0 : decode cX3_readNumber 0 = .ok (.aload_n 0, 1) := by decide +kernel
theorem dX3_readNumber_1 : decode cX3_readNumber 1 = .ok (.invokevirtual 52, 3) := by decide +kernel
theorem dX3_readNumber_4 : decode cX3_readNumber 4 = .ok (.istore_n 2, 1) := by decide +kernel
theorem dX3_readNumber_5 : decode cX3_readNumber 5 = .ok (.iload_n 2, 1) := by decide +kernel
theorem dX3_readNumber_6 : decode cX3_readNumber 6 = .ok (.iload_n 1, 1) := by decide +kernel
theorem dX3_readNumber_7 : decode cX3_readNumber 7 = .ok (.if_icmp .ge 5, 3) := by decide +kernel
theorem dX3_readNumber_10 : decode cX3_readNumber 10 = .ok (.iconst (-1), 1) := by decide +kernel
theorem dX3_readNumber_11 : decode cX3_readNumber 11 = .ok (.ireturn, 1) := by decide +kernel
theorem dX3_readNumber_12 : decode cX3_readNumber 12 = .ok (.aload_n 0, 1) := by decide +kernel
theorem dX3_readNumber_13 : decode cX3_readNumber 13 = .ok (.dup, 1) := by decide +kernel
theorem dX3_readNumber_14 : decode cX3_readNumber 14 = .ok (.getfield 29, 3) := by decide +kernel
theorem dX3_readNumber_17 : decode cX3_readNumber 17 = .ok (.iconst 1, 1) := by decide +kernel
theorem dX3_readNumber_18 : decode cX3_readNumber 18 = .ok (.iadd, 1) := by decide +kernel
theorem dX3_readNumber_19 : decode cX3_readNumber 19 = .ok (.putfield 29, 3) := by decide +kernel
theorem dX3_readNumber_22 : decode cX3_readNumber 22 = .ok (.aload_n 0, 1) := by decide +kernel
theorem dX3_readNumber_23 : decode cX3_readNumber 23 = .ok (.invokevirtual 52, 3) := by decide +kernel
theorem dX3_readNumber_26 : decode cX3_readNumber 26 = .ok (.istore_n 3, 1) := by decide +kernel
theorem dX3_readNumber_27 : decode cX3_readNumber 27 = .ok (.iload_n 2, 1) := by decide +kernel
theorem dX3_readNumber_28 : decode cX3_readNumber 28 = .ok (.ifCond .eq 8, 3) := by decide +kernel
theorem dX3_readNumber_31 : decode cX3_readNumber 31 = .ok (.iload_n 3, 1) := by decide +kernel
theorem dX3_readNumber_32 : decode cX3_readNumber 32 = .ok (.iconst (-1), 1) := by decide +kernel
theorem dX3_readNumber_33 : decode cX3_readNumber 33 = .ok (.if_icmp .ne 5, 3) := by decide +kernel
theorem dX3_readNumber_36 : decode cX3_readNumber 36 = .ok (.iload_n 2, 1) := by decide +kernel
theorem dX3_readNumber_37 : decode cX3_readNumber 37 = .ok (.ireturn, 1) := by decide +kernel
theorem dX3_readNumber_38 : decode cX3_readNumber 38 = .ok (.aload_n 0, 1) := by decide +kernel
theorem dX3_readNumber_39 : decode cX3_readNumber 39 = .ok (.dup, 1) := by decide +kernel
theorem dX3_readNumber_40 : decode cX3_readNumber 40 = .ok (.getfield 29, 3) := by decide +kernel
theorem dX3_readNumber_43 : decode cX3_readNumber 43 = .ok (.iconst 1, 1) := by decide +kernel
theorem dX3_readNumber_44 : decode cX3_readNumber 44 = .ok (.iadd, 1) := by decide +kernel
theorem dX3_readNumber_45 : decode cX3_readNumber 45 = .ok (.putfield 29, 3) := by decide +kernel
theorem dX3_readNumber_48 : decode cX3_readNumber 48 = .ok (.iload_n 2, 1) := by decide +kernel
theorem dX3_readNumber_49 : decode cX3_readNumber 49 = .ok (.bipush 10, 2) := by decide +kernel
theorem dX3_readNumber_51 : decode cX3_readNumber 51 = .ok (.imul, 1) := by decide +kernel
theorem dX3_readNumber_52 : decode cX3_readNumber 52 = .ok (.iload_n 3, 1) := by decide +kernel
theorem dX3_readNumber_53 : decode cX3_readNumber 53 = .ok (.iadd, 1) := by decide +kernel
theorem dX3_readNumber_54 : decode cX3_readNumber 54 = .ok (.ireturn, 1) := by decide +kernel
theorem dX3_readSign_0 : decode cX3_readSign 0 = .ok (.aload_n 0, 1) := by decide +kernel
theorem dX3_readSign_1 : decode cX3_readSign 1 = .ok (.invokevirtual 56, 3) := by decide +kernel
theorem dX3_readSign_4 : decode cX3_readSign 4 = .ok (.ifCond .eq 16, 3) := by decide +kernel
theorem dX3_readSign_7 : decode cX3_readSign 7 = .ok (.aload_n 0, 1) := by decide +kernel
theorem dX3_readSign_8 : decode cX3_readSign 8 = .ok (.getfield 9, 3) := by decide +kernel
theorem dX3_readSign_11 : decode cX3_readSign 11 = .ok (.aload_n 0, 1) := by decide +kernel
theorem dX3_readSign_12 : decode cX3_readSign 12 = .ok (.getfield 29, 3) := by decide +kernel
theorem dX3_readSign_15 : decode cX3_readSign 15 = .ok (.caload, 1) := by decide +kernel
theorem dX3_readSign_16 : decode cX3_readSign 16 = .ok (.iload_n 1, 1) := by decide +kernel
theorem dX3_readSign_17 : decode cX3_readSign 17 = .ok (.if_icmp .eq 5, 3) := by decide +kernel
theorem dX3_readSign_20 : decode cX3_readSign 20 = .ok (.iconst 0, 1) := by decide +kernel
theorem dX3_readSign_21 : decode cX3_readSign 21 = .ok (.ireturn, 1) := by decide +kernel
theorem dX3_readSign_22 : decode cX3_readSign 22 = .ok (.aload_n 0, 1) := by decide +kernel
theorem dX3_readSign_23 : decode cX3_readSign 23 = .ok (.dup, 1) := by decide +kernel
theorem dX3_readSign_24 : decode cX3_readSign 24 = .ok (.getfield 29, 3) := by decide +kernel
theorem dX3_readSign_27 : decode cX3_readSign 27 = .ok (.iconst 1, 1) := by decide +kernel
theorem dX3_readSign_28 : decode cX3_readSign 28 = .ok (.iadd, 1) := by decide +kernel
theorem dX3_readSign_29 : decode cX3_readSign 29 = .ok (.putfield 29, 3) := by decide +kernel
theorem dX3_readSign_32 : decode cX3_readSign 32 = .ok (.iconst 1, 1) := by decide +kernel
theorem dX3_readSign_33 : decode cX3_readSign 33 = .ok (.ireturn, 1) := by decide +kernel
theorem dX3_digitAtCursor_0 : decode cX3_digitAtCursor 0 = .ok (.aload_n 0, 1) := by decide +kernel
theorem dX3_digitAtCursor_1 : decode cX3_digitAtCursor 1 = .ok (.invokevirtual 56, 3) := by decide +kernel
theorem dX3_digitAtCursor_4 : decode cX3_digitAtCursor 4 = .ok (.ifCond .eq 31, 3) := by decide +kernel
theorem dX3_digitAtCursor_7 : decode cX3_digitAtCursor 7 = .ok (.aload_n 0, 1) := by decide +kernel
theorem dX3_digitAtCursor_8 : decode cX3_digitAtCursor 8 = .ok (.getfield 9, 3) := by decide +kernel
theorem dX3_digitAtCursor_11 : decode cX3_digitAtCursor 11 = .ok (.aload_n 0, 1) := by decide +kernel
theorem dX3_digitAtCursor_12 : decode cX3_digitAtCursor 12 = .ok (.getfield 29, 3) := by decide +kernel
theorem dX3_digitAtCursor_15 : decode cX3_digitAtCursor 15 = .ok (.caload, 1) := by decide +kernel
theorem dX3_digitAtCursor_16 : decode cX3_digitAtCursor 16 = .ok (.bipush 48, 2) := by decide +kernel
theorem dX3_digitAtCursor_18 : decode cX3_digitAtCursor 18 = .ok (.if_icmp .lt 17, 3) := by decide +kernel
theorem dX3_digitAtCursor_21 : decode cX3_digitAtCursor 21 = .ok (.aload_n 0, 1) := by decide +kernel
theorem dX3_digitAtCursor_22 : decode cX3_digitAtCursor 22 = .ok (.getfield 9, 3) := by decide +kernel
theorem dX3_digitAtCursor_25 : decode cX3_digitAtCursor 25 = .ok (.aload_n 0, 1) := by decide +kernel
theorem dX3_digitAtCursor_26 : decode cX3_digitAtCursor 26 = .ok (.getfield 29, 3) := by decide +kernel
theorem dX3_digitAtCursor_29 : decode cX3_digitAtCursor 29 = .ok (.caload, 1) := by decide +kernel
theorem dX3_digitAtCursor_30 : decode cX3_digitAtCursor 30 = .ok (.bipush 57, 2) := by decide +kernel
theorem dX3_digitAtCursor_32 : decode cX3_digitAtCursor 32 = .ok (.if_icmp .le 5, 3) := by decide +kernel
theorem dX3_digitAtCursor_35 : decode cX3_digitAtCursor 35 = .ok (.iconst (-1), 1) := by decide +kernel
theorem dX3_digitAtCursor_36 : decode cX3_digitAtCursor 36 = .ok (.ireturn, 1) := by decide +kernel
theorem dX3_digitAtCursor_37 : decode cX3_digitAtCursor 37 = .ok (.aload_n 0, 1) := by decide +kernel
theorem dX3_digitAtCursor_38 : decode cX3_digitAtCursor 38 = .ok (.getfield 9, 3) := by decide +kernel
theorem dX3_digitAtCursor_41 : decode cX3_digitAtCursor 41 = .ok (.aload_n 0, 1) := by decide +kernel
theorem dX3_digitAtCursor_42 : decode cX3_digitAtCursor 42 = .ok (.getfield 29, 3) := by decide +kernel
theorem dX3_digitAtCursor_45 : decode cX3_digitAtCursor 45 = .ok (.caload, 1) := by decide +kernel
theorem dX3_digitAtCursor_46 : decode cX3_digitAtCursor 46 = .ok (.bipush 48, 2) := by decide +kernel
theorem dX3_digitAtCursor_48 : decode cX3_digitAtCursor 48 = .ok (.isub, 1) := by decide +kernel
theorem dX3_digitAtCursor_49 : decode cX3_digitAtCursor 49 = .ok (.ireturn, 1) := by decide +kernel
theorem dX3_hasSign_0 : decode cX3_hasSign 0 = .ok (.aload_n 0, 1) := by decide +kernel
theorem dX3_hasSign_1 : decode cX3_hasSign 1 = .ok (.getfield 29, 3) := by decide +kernel
theorem dX3_hasSign_4 : decode cX3_hasSign 4 = .ok (.ifCond .lt 30, 3) := by decide +kernel
theorem dX3_hasSign_7 : decode cX3_hasSign 7 = .ok (.aload_n 0, 1) := by decide +kernel
theorem dX3_hasSign_8 : decode cX3_hasSign 8 = .ok (.getfield 29, 3) := by decide +kernel
theorem dX3_hasSign_11 : decode cX3_hasSign 11 = .ok (.aload_n 0, 1) := by decide +kernel
theorem dX3_hasSign_12 : decode cX3_hasSign 12 = .ok (.getfield 22, 3) := by decide +kernel
theorem dX3_hasSign_15 : decode cX3_hasSign 15 = .ok (.if_icmp .ge 19, 3) := by decide +kernel
theorem dX3_hasSign_18 : decode cX3_hasSign 18 = .ok (.aload_n 0, 1) := by decide +kernel
theorem dX3_hasSign_19 : decode cX3_hasSign 19 = .ok (.getfield 29, 3) := by decide +kernel
theorem dX3_hasSign_22 : decode cX3_hasSign 22 = .ok (.aload_n 0, 1) := by decide +kernel
theorem dX3_hasSign_23 : decode cX3_hasSign 23 = .ok (.getfield 9, 3) := by decide +kernel
theorem dX3_hasSign_26 : decode cX3_hasSign 26 = .ok (.arraylength, 1) := by decide +kernel
theorem dX3_hasSign_27 : decode cX3_hasSign 27 = .ok (.if_icmp .ge 7, 3) := by decide +kernel
theorem dX3_hasSign_30 : decode cX3_hasSign 30 = .ok (.iconst 1, 1) := by decide +kernel
theorem dX3_hasSign_31 : decode cX3_hasSign 31 = .ok (.goto 4, 3) := by decide +kernel
theorem dX3_hasSign_34 : decode cX3_hasSign 34 = .ok (.iconst 0, 1) := by decide +kernel
theorem dX3_hasSign_35 : decode cX3_hasSign 35 = .ok (.ireturn, 1) := by decide +kernel
theorem dX3_addPart_0 : decode cX3_addPart 0 = .ok (.aload_n 0, 1) := by decide +kernel
theorem dX3_addPart_1 : decode cX3_addPart 1 = .ok (.getfield 26, 3) := by decide +kernel
theorem dX3_addPart_4 : decode cX3_addPart 4 = .ok (.bipush 30, 2) := by decide +kernel
theorem dX3_addPart_6 : decode cX3_addPart 6 = .ok (.if_icmp .lt 5, 3) := by decide +kernel
theorem dX3_addPart_9 : decode cX3_addPart 9 = .ok (.iconst 0, 1) := by decide +kernel
theorem dX3_addPart_10 : decode cX3_addPart 10 = .ok (.ireturn, 1) := by decide +kernel
theorem dX3_addPart_11 : decode cX3_addPart 11 = .ok (.aload_n 0, 1) := by decide +kernel
theorem dX3_addPart_12 : decode cX3_addPart 12 = .ok (.getfield 15, 3) := by decide +kernel
theorem dX3_addPart_15 : decode cX3_addPart 15 = .ok (.aload_n 0, 1) := by decide +kernel
theorem dX3_addPart_16 : decode cX3_addPart 16 = .ok (.getfield 26, 3) := by decide +kernel
theorem dX3_addPart_19 : decode cX3_addPart 19 = .ok (.iload_n 1, 1) := by decide +kernel
theorem dX3_addPart_20 : decode cX3_addPart 20 = .ok (.invokestatic 59, 3) := by decide +kernel
theorem dX3_addPart_23 : decode cX3_addPart 23 = .ok (.aload_n 0, 1) := by decide +kernel
theorem dX3_addPart_24 : decode cX3_addPart 24 = .ok (.getfield 19, 3) := by decide +kernel
theorem dX3_addPart_27 : decode cX3_addPart 27 = .ok (.aload_n 0, 1) := by decide +kernel
theorem dX3_addPart_28 : decode cX3_addPart 28 = .ok (.getfield 26, 3) := by decide +kernel
theorem dX3_addPart_31 : decode cX3_addPart 31 = .ok (.iload_n 2, 1) := by decide +kernel
theorem dX3_addPart_32 : decode cX3_addPart 32 = .ok (.invokestatic 59, 3) := by decide +kernel
theorem dX3_addPart_35 : decode cX3_addPart 35 = .ok (.aload_n 0, 1) := by decide +kernel
theorem dX3_addPart_36 : decode cX3_addPart 36 = .ok (.dup, 1) := by decide +kernel
theorem dX3_addPart_37 : decode cX3_addPart 37 = .ok (.getfield 26, 3) := by decide +kernel
theorem dX3_addPart_40 : decode cX3_addPart 40 = .ok (.iconst 1, 1) := by decide +kernel
theorem dX3_addPart_41 : decode cX3_addPart 41 = .ok (.iadd, 1) := by decide +kernel
theorem dX3_addPart_42 : decode cX3_addPart 42 = .ok (.putfield 26, 3) := by decide +kernel
theorem dX3_addPart_45 : decode cX3_addPart 45 = .ok (.iconst 1, 1) := by decide +kernel
theorem dX3_addPart_46 : decode cX3_addPart 46 = .ok (.ireturn, 1) := by decide +kernel
end
section
theorem dX4_init_0 : decode cX4_init 0 = .ok (.aload_n 0, 1) := by decide +kernel
theorem dX4_init_1 : decode cX4_init 1 = .ok (.invokespecial 1, 3) := by decide +kernel
theorem dX4_init_4 : decode cX4_init 4 = .ok (.aload_n 0, 1) := by decide +kernel
theorem dX4_init_5 : decode cX4_init 5 = .ok (.new 7, 3) := by decide +kernel
theorem dX4_init_8 : decode cX4_init 8 = .ok (.dup, 1) := by decide +kernel
theorem dX4_init_9 : decode cX4_init 9 = .ok (.invokespecial 9, 3) := by decide +kernel
theorem dX4_init_12 : decode cX4_init 12 = .ok (.putfield 10, 3) := by decide +kernel
theorem dX4_init_15 : decode cX4_init 15 = .ok (.aload_n 0, 1) := by decide +kernel
theorem dX4_init_16 : decode cX4_init 16 = .ok (.new 7, 3) := by decide +kernel
theorem dX4_init_19 : decode cX4_init 19 = .ok (.dup, 1) := by decide +kernel
theorem dX4_init_20 : decode cX4_init 20 = .ok (.invokespecial 9, 3) := by decide +kernel
theorem dX4_init_23 : decode cX4_init 23 = .ok (.putfield 16, 3) := by decide +kernel
theorem dX4_init_26 : decode cX4_init 26 = .ok (.aload_n 0, 1) := by decide +kernel
theorem dX4_init_27 : decode cX4_init 27 = .ok (.new 7, 3) := by decide +kernel
theorem dX4_init_30 : decode cX4_init 30 = .ok (.dup, 1) := by decide +kernel
theorem dX4_init_31 : decode cX4_init 31 = .ok (.invokespecial 9, 3) := by decide +kernel
theorem dX4_init_34 : decode cX4_init 34 = .ok (.putfield 19, 3) := by decide +kernel
theorem dX4_init_37 : decode cX4_init 37 = .ok (.aload_n 0, 1) := by decide +kernel
theorem dX4_init_38 : decode cX4_init 38 = .ok (.new 22, 3) := by decide +kernel
theorem dX4_init_41 : decode cX4_init 41 = .ok (.dup, 1) := by decide +kernel
theorem dX4_init_42 : decode cX4_init 42 = .ok (.invokespecial 24, 3) := by decide +kernel
theorem dX4_init_45 : decode cX4_init 45 = .ok (.putfield 25, 3) := by decide +kernel
theorem dX4_init_48 : decode cX4_init 48 = .ok (.aload_n 0, 1) := by decide +kernel
theorem dX4_init_49 : decode cX4_init 49 = .ok (.new 29, 3) := by decide +kernel
theorem dX4_init_52 : decode cX4_init 52 = .ok (.dup, 1) := by decide +kernel
theorem dX4_init_53 : decode cX4_init 53 = .ok (.invokespecial 31, 3) := by decide +kernel
theorem dX4_init_56 : decode cX4_init 56 = .ok (.putfield 32, 3) := by decide +kernel
theorem dX4_init_59 : decode cX4_init 59 = .ok (.return_, 1) := by decide +kernel
theorem dX4_build_0 : decode cX4_build 0 = .ok (.iload_n 1, 1) := by decide +kernel
theorem dX4_build_1 : decode cX4_build 1 = .ok (.iconst 1, 1) := by decide +kernel
theorem dX4_build_2 : decode cX4_build 2 = .ok (.iconst 4, 1) := by decide +kernel
theorem dX4_build_3 : decode cX4_build 3 = .ok (.invokestatic 36, 3) := by decide +kernel
theorem dX4_build_6 : decode cX4_build 6 = .ok (.ifCond .ne 6, 3) := by decide +kernel
theorem dX4_build_9 : decode cX4_build 9 = .ok (.bipush (-2), 2) := by decide +kernel
theorem dX4_build_11 : decode cX4_build 11 = .ok (.ireturn, 1) := by decide +kernel
theorem dX4_build_12 : decode cX4_build 12 = .ok (.aload_n 0, 1) := by decide +kernel
theorem dX4_build_13 : decode cX4_build 13 = .ok (.getfield 25, 3) := by decide +kernel
theorem dX4_build_16 : decode cX4_build 16 = .ok (.aload_n 0, 1) := by decide +kernel
theorem dX4_build_17 : decode cX4_build 17 = .ok (.getfield 10, 3) := by decide +kernel
theorem dX4_build_20 : decode cX4_build 20 = .ok (.invokevirtual 40, 3) := by decide +kernel
theorem dX4_build_23 : decode cX4_build 23 = .ok (.aload_n 0, 1) := by decide +kernel
theorem dX4_build_24 : decode cX4_build 24 = .ok (.getfield 10, 3) := by decide +kernel
theorem dX4_build_27 : decode cX4_build 27 = .ok (.iload_n 1, 1) := by decide +kernel
theorem dX4_build_28 : decode cX4_build 28 = .ok (.iload_n 2, 1) := by decide +kernel
theorem dX4_build_29 : decode cX4_build 29 = .ok (.invokevirtual 44, 3) := by decide +kernel
theorem dX4_build_32 : decode cX4_build 32 = .ok (.aload_n 0, 1) := by decide +kernel
theorem dX4_build_33 : decode cX4_build 33 = .ok (.getfield 10, 3) := by decide +kernel
theorem dX4_build_36 : decode cX4_build 36 = .ok (.iconst 0, 1) := by decide +kernel
theorem dX4_build_37 : decode cX4_build 37 = .ok (.putfield 48, 3) := by decide +kernel
theorem dX4_build_40 : decode cX4_build 40 = .ok (.aload_n 0, 1) := by decide +kernel
theorem dX4_build_41 : decode cX4_build 41 = .ok (.getfield 10, 3) := by decide +kernel
theorem dX4_build_44 : decode cX4_build 44 = .ok (.invokevirtual 52, 3) := by decide +kernel
theorem dX4_build_47 : decode cX4_build 47 = .ok (.ireturn, 1) := by decide +kernel
theorem dX4_setClock_0 : decode cX4_setClock 0 = .ok (.iload_n 1, 1) := by decide +kernel
theorem dX4_setClock_1 : decode cX4_setClock 1 = .ok (.invokestatic 56, 3) := by decide +kernel
theorem dX4_setClock_4 : decode cX4_setClock 4 = .ok (.ifCond .ne 5, 3) := by decide +kernel
theorem dX4_setClock_7 : decode cX4_setClock 7 = .ok (.iconst (-1), 1) := by decide +kernel
theorem dX4_setClock_8 : decode cX4_setClock 8 = .ok (.ireturn, 1) := by decide +kernel
theorem dX4_setClock_9 : decode cX4_setClock 9 = .ok (.iload_n 2, 1) := by decide +kernel
theorem dX4_setClock_10 : decode cX4_setClock 10 = .ok (.iconst 1, 1) := by decide +kernel
theorem dX4_setClock_11 : decode cX4_setClock 11 = .ok (.bipush 50, 2) := by decide +kernel
theorem dX4_setClock_13 : decode cX4_setClock 13 = .ok (.invokestatic 36, 3) := by decide +kernel
theorem dX4_setClock_16 : decode cX4_setClock 16 = .ok (.ifCond .eq 13, 3) := by decide +kernel
theorem dX4_setClock_19 : decode cX4_setClock 19 = .ok (.iload_n 3, 1) := by decide +kernel
theorem dX4_setClock_20 : decode cX4_setClock 20 = .ok (.iconst 0, 1) := by decide +kernel
theorem dX4_setClock_21 : decode cX4_setClock 21 = .ok (.bipush 49, 2) := by decide +kernel
theorem dX4_setClock_23 : decode cX4_setClock 23 = .ok (.invokestatic 36, 3) := by decide +kernel
theorem dX4_setClock_26 : decode cX4_setClock 26 = .ok (.ifCond .ne 6, 3) := by decide +kernel
theorem dX4_setClock_29 : decode cX4_setClock 29 = .ok (.bipush (-2), 2) := by decide +kernel
theorem dX4_setClock_31 : decode cX4_setClock 31 = .ok (.ireturn, 1) := by decide +kernel
theorem dX4_setClock_32 : decode cX4_setClock 32 = .ok (.aload_n 0, 1) := by decide +kernel
theorem dX4_setClock_33 : decode cX4_setClock 33 = .ok (.getfield 10, 3) := by decide +kernel
theorem dX4_setClock_36 : decode cX4_setClock 36 = .ok (.iload_n 1, 1) := by decide +kernel
theorem dX4_setClock_37 : decode cX4_setClock 37 = .ok (.invokevirtual 60, 3) := by decide +kernel
theorem dX4_setClock_40 : decode cX4_setClock 40 = .ok (.astore 4, 2) := by decide +kernel
theorem dX4_setClock_42 : decode cX4_setClock 42 = .ok (.aload 4, 2) := by decide +kernel
theorem dX4_setClock_44 : decode cX4_setClock 44 = .ok (.getfield 64, 3) := by decide +kernel
theorem dX4_setClock_47 : decode cX4_setClock 47 = .ok (.iload_n 2, 1) := by decide +kernel
theorem dX4_setClock_48 : decode cX4_setClock 48 = .ok (.if_icmp .ne 15, 3) := by decide +kernel
theorem dX4_setClock_51 : decode cX4_setClock 51 = .ok (.aload 4, 2) := by decide +kernel
theorem dX4_setClock_53 : decode cX4_setClock 53 = .ok (.getfield 69, 3) := by decide +kernel
theorem dX4_setClock_56 : decode cX4_setClock 56 = .ok (.iload_n 3, 1) := by decide +kernel
theorem dX4_setClock_57 : decode cX4_setClock 57 = .ok (.if_icmp .ne 6, 3) := by decide +kernel
theorem dX4_setClock_60 : decode cX4_setClock 60 = .ok (.bipush (-5), 2) := by decide +kernel
theorem dX4_setClock_62 : decode cX4_setClock 62 = .ok (.ireturn, 1) := by decide +kernel
theorem dX4_setClock_63 : decode cX4_setClock 63 = .ok (.aload_n 0, 1) := by decide +kernel
theorem dX4_setClock_64 : decode cX4_setClock 64 = .ok (.getfield 25, 3) := by decide +kernel
theorem dX4_setClock_67 : decode cX4_setClock 67 = .ok (.aload_n 0, 1) := by decide +kernel
theorem dX4_setClock_68 : decode cX4_setClock 68 = .ok (.getfield 10, 3) := by decide +kernel
theorem dX4_setClock_71 : decode cX4_setClock 71 = .ok (.invokevirtual 40, 3) := by decide +kernel
theorem dX4_setClock_74 : decode cX4_setClock 74 = .ok (.aload 4, 2) := by decide +kernel
theorem dX4_setClock_76 : decode cX4_setClock 76 = .ok (.getfield 64, 3) := by decide +kernel
theorem dX4_setClock_79 : decode cX4_setClock 79 = .ok (.istore 5, 2) := by decide +kernel
theorem dX4_setClock_81 : decode cX4_setClock 81 = .ok (.aload 4, 2) := by decide +kernel
theorem dX4_setClock_83 : decode cX4_setClock 83 = .ok (.iload_n 2, 1) := by decide +kernel
theorem dX4_setClock_84 : decode cX4_setClock 84 = .ok (.putfield 64, 3) := by decide +kernel
theorem dX4_setClock_87 : decode cX4_setClock 87 = .ok (.aload 4, 2) := by decide +kernel
theorem dX4_setClock_89 : decode cX4_setClock 89 = .ok (.iload_n 3, 1) := by decide +kernel
theorem dX4_setClock_90 : decode cX4_setClock 90 = .ok (.putfield 69, 3) := by decide +kernel
theorem dX4_setClock_93 : decode cX4_setClock 93 = .ok (.iload 5, 2) := by decide +kernel
theorem dX4_setClock_95 : decode cX4_setClock 95 = .ok (.ireturn, 1) := by decide +kernel
theorem dX4_start_0 : decode cX4_start 0 = .ok (.iload_n 1, 1) := by decide +kernel
theorem dX4_start_1 : decode cX4_start 1 = .ok (.invokestatic 56, 3) := by decide +kernel
theorem dX4_start_4 : decode cX4_start 4 = .ok (.ifCond .ne 5, 3) := by decide +kernel
theorem dX4_start_7 : decode cX4_start 7 = .ok (.iconst (-1), 1) := by decide +kernel
theorem dX4_start_8 : decode cX4_start 8 = .ok (.ireturn, 1) := by decide +kernel
theorem dX4_start_9 : decode cX4_start 9 = .ok (.aload_n 0, 1) := by decide +kernel
theorem dX4_start_10 : decode cX4_start 10 = .ok (.getfield 10, 3) := by decide +kernel
theorem dX4_start_13 : decode cX4_start 13 = .ok (.iload_n 1, 1) := by decide +kernel
theorem dX4_start_14 : decode cX4_start 14 = .ok (.invokevirtual 60, 3) := by decide +kernel
theorem dX4_start_17 : decode cX4_start 17 = .ok (.astore_n 3, 1) := by decide +kernel
theorem dX4_start_18 : decode cX4_start 18 = .ok (.aload_n 3, 1) := by decide +kernel
theorem dX4_start_19 : decode cX4_start 19 = .ok (.getfield 72, 3) := by decide +kernel
theorem dX4_start_22 : decode cX4_start 22 = .ok (.iload_n 2, 1) := by decide +kernel
theorem dX4_start_23 : decode cX4_start 23 = .ok (.if_icmp .ne 6, 3) := by decide +kernel
theorem dX4_start_26 : decode cX4_start 26 = .ok (.bipush (-5), 2) := by decide +kernel
theorem dX4_start_28 : decode cX4_start 28 = .ok (.ireturn, 1) := by decide +kernel
theorem dX4_start_29 : decode cX4_start 29 = .ok (.aload_n 0, 1) := by decide +kernel
theorem dX4_start_30 : decode cX4_start 30 = .ok (.getfield 25, 3) := by decide +kernel
theorem dX4_start_33 : decode cX4_start 33 = .ok (.aload_n 0, 1) := by decide +kernel
theorem dX4_start_34 : decode cX4_start 34 = .ok (.getfield 10, 3) := by decide +kernel
theorem dX4_start_37 : decode cX4_start 37 = .ok (.invokevirtual 40, 3) := by decide +kernel
theorem dX4_start_40 : decode cX4_start 40 = .ok (.aload_n 3, 1) := by decide +kernel
theorem dX4_start_41 : decode cX4_start 41 = .ok (.iload_n 2, 1) := by decide +kernel
theorem dX4_start_42 : decode cX4_start 42 = .ok (.putfield 72, 3) := by decide +kernel
theorem dX4_start_45 : decode cX4_start 45 = .ok (.aload_n 0, 1) := by decide +kernel
theorem dX4_start_46 : decode cX4_start 46 = .ok (.getfield 10, 3) := by decide +kernel
theorem dX4_start_49 : decode cX4_start 49 = .ok (.getfield 76, 3) := by decide +kernel
theorem dX4_start_52 : decode cX4_start 52 = .ok (.ireturn, 1) := by decide +kernel
theorem dX4_set_0 : decode cX4_set 0 = .ok (.iload_n 1, 1) := by decide +kernel
theorem dX4_set_1 : decode cX4_set 1 = .ok (.iconst 0, 1) := by decide +kernel
theorem dX4_set_2 : decode cX4_set 2 = .ok (.iconst 1, 1) := by decide +kernel
theorem dX4_set_3 : decode cX4_set 3 = .ok (.invokestatic 36, 3) := by decide +kernel
theorem dX4_set_6 : decode cX4_set 6 = .ok (.ifCond .eq 13, 3) := by decide +kernel
theorem dX4_set_9 : decode cX4_set 9 = .ok (.iload_n 2, 1) := by decide +kernel
theorem dX4_set_10 : decode cX4_set 10 = .ok (.iconst 0, 1) := by decide +kernel
theorem dX4_set_11 : decode cX4_set 11 = .ok (.bipush 15, 2) := by decide +kernel
theorem dX4_set_13 : decode cX4_set 13 = .ok (.invokestatic 36, 3) := by decide +kernel
theorem dX4_set_16 : decode cX4_set 16 = .ok (.ifCond .ne 6, 3) := by decide +kernel
theorem dX4_set_19 : decode cX4_set 19 = .ok (.bipush (-2), 2) := by decide +kernel
theorem dX4_set_21 : decode cX4_set 21 = .ok (.ireturn, 1) := by decide +kernel
theorem dX4_set_22 : decode cX4_set 22 = .ok (.iload_n 1, 1) := by decide +kernel
theorem dX4_set_23 : decode cX4_set 23 = .ok (.ifCond .ne 13, 3) := by decide +kernel
theorem dX4_set_26 : decode cX4_set 26 = .ok (.aload_n 0, 1) := by decide +kernel
theorem dX4_set_27 : decode cX4_set 27 = .ok (.getfield 10, 3) := by decide +kernel
theorem dX4_set_30 : decode cX4_set 30 = .ok (.getfield 79, 3) := by decide +kernel
theorem dX4_set_33 : decode cX4_set 33 = .ok (.goto 10, 3) := by decide +kernel
theorem dX4_set_36 : decode cX4_set 36 = .ok (.aload_n 0, 1) := by decide +kernel
theorem dX4_set_37 : decode cX4_set 37 = .ok (.getfield 10, 3) := by decide +kernel
theorem dX4_set_40 : decode cX4_set 40 = .ok (.getfield 82, 3) := by decide +kernel
theorem dX4_set_43 : decode cX4_set 43 = .ok (.istore_n 3, 1) := by decide +kernel
theorem dX4_set_44 : decode cX4_set 44 = .ok (.iload_n 3, 1) := by decide +kernel
theorem dX4_set_45 : decode cX4_set 45 = .ok (.iload_n 2, 1) := by decide +kernel
theorem dX4_set_46 : decode cX4_set 46 = .ok (.if_icmp .ne 6, 3) := by decide +kernel
theorem dX4_set_49 : decode cX4_set 49 = .ok (.bipush (-5), 2) := by decide +kernel
theorem dX4_set_51 : decode cX4_set 51 = .ok (.ireturn, 1) := by decide +kernel
theorem dX4_set_52 : decode cX4_set 52 = .ok (.aload_n 0, 1) := by decide +kernel
theorem dX4_set_53 : decode cX4_set 53 = .ok (.getfield 25, 3) := by decide +kernel
theorem dX4_set_56 : decode cX4_set 56 = .ok (.aload_n 0, 1) := by decide +kernel
theorem dX4_set_57 : decode cX4_set 57 = .ok (.getfield 10, 3) := by decide +kernel
theorem dX4_set_60 : decode cX4_set 60 = .ok (.invokevirtual 40, 3) := by decide +kernel
theorem dX4_set_63 : decode cX4_set 63 = .ok (.iload_n 1, 1) := by decide +kernel
theorem dX4_set_64 : decode cX4_set 64 = .ok (.ifCond .ne 14, 3) := by decide +kernel
theorem dX4_set_67 : decode cX4_set 67 = .ok (.aload_n 0, 1) := by decide +kernel
theorem dX4_set_68 : decode cX4_set 68 = .ok (.getfield 10, 3) := by decide +kernel
theorem dX4_set_71 : decode cX4_set 71 = .ok (.iload_n 2, 1) := by decide +kernel
theorem dX4_set_72 : decode cX4_set 72 = .ok (.putfield 79, 3) := by decide +kernel
theorem dX4_set_75 : decode cX4_set 75 = .ok (.goto 11, 3) := by decide +kernel
theorem dX4_set_78 : decode cX4_set 78 = .ok (.aload_n 0, 1) := by decide +kernel
theorem dX4_set_79 : decode cX4_set 79 = .ok (.getfield 10, 3) := by decide +kernel
theorem dX4_set_82 : decode cX4_set 82 = .ok (.iload_n 2, 1) := by decide +kernel
theorem dX4_set_83 : decode cX4_set 83 = .ok (.putfield 82, 3) := by decide +kernel
theorem dX4_set_86 : decode cX4_set 86 = .ok (.iload_n 3, 1) := by decide +kernel
theorem dX4_set_87 : decode cX4_set 87 = .ok (.ireturn, 1) := by decide +kernel
theorem dX4_push_0 : decode cX4_push 0 = .ok (.iload_n 1, 1) := by decide +kernel
theorem dX4_push_1 : decode cX4_push 1 = .ok (.iconst 0, 1) := by decide +kernel
theorem dX4_push_2 : decode cX4_push 2 = .ok (.bipush 99, 2) := by decide +kernel
theorem dX4_push_4 : decode cX4_push 4 = .ok (.invokestatic 36, 3) := by decide +kernel
theorem dX4_push_7 : decode cX4_push 7 = .ok (.ifCond .ne 6, 3) := by decide +kernel
theorem dX4_push_10 : decode cX4_push 10 = .ok (.bipush (-2), 2) := by decide +kernel
theorem dX4_push_12 : decode cX4_push 12 = .ok (.ireturn, 1) := by decide +kernel
theorem dX4_push_13 : decode cX4_push 13 = .ok (.aload_n 0, 1) := by decide +kernel
theorem dX4_push_14 : decode cX4_push 14 = .ok (.getfield 10, 3) := by decide +kernel
theorem dX4_push_17 : decode cX4_push 17 = .ok (.getfield 48, 3) := by decide +kernel
theorem dX4_push_20 : decode cX4_push 20 = .ok (.bipush 20, 2) := by decide +kernel
theorem dX4_push_22 : decode cX4_push 22 = .ok (.if_icmp .lt 6, 3) := by decide +kernel
theorem dX4_push_25 : decode cX4_push 25 = .ok (.bipush (-3), 2) := by decide +kernel
theorem dX4_push_27 : decode cX4_push 27 = .ok (.ireturn, 1) := by decide +kernel
theorem dX4_push_28 : decode cX4_push 28 = .ok (.aload_n 0, 1) := by decide +kernel
theorem dX4_push_29 : decode cX4_push 29 = .ok (.getfield 25, 3) := by decide +kernel
theorem dX4_push_32 : decode cX4_push 32 = .ok (.aload_n 0, 1) := by decide +kernel
theorem dX4_push_33 : decode cX4_push 33 = .ok (.getfield 10, 3) := by decide +kernel
theorem dX4_push_36 : decode cX4_push 36 = .ok (.invokevirtual 40, 3) := by decide +kernel
theorem dX4_push_39 : decode cX4_push 39 = .ok (.aload_n 0, 1) := by decide +kernel
theorem dX4_push_40 : decode cX4_push 40 = .ok (.getfield 10, 3) := by decide +kernel
theorem dX4_push_43 : decode cX4_push 43 = .ok (.iload_n 1, 1) := by decide +kernel
theorem dX4_push_44 : decode cX4_push 44 = .ok (.iconst 1, 1) := by decide +kernel
theorem dX4_push_45 : decode cX4_push 45 = .ok (.invokevirtual 85, 3) := by decide +kernel
theorem dX4_push_48 : decode cX4_push 48 = .ok (.pop, 1) := by decide +kernel
theorem dX4_push_49 : decode cX4_push 49 = .ok (.aload_n 0, 1) := by decide +kernel
theorem dX4_push_50 : decode cX4_push 50 = .ok (.getfield 10, 3) := by decide +kernel
theorem dX4_push_53 : decode cX4_push 53 = .ok (.getfield 48, 3) := by decide +kernel
theorem dX4_push_56 : decode cX4_push 56 = .ok (.ireturn, 1) := by decide +kernel
theorem dX4_pushAll_0 : decode cX4_pushAll 0 = .ok (.aload_n 0, 1) := by decide +kernel
theorem dX4_pushAll_1 : decode cX4_pushAll 1 = .ok (.getfield 32, 3) := by decide +kernel
theorem dX4_pushAll_4 : decode cX4_pushAll 4 = .ok (.invokevirtual 89, 3) := by decide +kernel
theorem dX4_pushAll_7 : decode cX4_pushAll 7 = .ok (.istore_n 1, 1) := by decide +kernel
theorem dX4_pushAll_8 : decode cX4_pushAll 8 = .ok (.iload_n 1, 1) := by decide +kernel
theorem dX4_pushAll_9 : decode cX4_pushAll 9 = .ok (.iconst (-1), 1) := by decide +kernel
theorem dX4_pushAll_10 : decode cX4_pushAll 10 = .ok (.if_icmp .eq 8, 3) := by decide +kernel
theorem dX4_pushAll_13 : decode cX4_pushAll 13 = .ok (.bipush (-100), 2) := by decide +kernel
theorem dX4_pushAll_15 : decode cX4_pushAll 15 = .ok (.iload_n 1, 1) := by decide +kernel
theorem dX4_pushAll_16 : decode cX4_pushAll 16 = .ok (.isub, 1) := by decide +kernel
theorem dX4_pushAll_17 : decode cX4_pushAll 17 = .ok (.ireturn, 1) := by decide +kernel
theorem dX4_pushAll_18 : decode cX4_pushAll 18 = .ok (.aload_n 0, 1) := by decide +kernel
theorem dX4_pushAll_19 : decode cX4_pushAll 19 = .ok (.getfield 16, 3) := by decide +kernel
theorem dX4_pushAll_22 : decode cX4_pushAll 22 = .ok (.aload_n 0, 1) := by decide +kernel
theorem dX4_pushAll_23 : decode cX4_pushAll 23 = .ok (.getfield 10, 3) := by decide +kernel
theorem dX4_pushAll_26 : decode cX4_pushAll 26 = .ok (.invokevirtual 92, 3) := by decide +kernel
theorem dX4_pushAll_29 : decode cX4_pushAll 29 = .ok (.aload_n 0, 1) := by decide +kernel
theorem dX4_pushAll_30 : decode cX4_pushAll 30 = .ok (.getfield 16, 3) := by decide +kernel
theorem dX4_pushAll_33 : decode cX4_pushAll 33 = .ok (.aload_n 0, 1) := by decide +kernel
theorem dX4_pushAll_34 : decode cX4_pushAll 34 = .ok (.getfield 32, 3) := by decide +kernel
theorem dX4_pushAll_37 : decode cX4_pushAll 37 = .ok (.invokevirtual 95, 3) := by decide +kernel
theorem dX4_pushAll_40 : decode cX4_pushAll 40 = .ok (.ifCond .ne 6, 3) := by decide +kernel
theorem dX4_pushAll_43 : decode cX4_pushAll 43 = .ok (.bipush (-3), 2) := by decide +kernel
theorem dX4_pushAll_45 : decode cX4_pushAll 45 = .ok (.ireturn, 1) := by decide +kernel
theorem dX4_pushAll_46 : decode cX4_pushAll 46 = .ok (.aload_n 0, 1) := by decide +kernel
theorem dX4_pushAll_47 : decode cX4_pushAll 47 = .ok (.getfield 25, 3) := by decide +kernel
theorem dX4_pushAll_50 : decode cX4_pushAll 50 = .ok (.aload_n 0, 1) := by decide +kernel
theorem dX4_pushAll_51 : decode cX4_pushAll 51 = .ok (.getfield 10, 3) := by decide +kernel
theorem dX4_pushAll_54 : decode cX4_pushAll 54 = .ok (.invokevirtual 40, 3) := by decide +kernel
theorem dX4_pushAll_57 : decode cX4_pushAll 57 = .ok (.aload_n 0, 1) := by decide +kernel
theorem dX4_pushAll_58 : decode cX4_pushAll 58 = .ok (.getfield 10, 3) := by decide +kernel
theorem dX4_pushAll_61 : decode cX4_pushAll 61 = .ok (.aload_n 0, 1) := by decide +kernel
theorem dX4_pushAll_62 : decode cX4_pushAll 62 = .ok (.getfield 16, 3) := by decide +kernel
theorem dX4_pushAll_65 : decode cX4_pushAll 65 = .ok (.invokevirtual 92, 3) := by decide +kernel
theorem dX4_pushAll_68 : decode cX4_pushAll 68 = .ok (.aload_n 0, 1) := by decide +kernel
theorem dX4_pushAll_69 : decode cX4_pushAll 69 = .ok (.getfield 32, 3) := by decide +kernel
theorem dX4_pushAll_72 : decode cX4_pushAll 72 = .ok (.invokevirtual 99, 3) := by decide +kernel
theorem dX4_pushAll_75 : decode cX4_pushAll 75 = .ok (.ireturn, 1) := by decide +kernel
theorem dX4_pass_0 : decode cX4_pass 0 = .ok (.iload_n 1, 1) := by decide +kernel
theorem dX4_pass_1 : decode cX4_pass 1 = .ok (.iconst 1, 1) := by decide +kernel
theorem dX4_pass_2 : decode cX4_pass 2 = .ok (.sipush 500, 3) := by decide +kernel
theorem dX4_pass_5 : decode cX4_pass 5 = .ok (.invokestatic 36, 3) := by decide +kernel
theorem dX4_pass_8 : decode cX4_pass 8 = .ok (.ifCond .ne 6, 3) := by decide +kernel
theorem dX4_pass_11 : decode cX4_pass 11 = .ok (.bipush (-2), 2) := by decide +kernel
theorem dX4_pass_13 : decode cX4_pass 13 = .ok (.ireturn, 1) := by decide +kernel
theorem dX4_pass_14 : decode cX4_pass 14 = .ok (.aload_n 0, 1) := by decide +kernel
theorem dX4_pass_15 : decode cX4_pass 15 = .ok (.getfield 10, 3) := by decide +kernel
theorem dX4_pass_18 : decode cX4_pass 18 = .ok (.iload_n 1, 1) := by decide +kernel
theorem dX4_pass_19 : decode cX4_pass 19 = .ok (.invokevirtual 102, 3) := by decide +kernel
theorem dX4_pass_22 : decode cX4_pass 22 = .ok (.ifCond .ne 6, 3) := by decide +kernel
theorem dX4_pass_25 : decode cX4_pass 25 = .ok (.bipush (-3), 2) := by decide +kernel
theorem dX4_pass_27 : decode cX4_pass 27 = .ok (.ireturn, 1) := by decide +kernel
theorem dX4_pass_28 : decode cX4_pass 28 = .ok (.aload_n 0, 1) := by decide +kernel
theorem dX4_pass_29 : decode cX4_pass 29 = .ok (.getfield 25, 3) := by decide +kernel
theorem dX4_pass_32 : decode cX4_pass 32 = .ok (.aload_n 0, 1) := by decide +kernel
theorem dX4_pass_33 : decode cX4_pass 33 = .ok (.getfield 10, 3) := by decide +kernel
theorem dX4_pass_36 : decode cX4_pass 36 = .ok (.invokevirtual 40, 3) := by decide +kernel
theorem dX4_pass_39 : decode cX4_pass 39 = .ok (.aload_n 0, 1) := by decide +kernel
theorem dX4_pass_40 : decode cX4_pass 40 = .ok (.getfield 10, 3) := by decide +kernel
theorem dX4_pass_43 : decode cX4_pass 43 = .ok (.getfield 105, 3) := by decide +kernel
theorem dX4_pass_46 : decode cX4_pass 46 = .ok (.istore_n 2, 1) := by decide +kernel
theorem dX4_pass_47 : decode cX4_pass 47 = .ok (.aload_n 0, 1) := by decide +kernel
theorem dX4_pass_48 : decode cX4_pass 48 = .ok (.getfield 10, 3) := by decide +kernel
theorem dX4_pass_51 : decode cX4_pass 51 = .ok (.iload_n 1, 1) := by decide +kernel
theorem dX4_pass_52 : decode cX4_pass 52 = .ok (.invokevirtual 108, 3) := by decide +kernel
theorem dX4_pass_55 : decode cX4_pass 55 = .ok (.aload_n 0, 1) := by decide +kernel
theorem dX4_pass_56 : decode cX4_pass 56 = .ok (.getfield 10, 3) := by decide +kernel
theorem dX4_pass_59 : decode cX4_pass 59 = .ok (.getfield 105, 3) := by decide +kernel
theorem dX4_pass_62 : decode cX4_pass 62 = .ok (.iload_n 2, 1) := by decide +kernel
theorem dX4_pass_63 : decode cX4_pass 63 = .ok (.isub, 1) := by decide +kernel
theorem dX4_pass_64 : decode cX4_pass 64 = .ok (.ireturn, 1) := by decide +kernel
theorem dX4_type_0 : decode cX4_type 0 = .ok (.aload_n 0, 1) := by decide +kernel
theorem dX4_type_1 : decode cX4_type 1 = .ok (.getfield 32, 3) := by decide +kernel
theorem dX4_type_4 : decode cX4_type 4 = .ok (.iload_n 1, 1) := by decide +kernel
theorem dX4_type_5 : decode cX4_type 5 = .ok (.invokevirtual 112, 3) := by decide +kernel
theorem dX4_type_8 : decode cX4_type 8 = .ok (.ifCond .eq 13, 3) := by decide +kernel
theorem dX4_type_11 : decode cX4_type 11 = .ok (.aload_n 0, 1) := by decide +kernel
theorem dX4_type_12 : decode cX4_type 12 = .ok (.getfield 32, 3) := by decide +kernel
theorem dX4_type_15 : decode cX4_type 15 = .ok (.getfield 116, 3) := by decide +kernel
theorem dX4_type_18 : decode cX4_type 18 = .ok (.goto 5, 3) := by decide +kernel
theorem dX4_type_21 : decode cX4_type 21 = .ok (.bipush (-3), 2) := by decide +kernel
theorem dX4_type_23 : decode cX4_type 23 = .ok (.ireturn, 1) := by decide +kernel
theorem dX4_clearText_0 : decode cX4_clearText 0 = .ok (.aload_n 0, 1) := by decide +kernel
theorem dX4_clearText_1 : decode cX4_clearText 1 = .ok (.getfield 32, 3) := by decide +kernel
theorem dX4_clearText_4 : decode cX4_clearText 4 = .ok (.getfield 116, 3) := by decide +kernel
theorem dX4_clearText_7 : decode cX4_clearText 7 = .ok (.istore_n 1, 1) := by decide +kernel
theorem dX4_clearText_8 : decode cX4_clearText 8 = .ok (.aload_n 0, 1) := by decide +kernel
theorem dX4_clearText_9 : decode cX4_clearText 9 = .ok (.getfield 32, 3) := by decide +kernel
theorem dX4_clearText_12 : decode cX4_clearText 12 = .ok (.iconst 0, 1) := by decide +kernel
theorem dX4_clearText_13 : decode cX4_clearText 13 = .ok (.putfield 116, 3) := by decide +kernel
theorem dX4_clearText_16 : decode cX4_clearText 16 = .ok (.iload_n 1, 1) := by decide +kernel
theorem dX4_clearText_17 : decode cX4_clearText 17 = .ok (.ireturn, 1) := by decide +kernel
theorem dX4_undo_0 : decode cX4_undo 0 = .ok (.aload_n 0, 1) := by decide +kernel
theorem dX4_undo_1 : decode cX4_undo 1 = .ok (.getfield 25, 3) := by decide +kernel
theorem dX4_undo_4 : decode cX4_undo 4 = .ok (.aload_n 0, 1) := by decide +kernel
theorem dX4_undo_5 : decode cX4_undo 5 = .ok (.getfield 10, 3) := by decide +kernel
theorem dX4_undo_8 : decode cX4_undo 8 = .ok (.invokevirtual 119, 3) := by decide +kernel
theorem dX4_undo_11 : decode cX4_undo 11 = .ok (.ifCond .eq 13, 3) := by decide +kernel
theorem dX4_undo_14 : decode cX4_undo 14 = .ok (.aload_n 0, 1) := by decide +kernel
theorem dX4_undo_15 : decode cX4_undo 15 = .ok (.getfield 25, 3) := by decide +kernel
theorem dX4_undo_18 : decode cX4_undo 18 = .ok (.getfield 123, 3) := by decide +kernel
theorem dX4_undo_21 : decode cX4_undo 21 = .ok (.goto 5, 3) := by decide +kernel
theorem dX4_undo_24 : decode cX4_undo 24 = .ok (.bipush (-5), 2) := by decide +kernel
theorem dX4_undo_26 : decode cX4_undo 26 = .ok (.ireturn, 1) := by decide +kernel
theorem dX4_keep_0 : decode cX4_keep 0 = .ok (.aload_n 0, 1) := by decide +kernel
theorem dX4_keep_1 : decode cX4_keep 1 = .ok (.getfield 19, 3) := by decide +kernel
theorem dX4_keep_4 : decode cX4_keep 4 = .ok (.aload_n 0, 1) := by decide +kernel
theorem dX4_keep_5 : decode cX4_keep 5 = .ok (.getfield 10, 3) := by decide +kernel
theorem dX4_keep_8 : decode cX4_keep 8 = .ok (.invokevirtual 92, 3) := by decide +kernel
theorem dX4_keep_11 : decode cX4_keep 11 = .ok (.aload_n 0, 1) := by decide +kernel
theorem dX4_keep_12 : decode cX4_keep 12 = .ok (.iconst 1, 1) := by decide +kernel
theorem dX4_keep_13 : decode cX4_keep 13 = .ok (.putfield 126, 3) := by decide +kernel
theorem dX4_keep_16 : decode cX4_keep 16 = .ok (.aload_n 0, 1) := by decide +kernel
theorem dX4_keep_17 : decode cX4_keep 17 = .ok (.getfield 10, 3) := by decide +kernel
theorem dX4_keep_20 : decode cX4_keep 20 = .ok (.getfield 76, 3) := by decide +kernel
theorem dX4_keep_23 : decode cX4_keep 23 = .ok (.ireturn, 1) := by decide +kernel
theorem dX4_restore_0 : decode cX4_restore 0 = .ok (.aload_n 0, 1) := by decide +kernel
theorem dX4_restore_1 : decode cX4_restore 1 = .ok (.getfield 126, 3) := by decide +kernel
theorem dX4_restore_4 : decode cX4_restore 4 = .ok (.ifCond .ne 6, 3) := by decide +kernel
theorem dX4_restore_7 : decode cX4_restore 7 = .ok (.bipush (-5), 2) := by decide +kernel
theorem dX4_restore_9 : decode cX4_restore 9 = .ok (.ireturn, 1) := by decide +kernel
theorem dX4_restore_10 : decode cX4_restore 10 = .ok (.aload_n 0, 1) := by decide +kernel
theorem dX4_restore_11 : decode cX4_restore 11 = .ok (.getfield 25, 3) := by decide +kernel
theorem dX4_restore_14 : decode cX4_restore 14 = .ok (.aload_n 0, 1) := by decide +kernel
theorem dX4_restore_15 : decode cX4_restore 15 = .ok (.getfield 10, 3) := by decide +kernel
theorem dX4_restore_18 : decode cX4_restore 18 = .ok (.invokevirtual 40, 3) := by decide +kernel
theorem dX4_restore_21 : decode cX4_restore 21 = .ok (.aload_n 0, 1) := by decide +kernel
theorem dX4_restore_22 : decode cX4_restore 22 = .ok (.getfield 10, 3) := by decide +kernel
theorem dX4_restore_25 : decode cX4_restore 25 = .ok (.aload_n 0, 1) := by decide +kernel
theorem dX4_restore_26 : decode cX4_restore 26 = .ok (.getfield 19, 3) := by decide +kernel
theorem dX4_restore_29 : decode cX4_restore 29 = .ok (.invokevirtual 92, 3) := by decide +kernel
theorem dX4_restore_32 : decode cX4_restore 32 = .ok (.aload_n 0, 1) := by decide +kernel
theorem dX4_restore_33 : decode cX4_restore 33 = .ok (.getfield 10, 3) := by decide +kernel
theorem dX4_restore_36 : decode cX4_restore 36 = .ok (.getfield 76, 3) := by decide +kernel
theorem dX4_restore_39 : decode cX4_restore 39 = .ok (.ireturn, 1) := by decide +kernel
theorem dX4_side_0 : decode cX4_side 0 = .ok (.iload_n 1, 1) := by decide +kernel
theorem dX4_side_1 : decode cX4_side 1 = .ok (.invokestatic 56, 3) := by decide +kernel
theorem dX4_side_4 : decode cX4_side 4 = .ok (.ifCond .ne 5, 3) := by decide +kernel
theorem dX4_side_7 : decode cX4_side 7 = .ok (.iconst (-1), 1) := by decide +kernel
theorem dX4_side_8 : decode cX4_side 8 = .ok (.ireturn, 1) := by decide +kernel
theorem dX4_side_9 : decode cX4_side 9 = .ok (.aload_n 0, 1) := by decide +kernel
theorem dX4_side_10 : decode cX4_side 10 = .ok (.getfield 10, 3) := by decide +kernel
theorem dX4_side_13 : decode cX4_side 13 = .ok (.iload_n 1, 1) := by decide +kernel
theorem dX4_side_14 : decode cX4_side 14 = .ok (.invokevirtual 60, 3) := by decide +kernel
theorem dX4_side_17 : decode cX4_side 17 = .ok (.astore_n 3, 1) := by decide +kernel
theorem dX4_side_18 : decode cX4_side 18 = .ok (.iload_n 2, 1) := by decide +kernel
theorem dX4_side_19 : decode cX4_side 19 = .ok (.tableswitch 220 0 13 #[69, 74, 79, 87, 92, 104, 109, 114, 126, 148, 173, 198, 210, 215], 69) := by decide +kernel
theorem dX4_side_88 : decode cX4_side 88 = .ok (.aload_n 3, 1) := by decide +kernel
theorem dX4_side_89 : decode cX4_side 89 = .ok (.getfield 64, 3) := by decide +kernel
theorem dX4_side_92 : decode cX4_side 92 = .ok (.ireturn, 1) := by decide +kernel
theorem dX4_side_93 : decode cX4_side 93 = .ok (.aload_n 3, 1) := by decide +kernel
theorem dX4_side_94 : decode cX4_side 94 = .ok (.getfield 69, 3) := by decide +kernel
theorem dX4_side_97 : decode cX4_side 97 = .ok (.ireturn, 1) := by decide +kernel
theorem dX4_side_98 : decode cX4_side 98 = .ok (.aload_n 3, 1) := by decide +kernel
theorem dX4_side_99 : decode cX4_side 99 = .ok (.getfield 72, 3) := by decide +kernel
theorem dX4_side_102 : decode cX4_side 102 = .ok (.invokestatic 129, 3) := by decide +kernel
theorem dX4_side_105 : decode cX4_side 105 = .ok (.ireturn, 1) := by decide +kernel
theorem dX4_side_106 : decode cX4_side 106 = .ok (.aload_n 3, 1) := by decide +kernel
theorem dX4_side_107 : decode cX4_side 107 = .ok (.getfield 133, 3) := by decide +kernel
theorem dX4_side_110 : decode cX4_side 110 = .ok (.ireturn, 1) := by decide +kernel
theorem dX4_side_111 : decode cX4_side 111 = .ok (.aload_n 0, 1) := by decide +kernel
theorem dX4_side_112 : decode cX4_side 112 = .ok (.getfield 10, 3) := by decide +kernel
theorem dX4_side_115 : decode cX4_side 115 = .ok (.aload_n 3, 1) := by decide +kernel
theorem dX4_side_116 : decode cX4_side 116 = .ok (.getfield 133, 3) := by decide +kernel
theorem dX4_side_119 : decode cX4_side 119 = .ok (.invokevirtual 136, 3) := by decide +kernel
theorem dX4_side_122 : decode cX4_side 122 = .ok (.ireturn, 1) := by decide +kernel
theorem dX4_side_123 : decode cX4_side 123 = .ok (.aload_n 3, 1) := by decide +kernel
theorem dX4_side_124 : decode cX4_side 124 = .ok (.getfield 140, 3) := by decide +kernel
theorem dX4_side_127 : decode cX4_side 127 = .ok (.ireturn, 1) := by decide +kernel
theorem dX4_side_128 : decode cX4_side 128 = .ok (.aload_n 3, 1) := by decide +kernel
theorem dX4_side_129 : decode cX4_side 129 = .ok (.getfield 143, 3) := by decide +kernel
theorem dX4_side_132 : decode cX4_side 132 = .ok (.ireturn, 1) := by decide +kernel
theorem dX4_side_133 : decode cX4_side 133 = .ok (.aload_n 0, 1) := by decide +kernel
theorem dX4_side_134 : decode cX4_side 134 = .ok (.getfield 10, 3) := by decide +kernel
theorem dX4_side_137 : decode cX4_side 137 = .ok (.aload_n 3, 1) := by decide +kernel
theorem dX4_side_138 : decode cX4_side 138 = .ok (.getfield 143, 3) := by decide +kernel
theorem dX4_side_141 : decode cX4_side 141 = .ok (.invokevirtual 146, 3) := by decide +kernel
theorem dX4_side_144 : decode cX4_side 144 = .ok (.ireturn, 1) := by decide +kernel
theorem dX4_side_145 : decode cX4_side 145 = .ok (.iload_n 1, 1) := by decide +kernel
theorem dX4_side_146 : decode cX4_side 146 = .ok (.ifCond .ne 13, 3) := by decide +kernel
theorem dX4_side_149 : decode cX4_side 149 = .ok (.aload_n 0, 1) := by decide +kernel
theorem dX4_side_150 : decode cX4_side 150 = .ok (.getfield 10, 3) := by decide +kernel
theorem dX4_side_153 : decode cX4_side 153 = .ok (.invokevirtual 149, 3) := by decide +kernel
theorem dX4_side_156 : decode cX4_side 156 = .ok (.goto 10, 3) := by decide +kernel
theorem dX4_side_159 : decode cX4_side 159 = .ok (.aload_n 0, 1) := by decide +kernel
theorem dX4_side_160 : decode cX4_side 160 = .ok (.getfield 10, 3) := by decide +kernel
theorem dX4_side_163 : decode cX4_side 163 = .ok (.invokevirtual 152, 3) := by decide +kernel
theorem dX4_side_166 : decode cX4_side 166 = .ok (.ireturn, 1) := by decide +kernel
theorem dX4_side_167 : decode cX4_side 167 = .ok (.iload_n 1, 1) := by decide +kernel
theorem dX4_side_168 : decode cX4_side 168 = .ok (.ifCond .ne 13, 3) := by decide +kernel
theorem dX4_side_171 : decode cX4_side 171 = .ok (.aload_n 0, 1) := by decide +kernel
theorem dX4_side_172 : decode cX4_side 172 = .ok (.getfield 10, 3) := by decide +kernel
theorem dX4_side_175 : decode cX4_side 175 = .ok (.invokevirtual 155, 3) := by decide +kernel
theorem dX4_side_178 : decode cX4_side 178 = .ok (.goto 10, 3) := by decide +kernel
theorem dX4_side_181 : decode cX4_side 181 = .ok (.aload_n 0, 1) := by decide +kernel
theorem dX4_side_182 : decode cX4_side 182 = .ok (.getfield 10, 3) := by decide +kernel
theorem dX4_side_185 : decode cX4_side 185 = .ok (.invokevirtual 159, 3) := by decide +kernel
theorem dX4_side_188 : decode cX4_side 188 = .ok (.invokestatic 129, 3) := by decide +kernel
theorem dX4_side_191 : decode cX4_side 191 = .ok (.ireturn, 1) := by decide +kernel
theorem dX4_side_192 : decode cX4_side 192 = .ok (.iload_n 1, 1) := by decide +kernel
theorem dX4_side_193 : decode cX4_side 193 = .ok (.ifCond .ne 13, 3) := by decide +kernel
theorem dX4_side_196 : decode cX4_side 196 = .ok (.aload_n 0, 1) := by decide +kernel
theorem dX4_side_197 : decode cX4_side 197 = .ok (.getfield 10, 3) := by decide +kernel
theorem dX4_side_200 : decode cX4_side 200 = .ok (.invokevirtual 162, 3) := by decide +kernel
theorem dX4_side_203 : decode cX4_side 203 = .ok (.goto 10, 3) := by decide +kernel
theorem dX4_side_206 : decode cX4_side 206 = .ok (.aload_n 0, 1) := by decide +kernel
theorem dX4_side_207 : decode cX4_side 207 = .ok (.getfield 10, 3) := by decide +kernel
theorem dX4_side_210 : decode cX4_side 210 = .ok (.invokevirtual 165, 3) := by decide +kernel
theorem dX4_side_213 : decode cX4_side 213 = .ok (.invokestatic 129, 3) := by decide +kernel
theorem dX4_side_216 : decode cX4_side 216 = .ok (.ireturn, 1) := by decide +kernel
theorem dX4_side_217 : decode cX4_side 217 = .ok (.aload_n 3, 1) := by decide +kernel
theorem dX4_side_218 : decode cX4_side 218 = .ok (.aload_n 0, 1) := by decide +kernel
theorem dX4_side_219 : decode cX4_side 219 = .ok (.getfield 10, 3) := by decide +kernel
theorem dX4_side_222 : decode cX4_side 222 = .ok (.getfield 76, 3) := by decide +kernel
theorem dX4_side_225 : decode cX4_side 225 = .ok (.invokevirtual 168, 3) := by decide +kernel
theorem dX4_side_228 : decode cX4_side 228 = .ok (.ireturn, 1) := by decide +kernel
theorem dX4_side_229 : decode cX4_side 229 = .ok (.aload_n 3, 1) := by decide +kernel
theorem dX4_side_230 : decode cX4_side 230 = .ok (.getfield 171, 3) := by decide +kernel
theorem dX4_side_233 : decode cX4_side 233 = .ok (.ireturn, 1) := by decide +kernel
theorem dX4_side_234 : decode cX4_side 234 = .ok (.aload_n 3, 1) := by decide +kernel
theorem dX4_side_235 : decode cX4_side 235 = .ok (.getfield 174, 3) := by decide +kernel
theorem dX4_side_238 : decode cX4_side 238 = .ok (.ireturn, 1) := by decide +kernel
theorem dX4_side_239 : decode cX4_side 239 = .ok (.bipush (-2), 2) := by decide +kernel
theorem dX4_side_241 : decode cX4_side 241 = .ok (.ireturn, 1) := by decide +kernel
theorem dX4_place_0 : decode cX4_place 0 = .ok (.iload_n 1, 1) := by decide +kernel
theorem dX4_place_1 : decode cX4_place 1 = .ok (.iconst 0, 1) := by decide +kernel
theorem dX4_place_2 : decode cX4_place 2 = .ok (.aload_n 0, 1) := by decide +kernel
theorem dX4_place_3 : decode cX4_place 3 = .ok (.getfield 10, 3) := by decide +kernel
theorem dX4_place_6 : decode cX4_place 6 = .ok (.invokevirtual 52, 3) := by decide +kernel
theorem dX4_place_9 : decode cX4_place 9 = .ok (.iconst 1, 1) := by decide +kernel
theorem dX4_place_10 : decode cX4_place 10 = .ok (.isub, 1) := by decide +kernel
theorem dX4_place_11 : decode cX4_place 11 = .ok (.invokestatic 36, 3) := by decide +kernel
theorem dX4_place_14 : decode cX4_place 14 = .ok (.ifCond .ne 5, 3) := by decide +kernel
theorem dX4_place_17 : decode cX4_place 17 = .ok (.iconst (-1), 1) := by decide +kernel
theorem dX4_place_18 : decode cX4_place 18 = .ok (.ireturn, 1) := by decide +kernel
theorem dX4_place_19 : decode cX4_place 19 = .ok (.iload_n 2, 1) := by decide +kernel
theorem dX4_place_20 : decode cX4_place 20 = .ok (.lookupswitch 52 #[(0, 28), (1, 40)], 28) := by decide +kernel
theorem dX4_place_48 : decode cX4_place 48 = .ok (.aload_n 0, 1) := by decide +kernel
theorem dX4_place_49 : decode cX4_place 49 = .ok (.getfield 10, 3) := by decide +kernel
theorem dX4_place_52 : decode cX4_place 52 = .ok (.getfield 177, 3) := by decide +kernel
theorem dX4_place_55 : decode cX4_place 55 = .ok (.iload_n 1, 1) := by decide +kernel
theorem dX4_place_56 : decode cX4_place 56 = .ok (.invokestatic 181, 3) := by decide +kernel
theorem dX4_place_59 : decode cX4_place 59 = .ok (.ireturn, 1) := by decide +kernel
theorem dX4_place_60 : decode cX4_place 60 = .ok (.aload_n 0, 1) := by decide +kernel
theorem dX4_place_61 : decode cX4_place 61 = .ok (.getfield 10, 3) := by decide +kernel
theorem dX4_place_64 : decode cX4_place 64 = .ok (.getfield 185, 3) := by decide +kernel
theorem dX4_place_67 : decode cX4_place 67 = .ok (.iload_n 1, 1) := by decide +kernel
theorem dX4_place_68 : decode cX4_place 68 = .ok (.invokestatic 181, 3) := by decide +kernel
theorem dX4_place_71 : decode cX4_place 71 = .ok (.ireturn, 1) := by decide +kernel
theorem dX4_place_72 : decode cX4_place 72 = .ok (.bipush (-2), 2) := by decide +kernel
theorem dX4_place_74 : decode cX4_place 74 = .ok (.ireturn, 1) := by decide +kernel
theorem dX4_waiting_0 : decode cX4_waiting 0 = .ok (.iload_n 1, 1) := by decide +kernel
theorem dX4_waiting_1 : decode cX4_waiting 1 = .ok (.ifCond .ge 6, 3) := by decide +kernel
theorem dX4_waiting_4 : decode cX4_waiting 4 = .ok (.bipush (-2), 2) := by decide +kernel
theorem dX4_waiting_6 : decode cX4_waiting 6 = .ok (.ireturn, 1) := by decide +kernel
theorem dX4_waiting_7 : decode cX4_waiting 7 = .ok (.iload_n 1, 1) := by decide +kernel
theorem dX4_waiting_8 : decode cX4_waiting 8 = .ok (.aload_n 0, 1) := by decide +kernel
theorem dX4_waiting_9 : decode cX4_waiting 9 = .ok (.getfield 10, 3) := by decide +kernel
theorem dX4_waiting_12 : decode cX4_waiting 12 = .ok (.getfield 48, 3) := by decide +kernel
theorem dX4_waiting_15 : decode cX4_waiting 15 = .ok (.if_icmp .ge 17, 3) := by decide +kernel
theorem dX4_waiting_18 : decode cX4_waiting 18 = .ok (.aload_n 0, 1) := by decide +kernel
theorem dX4_waiting_19 : decode cX4_waiting 19 = .ok (.getfield 10, 3) := by decide +kernel
theorem dX4_waiting_22 : decode cX4_waiting 22 = .ok (.getfield 188, 3) := by decide +kernel
theorem dX4_waiting_25 : decode cX4_waiting 25 = .ok (.iload_n 1, 1) := by decide +kernel
theorem dX4_waiting_26 : decode cX4_waiting 26 = .ok (.invokestatic 181, 3) := by decide +kernel
theorem dX4_waiting_29 : decode cX4_waiting 29 = .ok (.goto 5, 3) := by decide +kernel
theorem dX4_waiting_32 : decode cX4_waiting 32 = .ok (.bipush (-5), 2) := by decide +kernel
theorem dX4_waiting_34 : decode cX4_waiting 34 = .ok (.ireturn, 1) := by decide +kernel
theorem dX4_taken_0 : decode cX4_taken 0 = .ok (.iload_n 1, 1) := by decide +kernel
theorem dX4_taken_1 : decode cX4_taken 1 = .ok (.ifCond .ge 6, 3) := by decide +kernel
theorem dX4_taken_4 : decode cX4_taken 4 = .ok (.bipush (-2), 2) := by decide +kernel
theorem dX4_taken_6 : decode cX4_taken 6 = .ok (.ireturn, 1) := by decide +kernel
theorem dX4_taken_7 : decode cX4_taken 7 = .ok (.aload_n 0, 1) := by decide +kernel
theorem dX4_taken_8 : decode cX4_taken 8 = .ok (.getfield 10, 3) := by decide +kernel
theorem dX4_taken_11 : decode cX4_taken 11 = .ok (.iload_n 1, 1) := by decide +kernel
theorem dX4_taken_12 : decode cX4_taken 12 = .ok (.invokevirtual 191, 3) := by decide +kernel
theorem dX4_taken_15 : decode cX4_taken 15 = .ok (.ireturn, 1) := by decide +kernel
theorem dX4_doneIn_0 : decode cX4_doneIn 0 = .ok (.aload_n 0, 1) := by decide +kernel
theorem dX4_doneIn_1 : decode cX4_doneIn 1 = .ok (.getfield 16, 3) := by decide +kernel
theorem dX4_doneIn_4 : decode cX4_doneIn 4 = .ok (.aload_n 0, 1) := by decide +kernel
theorem dX4_doneIn_5 : decode cX4_doneIn 5 = .ok (.getfield 10, 3) := by decide +kernel
theorem dX4_doneIn_8 : decode cX4_doneIn 8 = .ok (.invokevirtual 92, 3) := by decide +kernel
theorem dX4_doneIn_11 : decode cX4_doneIn 11 = .ok (.iconst 0, 1) := by decide +kernel
theorem dX4_doneIn_12 : decode cX4_doneIn 12 = .ok (.istore_n 1, 1) := by decide +kernel
theorem dX4_doneIn_13 : decode cX4_doneIn 13 = .ok (.iload_n 1, 1) := by decide +kernel
theorem dX4_doneIn_14 : decode cX4_doneIn 14 = .ok (.sipush 5000, 3) := by decide +kernel
theorem dX4_doneIn_17 : decode cX4_doneIn 17 = .ok (.if_icmp .gt 28, 3) := by decide +kernel
theorem dX4_doneIn_20 : decode cX4_doneIn 20 = .ok (.aload_n 0, 1) := by decide +kernel
theorem dX4_doneIn_21 : decode cX4_doneIn 21 = .ok (.getfield 16, 3) := by decide +kernel
theorem dX4_doneIn_24 : decode cX4_doneIn 24 = .ok (.invokevirtual 194, 3) := by decide +kernel
theorem dX4_doneIn_27 : decode cX4_doneIn 27 = .ok (.ifCond .eq 5, 3) := by decide +kernel
theorem dX4_doneIn_30 : decode cX4_doneIn 30 = .ok (.iload_n 1, 1) := by decide +kernel
theorem dX4_doneIn_31 : decode cX4_doneIn 31 = .ok (.ireturn, 1) := by decide +kernel
theorem dX4_doneIn_32 : decode cX4_doneIn 32 = .ok (.aload_n 0, 1) := by decide +kernel
theorem dX4_doneIn_33 : decode cX4_doneIn 33 = .ok (.getfield 16, 3) := by decide +kernel
theorem dX4_doneIn_36 : decode cX4_doneIn 36 = .ok (.invokevirtual 197, 3) := by decide +kernel
theorem dX4_doneIn_39 : decode cX4_doneIn 39 = .ok (.iinc 1 1, 3) := by decide +kernel
theorem dX4_doneIn_42 : decode cX4_doneIn 42 = .ok (.goto (-29), 3) := by decide +kernel
theorem dX4_doneIn_45 : decode cX4_doneIn 45 = .ok (.bipush (-5), 2) := by decide +kernel
theorem dX4_doneIn_47 : decode cX4_doneIn 47 = .ok (.ireturn, 1) := by decide +kernel
theorem dX4_leastDepth_0 : decode cX4_leastDepth 0 = .ok (.iload_n 1, 1) := by decide +kernel
theorem dX4_leastDepth_1 : decode cX4_leastDepth 1 = .ok (.iconst 1, 1) := by decide +kernel
theorem dX4_leastDepth_2 : decode cX4_leastDepth 2 = .ok (.sipush 500, 3) := by decide +kernel
theorem dX4_leastDepth_5 : decode cX4_leastDepth 5 = .ok (.invokestatic 36, 3) := by decide +kernel
theorem dX4_leastDepth_8 : decode cX4_leastDepth 8 = .ok (.ifCond .ne 6, 3) := by decide +kernel
theorem dX4_leastDepth_11 : decode cX4_leastDepth 11 = .ok (.bipush (-2), 2) := by decide +kernel
theorem dX4_leastDepth_13 : decode cX4_leastDepth 13 = .ok (.ireturn, 1) := by decide +kernel
theorem dX4_leastDepth_14 : decode cX4_leastDepth 14 = .ok (.iconst 1, 1) := by decide +kernel
theorem dX4_leastDepth_15 : decode cX4_leastDepth 15 = .ok (.istore_n 2, 1) := by decide +kernel
theorem dX4_leastDepth_16 : decode cX4_leastDepth 16 = .ok (.iload_n 2, 1) := by decide +kernel
theorem dX4_leastDepth_17 : decode cX4_leastDepth 17 = .ok (.iconst 4, 1) := by decide +kernel
theorem dX4_leastDepth_18 : decode cX4_leastDepth 18 = .ok (.if_icmp .gt 48, 3) := by decide +kernel
theorem dX4_leastDepth_21 : decode cX4_leastDepth 21 = .ok (.aload_n 0, 1) := by decide +kernel
theorem dX4_leastDepth_22 : decode cX4_leastDepth 22 = .ok (.getfield 16, 3) := by decide +kernel
theorem dX4_leastDepth_25 : decode cX4_leastDepth 25 = .ok (.aload_n 0, 1) := by decide +kernel
theorem dX4_leastDepth_26 : decode cX4_leastDepth 26 = .ok (.getfield 10, 3) := by decide +kernel
theorem dX4_leastDepth_29 : decode cX4_leastDepth 29 = .ok (.invokevirtual 92, 3) := by decide +kernel
theorem dX4_leastDepth_32 : decode cX4_leastDepth 32 = .ok (.aload_n 0, 1) := by decide +kernel
theorem dX4_leastDepth_33 : decode cX4_leastDepth 33 = .ok (.getfield 16, 3) := by decide +kernel
theorem dX4_leastDepth_36 : decode cX4_leastDepth 36 = .ok (.iload_n 2, 1) := by decide +kernel
theorem dX4_leastDepth_37 : decode cX4_leastDepth 37 = .ok (.aload_n 0, 1) := by decide +kernel
theorem dX4_leastDepth_38 : decode cX4_leastDepth 38 = .ok (.getfield 10, 3) := by decide +kernel
theorem dX4_leastDepth_41 : decode cX4_leastDepth 41 = .ok (.getfield 200, 3) := by decide +kernel
theorem dX4_leastDepth_44 : decode cX4_leastDepth 44 = .ok (.invokevirtual 44, 3) := by decide +kernel
theorem dX4_leastDepth_47 : decode cX4_leastDepth 47 = .ok (.aload_n 0, 1) := by decide +kernel
theorem dX4_leastDepth_48 : decode cX4_leastDepth 48 = .ok (.getfield 16, 3) := by decide +kernel
theorem dX4_leastDepth_51 : decode cX4_leastDepth 51 = .ok (.iload_n 1, 1) := by decide +kernel
theorem dX4_leastDepth_52 : decode cX4_leastDepth 52 = .ok (.invokevirtual 203, 3) := by decide +kernel
theorem dX4_leastDepth_55 : decode cX4_leastDepth 55 = .ok (.ifCond .ne 5, 3) := by decide +kernel
theorem dX4_leastDepth_58 : decode cX4_leastDepth 58 = .ok (.iload_n 2, 1) := by decide +kernel
theorem dX4_leastDepth_59 : decode cX4_leastDepth 59 = .ok (.ireturn, 1) := by decide +kernel
theorem dX4_leastDepth_60 : decode cX4_leastDepth 60 = .ok (.iinc 2 1, 3) := by decide +kernel
theorem dX4_leastDepth_63 : decode cX4_leastDepth 63 = .ok (.goto (-47), 3) := by decide +kernel
theorem dX4_leastDepth_66 : decode cX4_leastDepth 66 = .ok (.bipush (-5), 2) := by decide +kernel
theorem dX4_leastDepth_68 : decode cX4_leastDepth 68 = .ok (.ireturn, 1) := by decide +kernel
theorem dX4_count_0 : decode cX4_count 0 = .ok (.iload_n 1, 1) := by decide +kernel
theorem dX4_count_1 : decode cX4_count 1 = .ok (.tableswitch 215 0 13 #[71, 79, 87, 95, 106, 135, 143, 151, 159, 167, 183, 191, 199, 207], 71) := by decide +kernel
theorem dX4_count_72 : decode cX4_count 72 = .ok (.aload_n 0, 1) := by decide +kernel
theorem dX4_count_73 : decode cX4_count 73 = .ok (.getfield 10, 3) := by decide +kernel
theorem dX4_count_76 : decode cX4_count 76 = .ok (.getfield 76, 3) := by decide +kernel
theorem dX4_count_79 : decode cX4_count 79 = .ok (.ireturn, 1) := by decide +kernel
theorem dX4_count_80 : decode cX4_count 80 = .ok (.aload_n 0, 1) := by decide +kernel
theorem dX4_count_81 : decode cX4_count 81 = .ok (.getfield 10, 3) := by decide +kernel
theorem dX4_count_84 : decode cX4_count 84 = .ok (.getfield 206, 3) := by decide +kernel
theorem dX4_count_87 : decode cX4_count 87 = .ok (.ireturn, 1) := by decide +kernel
theorem dX4_count_88 : decode cX4_count 88 = .ok (.aload_n 0, 1) := by decide +kernel
theorem dX4_count_89 : decode cX4_count 89 = .ok (.getfield 10, 3) := by decide +kernel
theorem dX4_count_92 : decode cX4_count 92 = .ok (.invokevirtual 52, 3) := by decide +kernel
theorem dX4_count_95 : decode cX4_count 95 = .ok (.ireturn, 1) := by decide +kernel
theorem dX4_count_96 : decode cX4_count 96 = .ok (.aload_n 0, 1) := by decide +kernel
theorem dX4_count_97 : decode cX4_count 97 = .ok (.getfield 10, 3) := by decide +kernel
theorem dX4_count_100 : decode cX4_count 100 = .ok (.getfield 200, 3) := by decide +kernel
theorem dX4_count_103 : decode cX4_count 103 = .ok (.invokestatic 129, 3) := by decide +kernel
theorem dX4_count_106 : decode cX4_count 106 = .ok (.ireturn, 1) := by decide +kernel
theorem dX4_count_107 : decode cX4_count 107 = .ok (.aload_n 0, 1) := by decide +kernel
theorem dX4_count_108 : decode cX4_count 108 = .ok (.getfield 10, 3) := by decide +kernel
theorem dX4_count_111 : decode cX4_count 111 = .ok (.aload_n 0, 1) := by decide +kernel
theorem dX4_count_112 : decode cX4_count 112 = .ok (.getfield 10, 3) := by decide +kernel
theorem dX4_count_115 : decode cX4_count 115 = .ok (.getfield 209, 3) := by decide +kernel
theorem dX4_count_118 : decode cX4_count 118 = .ok (.getfield 133, 3) := by decide +kernel
theorem dX4_count_121 : decode cX4_count 121 = .ok (.aload_n 0, 1) := by decide +kernel
theorem dX4_count_122 : decode cX4_count 122 = .ok (.getfield 10, 3) := by decide +kernel
theorem dX4_count_125 : decode cX4_count 125 = .ok (.getfield 213, 3) := by decide +kernel
theorem dX4_count_128 : decode cX4_count 128 = .ok (.getfield 133, 3) := by decide +kernel
theorem dX4_count_131 : decode cX4_count 131 = .ok (.isub, 1) := by decide +kernel
theorem dX4_count_132 : decode cX4_count 132 = .ok (.invokevirtual 216, 3) := by decide +kernel
theorem dX4_count_135 : decode cX4_count 135 = .ok (.ireturn, 1) := by decide +kernel
theorem dX4_count_136 : decode cX4_count 136 = .ok (.aload_n 0, 1) := by decide +kernel
theorem dX4_count_137 : decode cX4_count 137 = .ok (.getfield 10, 3) := by decide +kernel
theorem dX4_count_140 : decode cX4_count 140 = .ok (.getfield 48, 3) := by decide +kernel
theorem dX4_count_143 : decode cX4_count 143 = .ok (.ireturn, 1) := by decide +kernel
theorem dX4_count_144 : decode cX4_count 144 = .ok (.aload_n 0, 1) := by decide +kernel
theorem dX4_count_145 : decode cX4_count 145 = .ok (.getfield 10, 3) := by decide +kernel
theorem dX4_count_148 : decode cX4_count 148 = .ok (.getfield 219, 3) := by decide +kernel
theorem dX4_count_151 : decode cX4_count 151 = .ok (.ireturn, 1) := by decide +kernel
theorem dX4_count_152 : decode cX4_count 152 = .ok (.aload_n 0, 1) := by decide +kernel
theorem dX4_count_153 : decode cX4_count 153 = .ok (.getfield 10, 3) := by decide +kernel
theorem dX4_count_156 : decode cX4_count 156 = .ok (.getfield 105, 3) := by decide +kernel
theorem dX4_count_159 : decode cX4_count 159 = .ok (.ireturn, 1) := by decide +kernel
theorem dX4_count_160 : decode cX4_count 160 = .ok (.aload_n 0, 1) := by decide +kernel
theorem dX4_count_161 : decode cX4_count 161 = .ok (.getfield 10, 3) := by decide +kernel
theorem dX4_count_164 : decode cX4_count 164 = .ok (.getfield 222, 3) := by decide +kernel
theorem dX4_count_167 : decode cX4_count 167 = .ok (.ireturn, 1) := by decide +kernel
theorem dX4_count_168 : decode cX4_count 168 = .ok (.aload_n 0, 1) := by decide +kernel
theorem dX4_count_169 : decode cX4_count 169 = .ok (.getfield 10, 3) := by decide +kernel
theorem dX4_count_172 : decode cX4_count 172 = .ok (.getfield 105, 3) := by decide +kernel
theorem dX4_count_175 : decode cX4_count 175 = .ok (.aload_n 0, 1) := by decide +kernel
theorem dX4_count_176 : decode cX4_count 176 = .ok (.getfield 10, 3) := by decide +kernel
theorem dX4_count_179 : decode cX4_count 179 = .ok (.getfield 222, 3) := by decide +kernel
theorem dX4_count_182 : decode cX4_count 182 = .ok (.isub, 1) := by decide +kernel
theorem dX4_count_183 : decode cX4_count 183 = .ok (.ireturn, 1) := by decide +kernel
theorem dX4_count_184 : decode cX4_count 184 = .ok (.aload_n 0, 1) := by decide +kernel
theorem dX4_count_185 : decode cX4_count 185 = .ok (.getfield 10, 3) := by decide +kernel
theorem dX4_count_188 : decode cX4_count 188 = .ok (.getfield 79, 3) := by decide +kernel
theorem dX4_count_191 : decode cX4_count 191 = .ok (.ireturn, 1) := by decide +kernel
theorem dX4_count_192 : decode cX4_count 192 = .ok (.aload_n 0, 1) := by decide +kernel
theorem dX4_count_193 : decode cX4_count 193 = .ok (.getfield 10, 3) := by decide +kernel
theorem dX4_count_196 : decode cX4_count 196 = .ok (.getfield 82, 3) := by decide +kernel
theorem dX4_count_199 : decode cX4_count 199 = .ok (.ireturn, 1) := by decide +kernel
theorem dX4_count_200 : decode cX4_count 200 = .ok (.aload_n 0, 1) := by decide +kernel
theorem dX4_count_201 : decode cX4_count 201 = .ok (.getfield 25, 3) := by decide +kernel
theorem dX4_count_204 : decode cX4_count 204 = .ok (.getfield 123, 3) := by decide +kernel
theorem dX4_count_207 : decode cX4_count 207 = .ok (.ireturn, 1) := by decide +kernel
theorem dX4_count_208 : decode cX4_count 208 = .ok (.aload_n 0, 1) := by decide +kernel
theorem dX4_count_209 : decode cX4_count 209 = .ok (.getfield 32, 3) := by decide +kernel
theorem dX4_count_212 : decode cX4_count 212 = .ok (.getfield 116, 3) := by decide +kernel
theorem dX4_count_215 : decode cX4_count 215 = .ok (.ireturn, 1) := by decide +kernel
theorem dX4_count_216 : decode cX4_count 216 = .ok (.bipush (-2), 2) := by decide +kernel
theorem dX4_count_218 : decode cX4_count 218 = .ok (.ireturn, 1) := by decide +kernel
theorem dX4_isWithin_0 : decode cX4_isWithin 0 = .ok (.iload_n 0, 1) := by decide +kernel
theorem dX4_isWithin_1 : decode cX4_isWithin 1 = .ok (.iload_n 1, 1) := by decide +kernel
theorem dX4_isWithin_2 : decode cX4_isWithin 2 = .ok (.if_icmp .lt 12, 3) := by decide +kernel
theorem dX4_isWithin_5 : decode cX4_isWithin 5 = .ok (.iload_n 0, 1) := by decide +kernel
theorem dX4_isWithin_6 : decode cX4_isWithin 6 = .ok (.iload_n 2, 1) := by decide +kernel
theorem dX4_isWithin_7 : decode cX4_isWithin 7 = .ok (.if_icmp .gt 7, 3) := by decide +kernel
theorem dX4_isWithin_10 : decode cX4_isWithin 10 = .ok (.iconst 1, 1) := by decide +kernel
theorem dX4_isWithin_11 : decode cX4_isWithin 11 = .ok (.goto 4, 3) := by decide +kernel
theorem dX4_isWithin_14 : decode cX4_isWithin 14 = .ok (.iconst 0, 1) := by decide +kernel
theorem dX4_isWithin_15 : decode cX4_isWithin 15 = .ok (.ireturn, 1) := by decide +kernel
theorem dX4_isSide_0 : decode cX4_isSide 0 = .ok (.iload_n 0, 1) := by decide +kernel
theorem dX4_isSide_1 : decode cX4_isSide 1 = .ok (.ifCond .eq 8, 3) := by decide +kernel
theorem dX4_isSide_4 : decode cX4_isSide 4 = .ok (.iload_n 0, 1) := by decide +kernel
theorem dX4_isSide_5 : decode cX4_isSide 5 = .ok (.iconst 1, 1) := by decide +kernel
theorem dX4_isSide_6 : decode cX4_isSide 6 = .ok (.if_icmp .ne 7, 3) := by decide +kernel
theorem dX4_isSide_9 : decode cX4_isSide 9 = .ok (.iconst 1, 1) := by decide +kernel
theorem dX4_isSide_10 : decode cX4_isSide 10 = .ok (.goto 4, 3) := by decide +kernel
theorem dX4_isSide_13 : decode cX4_isSide 13 = .ok (.iconst 0, 1) := by decide +kernel
theorem dX4_isSide_14 : decode cX4_isSide 14 = .ok (.ireturn, 1) := by decide +kernel
theorem dX4_asNumber_0 : decode cX4_asNumber 0 = .ok (.iload_n 0, 1) := by decide +kernel
theorem dX4_asNumber_1 : decode cX4_asNumber 1 = .ok (.ifCond .eq 7, 3) := by decide +kernel
theorem dX4_asNumber_4 : decode cX4_asNumber 4 = .ok (.iconst 1, 1) := by decide +kernel
theorem dX4_asNumber_5 : decode cX4_asNumber 5 = .ok (.goto 4, 3) := by decide +kernel
theorem dX4_asNumber_8 : decode cX4_asNumber 8 = .ok (.iconst 0, 1) := by decide +kernel
theorem dX4_asNumber_9 : decode cX4_asNumber 9 = .ok (.ireturn, 1) := by decide +kernel
theorem dX4_remainder_0 : decode cX4_remainder 0 = .ok (.iload_n 1, 1) := by decide +kernel
theorem dX4_remainder_1 : decode cX4_remainder 1 = .ok (.ifCond .le 9, 3) := by decide +kernel
theorem dX4_remainder_4 : decode cX4_remainder 4 = .ok (.iload_n 0, 1) := by decide +kernel
theorem dX4_remainder_5 : decode cX4_remainder 5 = .ok (.iload_n 1, 1) := by decide +kernel
theorem dX4_remainder_6 : decode cX4_remainder 6 = .ok (.irem, 1) := by decide +kernel
theorem dX4_remainder_7 : decode cX4_remainder 7 = .ok (.goto 4, 3) := by decide +kernel
theorem dX4_remainder_10 : decode cX4_remainder 10 = .ok (.iconst 0, 1) := by decide +kernel
theorem dX4_remainder_11 : decode cX4_remainder 11 = .ok (.ireturn, 1) := by decide +kernel
theorem dX4_valueAt_0 : decode cX4_valueAt 0 = .ok (.iload_n 1, 1) := by decide +kernel
theorem dX4_valueAt_1 : decode cX4_valueAt 1 = .ok (.ifCond .lt 15, 3) := by decide +kernel
theorem dX4_valueAt_4 : decode cX4_valueAt 4 = .ok (.iload_n 1, 1) := by decide +kernel
theorem dX4_valueAt_5 : decode cX4_valueAt 5 = .ok (.aload_n 0, 1) := by decide +kernel
theorem dX4_valueAt_6 : decode cX4_valueAt 6 = .ok (.arraylength, 1) := by decide +kernel
theorem dX4_valueAt_7 : decode cX4_valueAt 7 = .ok (.if_icmp .ge 9, 3) := by decide +kernel
theorem dX4_valueAt_10 : decode cX4_valueAt 10 = .ok (.aload_n 0, 1) := by decide +kernel
theorem dX4_valueAt_11 : decode cX4_valueAt 11 = .ok (.iload_n 1, 1) := by decide +kernel
theorem dX4_valueAt_12 : decode cX4_valueAt 12 = .ok (.iaload, 1) := by decide +kernel
theorem dX4_valueAt_13 : decode cX4_valueAt 13 = .ok (.goto 4, 3) := by decide +kernel
theorem dX4_valueAt_16 : decode cX4_valueAt 16 = .ok (.iconst 0, 1) := by decide +kernel
theorem dX4_valueAt_17 : decode cX4_valueAt 17 = .ok (.ireturn, 1) := by decide +kernel
theorem dX4_setAt_0 : decode cX4_setAt 0 = .ok (.iload_n 1, 1) := by decide +kernel
theorem dX4_setAt_1 : decode cX4_setAt 1 = .ok (.ifCond .lt 13, 3) := by decide +kernel
theorem dX4_setAt_4 : decode cX4_setAt 4 = .ok (.iload_n 1, 1) := by decide +kernel
theorem dX4_setAt_5 : decode cX4_setAt 5 = .ok (.aload_n 0, 1) := by decide +kernel
theorem dX4_setAt_6 : decode cX4_setAt 6 = .ok (.arraylength, 1) := by decide +kernel
theorem dX4_setAt_7 : decode cX4_setAt 7 = .ok (.if_icmp .ge 7, 3) := by decide +kernel
theorem dX4_setAt_10 : decode cX4_setAt 10 = .ok (.aload_n 0, 1) := by decide +kernel
theorem dX4_setAt_11 : decode cX4_setAt 11 = .ok (.iload_n 1, 1) := by decide +kernel
theorem dX4_setAt_12 : decode cX4_setAt 12 = .ok (.iload_n 2, 1) := by decide +kernel
theorem dX4_setAt_13 : decode cX4_setAt 13 = .ok (.iastore, 1) := by decide +kernel
theorem dX4_setAt_14 : decode cX4_setAt 14 = .ok (.return_, 1) := by decide +kernel
theorem dX4_fillRow_0 : decode cX4_fillRow 0 = .ok (.iconst 0, 1) := by decide +kernel
theorem dX4_fillRow_1 : decode cX4_fillRow 1 = .ok (.istore_n 2, 1) := by decide +kernel
theorem dX4_fillRow_2 : decode cX4_fillRow 2 = .ok (.iload_n 2, 1) := by decide +kernel
theorem dX4_fillRow_3 : decode cX4_fillRow 3 = .ok (.aload_n 0, 1) := by decide +kernel
theorem dX4_fillRow_4 : decode cX4_fillRow 4 = .ok (.arraylength, 1) := by decide +kernel
theorem dX4_fillRow_5 : decode cX4_fillRow 5 = .ok (.if_icmp .ge 13, 3) := by decide +kernel
theorem dX4_fillRow_8 : decode cX4_fillRow 8 = .ok (.aload_n 0, 1) := by decide +kernel
theorem dX4_fillRow_9 : decode cX4_fillRow 9 = .ok (.iload_n 2, 1) := by decide +kernel
theorem dX4_fillRow_10 : decode cX4_fillRow 10 = .ok (.iload_n 1, 1) := by decide +kernel
theorem dX4_fillRow_11 : decode cX4_fillRow 11 = .ok (.iastore, 1) := by decide +kernel
theorem dX4_fillRow_12 : decode cX4_fillRow 12 = .ok (.iinc 2 1, 3) := by decide +kernel
theorem dX4_fillRow_15 : decode cX4_fillRow 15 = .ok (.goto (-13), 3) := by decide +kernel
theorem dX4_fillRow_18 : decode cX4_fillRow 18 = .ok (.return_, 1) := by decide +kernel
theorem dX4_copyRow_0 : decode cX4_copyRow 0 = .ok (.iconst 0, 1) := by decide +kernel
theorem dX4_copyRow_1 : decode cX4_copyRow 1 = .ok (.istore_n 2, 1) := by decide +kernel
theorem dX4_copyRow_2 : decode cX4_copyRow 2 = .ok (.iload_n 2, 1) := by decide +kernel
theorem dX4_copyRow_3 : decode cX4_copyRow 3 = .ok (.aload_n 0, 1) := by decide +kernel
theorem dX4_copyRow_4 : decode cX4_copyRow 4 = .ok (.arraylength, 1) := by decide +kernel
theorem dX4_copyRow_5 : decode cX4_copyRow 5 = .ok (.if_icmp .ge 21, 3) := by decide +kernel
theorem dX4_copyRow_8 : decode cX4_copyRow 8 = .ok (.iload_n 2, 1) := by decide +kernel
theorem dX4_copyRow_9 : decode cX4_copyRow 9 = .ok (.aload_n 1, 1) := by decide +kernel
theorem dX4_copyRow_10 : decode cX4_copyRow 10 = .ok (.arraylength, 1) := by decide +kernel
theorem dX4_copyRow_11 : decode cX4_copyRow 11 = .ok (.if_icmp .ge 15, 3) := by decide +kernel
theorem dX4_copyRow_14 : decode cX4_copyRow 14 = .ok (.aload_n 1, 1) := by decide +kernel
theorem dX4_copyRow_15 : decode cX4_copyRow 15 = .ok (.iload_n 2, 1) := by decide +kernel
theorem dX4_copyRow_16 : decode cX4_copyRow 16 = .ok (.aload_n 0, 1) := by decide +kernel
theorem dX4_copyRow_17 : decode cX4_copyRow 17 = .ok (.iload_n 2, 1) := by decide +kernel
theorem dX4_copyRow_18 : decode cX4_copyRow 18 = .ok (.iaload, 1) := by decide +kernel
theorem dX4_copyRow_19 : decode cX4_copyRow 19 = .ok (.iastore, 1) := by decide +kernel
theorem dX4_copyRow_20 : decode cX4_copyRow 20 = .ok (.iinc 2 1, 3) := by decide +kernel
theorem dX4_copyRow_23 : decode cX4_copyRow 23 = .ok (.goto (-21), 3) := by decide +kernel
theorem dX4_copyRow_26 : decode cX4_copyRow 26 = .ok (.return_, 1) := by decide +kernel
end
section
theorem dX5_init_0 : decode cX5_init 0 = .ok (.aload_n 0, 1) := by decide +kernel
theorem dX5_init_1 : decode cX5_init 1 = .ok (.invokespecial 1, 3) := by decide +kernel
theorem dX5_init_4 : decode cX5_init 4 = .ok (.aload_n 0, 1) := by decide +kernel
theorem dX5_init_5 : decode cX5_init 5 = .ok (.bipush 96, 2) := by decide +kernel
theorem dX5_init_7 : decode cX5_init 7 = .ok (.newarray .int, 2) := by decide +kernel
theorem dX5_init_9 : decode cX5_init 9 = .ok (.putfield 7, 3) := by decide +kernel
theorem dX5_init_12 : decode cX5_init 12 = .ok (.aload_n 0, 1) := by decide +kernel
theorem dX5_init_13 : decode cX5_init 13 = .ok (.bipush 96, 2) := by decide +kernel
theorem dX5_init_15 : decode cX5_init 15 = .ok (.newarray .int, 2) := by decide +kernel
theorem dX5_init_17 : decode cX5_init 17 = .ok (.putfield 13, 3) := by decide +kernel
theorem dX5_init_20 : decode cX5_init 20 = .ok (.aload_n 0, 1) := by decide +kernel
theorem dX5_init_21 : decode cX5_init 21 = .ok (.bipush 96, 2) := by decide +kernel
theorem dX5_init_23 : decode cX5_init 23 = .ok (.newarray .int, 2) := by decide +kernel
theorem dX5_init_25 : decode cX5_init 25 = .ok (.putfield 16, 3) := by decide +kernel
theorem dX5_init_28 : decode cX5_init 28 = .ok (.aload_n 0, 1) := by decide +kernel
theorem dX5_init_29 : decode cX5_init 29 = .ok (.sipush 384, 3) := by decide +kernel
theorem dX5_init_32 : decode cX5_init 32 = .ok (.newarray .int, 2) := by decide +kernel
theorem dX5_init_34 : decode cX5_init 34 = .ok (.putfield 19, 3) := by decide +kernel
theorem dX5_init_37 : decode cX5_init 37 = .ok (.aload_n 0, 1) := by decide +kernel
theorem dX5_init_38 : decode cX5_init 38 = .ok (.bipush 96, 2) := by decide +kernel
theorem dX5_init_40 : decode cX5_init 40 = .ok (.newarray .int, 2) := by decide +kernel
theorem dX5_init_42 : decode cX5_init 42 = .ok (.putfield 22, 3) := by decide +kernel
theorem dX5_init_45 : decode cX5_init 45 = .ok (.aload_n 0, 1) := by decide +kernel
theorem dX5_init_46 : decode cX5_init 46 = .ok (.bipush 60, 2) := by decide +kernel
theorem dX5_init_48 : decode cX5_init 48 = .ok (.newarray .int, 2) := by decide +kernel
theorem dX5_init_50 : decode cX5_init 50 = .ok (.putfield 25, 3) := by decide +kernel
theorem dX5_init_53 : decode cX5_init 53 = .ok (.aload_n 0, 1) := by decide +kernel
theorem dX5_init_54 : decode cX5_init 54 = .ok (.getfield 7, 3) := by decide +kernel
theorem dX5_init_57 : decode cX5_init 57 = .ok (.iconst 3, 1) := by decide +kernel
theorem dX5_init_58 : decode cX5_init 58 = .ok (.iconst 1, 1) := by decide +kernel
theorem dX5_init_59 : decode cX5_init 59 = .ok (.iastore, 1) := by decide +kernel
theorem dX5_init_60 : decode cX5_init 60 = .ok (.aload_n 0, 1) := by decide +kernel
theorem dX5_init_61 : decode cX5_init 61 = .ok (.getfield 7, 3) := by decide +kernel
theorem dX5_init_64 : decode cX5_init 64 = .ok (.iconst 4, 1) := by decide +kernel
theorem dX5_init_65 : decode cX5_init 65 = .ok (.iconst 1, 1) := by decide +kernel
theorem dX5_init_66 : decode cX5_init 66 = .ok (.iastore, 1) := by decide +kernel
theorem dX5_init_67 : decode cX5_init 67 = .ok (.aload_n 0, 1) := by decide +kernel
theorem dX5_init_68 : decode cX5_init 68 = .ok (.getfield 7, 3) := by decide +kernel
theorem dX5_init_71 : decode cX5_init 71 = .ok (.bipush 11, 2) := by decide +kernel
theorem dX5_init_73 : decode cX5_init 73 = .ok (.bipush 10, 2) := by decide +kernel
theorem dX5_init_75 : decode cX5_init 75 = .ok (.iastore, 1) := by decide +kernel
theorem dX5_init_76 : decode cX5_init 76 = .ok (.aload_n 0, 1) := by decide +kernel
theorem dX5_init_77 : decode cX5_init 77 = .ok (.getfield 7, 3) := by decide +kernel
theorem dX5_init_80 : decode cX5_init 80 = .ok (.bipush 19, 2) := by decide +kernel
theorem dX5_init_82 : decode cX5_init 82 = .ok (.bipush 14, 2) := by decide +kernel
theorem dX5_init_84 : decode cX5_init 84 = .ok (.iastore, 1) := by decide +kernel
theorem dX5_init_85 : decode cX5_init 85 = .ok (.aload_n 0, 1) := by decide +kernel
theorem dX5_init_86 : decode cX5_init 86 = .ok (.getfield 7, 3) := by decide +kernel
theorem dX5_init_89 : decode cX5_init 89 = .ok (.bipush 13, 2) := by decide +kernel
theorem dX5_init_91 : decode cX5_init 91 = .ok (.iconst 1, 1) := by decide +kernel
theorem dX5_init_92 : decode cX5_init 92 = .ok (.iastore, 1) := by decide +kernel
theorem dX5_init_93 : decode cX5_init 93 = .ok (.aload_n 0, 1) := by decide +kernel
theorem dX5_init_94 : decode cX5_init 94 = .ok (.getfield 7, 3) := by decide +kernel
theorem dX5_init_97 : decode cX5_init 97 = .ok (.bipush 21, 2) := by decide +kernel
theorem dX5_init_99 : decode cX5_init 99 = .ok (.iconst 1, 1) := by decide +kernel
theorem dX5_init_100 : decode cX5_init 100 = .ok (.iastore, 1) := by decide +kernel
theorem dX5_init_101 : decode cX5_init 101 = .ok (.aload_n 0, 1) := by decide +kernel
theorem dX5_init_102 : decode cX5_init 102 = .ok (.iconst 2, 1) := by decide +kernel
theorem dX5_init_103 : decode cX5_init 103 = .ok (.iconst 1, 1) := by decide +kernel
theorem dX5_init_104 : decode cX5_init 104 = .ok (.invokevirtual 28, 3) := by decide +kernel
theorem dX5_init_107 : decode cX5_init 107 = .ok (.return_, 1) := by decide +kernel
theorem dX5_in_0 : decode cX5_in 0 = .ok (.lload_n 0, 1) := by decide +kernel
theorem dX5_in_1 : decode cX5_in 1 = .ok (.lload_n 2, 1) := by decide +kernel
theorem dX5_in_2 : decode cX5_in 2 = .ok (.lcmp, 1) := by decide +kernel
theorem dX5_in_3 : decode cX5_in 3 = .ok (.ifCond .lt 14, 3) := by decide +kernel
theorem dX5_in_6 : decode cX5_in 6 = .ok (.lload_n 0, 1) := by decide +kernel
theorem dX5_in_7 : decode cX5_in 7 = .ok (.lload 4, 2) := by decide +kernel
theorem dX5_in_9 : decode cX5_in 9 = .ok (.lcmp, 1) := by decide +kernel
theorem dX5_in_10 : decode cX5_in 10 = .ok (.ifCond .gt 7, 3) := by decide +kernel
theorem dX5_in_13 : decode cX5_in 13 = .ok (.iconst 1, 1) := by decide +kernel
theorem dX5_in_14 : decode cX5_in 14 = .ok (.goto 4, 3) := by decide +kernel
theorem dX5_in_17 : decode cX5_in 17 = .ok (.iconst 0, 1) := by decide +kernel
theorem dX5_in_18 : decode cX5_in 18 = .ok (.ireturn, 1) := by decide +kernel
theorem dX5_copy_0 : decode cX5_copy 0 = .ok (.iconst 0, 1) := by decide +kernel
theorem dX5_copy_1 : decode cX5_copy 1 = .ok (.istore_n 2, 1) := by decide +kernel
theorem dX5_copy_2 : decode cX5_copy 2 = .ok (.iload_n 2, 1) := by decide +kernel
theorem dX5_copy_3 : decode cX5_copy 3 = .ok (.bipush 96, 2) := by decide +kernel
theorem dX5_copy_5 : decode cX5_copy 5 = .ok (.if_icmp .ge 15, 3) := by decide +kernel
theorem dX5_copy_8 : decode cX5_copy 8 = .ok (.aload_n 1, 1) := by decide +kernel
theorem dX5_copy_9 : decode cX5_copy 9 = .ok (.iload_n 2, 1) := by decide +kernel
theorem dX5_copy_10 : decode cX5_copy 10 = .ok (.aload_n 0, 1) := by decide +kernel
theorem dX5_copy_11 : decode cX5_copy 11 = .ok (.iload_n 2, 1) := by decide +kernel
theorem dX5_copy_12 : decode cX5_copy 12 = .ok (.iaload, 1) := by decide +kernel
theorem dX5_copy_13 : decode cX5_copy 13 = .ok (.iastore, 1) := by decide +kernel
theorem dX5_copy_14 : decode cX5_copy 14 = .ok (.iinc 2 1, 3) := by decide +kernel
theorem dX5_copy_17 : decode cX5_copy 17 = .ok (.goto (-15), 3) := by decide +kernel
theorem dX5_copy_20 : decode cX5_copy 20 = .ok (.return_, 1) := by decide +kernel
theorem dX5_remember_0 : decode cX5_remember 0 = .ok (.aload_n 0, 1) := by decide +kernel
theorem dX5_remember_1 : decode cX5_remember 1 = .ok (.getfield 7, 3) := by decide +kernel
theorem dX5_remember_4 : decode cX5_remember 4 = .ok (.aload_n 0, 1) := by decide +kernel
theorem dX5_remember_5 : decode cX5_remember 5 = .ok (.getfield 13, 3) := by decide +kernel
theorem dX5_remember_8 : decode cX5_remember 8 = .ok (.invokestatic 32, 3) := by decide +kernel
theorem dX5_remember_11 : decode cX5_remember 11 = .ok (.return_, 1) := by decide +kernel
theorem dX5_acted_0 : decode cX5_acted 0 = .ok (.aload_n 0, 1) := by decide +kernel
theorem dX5_acted_1 : decode cX5_acted 1 = .ok (.getfield 36, 3) := by decide +kernel
theorem dX5_acted_4 : decode cX5_acted 4 = .ok (.iconst 4, 1) := by decide +kernel
theorem dX5_acted_5 : decode cX5_acted 5 = .ok (.if_icmp .ne 43, 3) := by decide +kernel
theorem dX5_acted_8 : decode cX5_acted 8 = .ok (.iconst 0, 1) := by decide +kernel
theorem dX5_acted_9 : decode cX5_acted 9 = .ok (.istore_n 2, 1) := by decide +kernel
theorem dX5_acted_10 : decode cX5_acted 10 = .ok (.iload_n 2, 1) := by decide +kernel
theorem dX5_acted_11 : decode cX5_acted 11 = .ok (.sipush 288, 3) := by decide +kernel
theorem dX5_acted_14 : decode cX5_acted 14 = .ok (.if_icmp .ge 24, 3) := by decide +kernel
theorem dX5_acted_17 : decode cX5_acted 17 = .ok (.aload_n 0, 1) := by decide +kernel
theorem dX5_acted_18 : decode cX5_acted 18 = .ok (.getfield 19, 3) := by decide +kernel
theorem dX5_acted_21 : decode cX5_acted 21 = .ok (.iload_n 2, 1) := by decide +kernel
theorem dX5_acted_22 : decode cX5_acted 22 = .ok (.aload_n 0, 1) := by decide +kernel
theorem dX5_acted_23 : decode cX5_acted 23 = .ok (.getfield 19, 3) := by decide +kernel
theorem dX5_acted_26 : decode cX5_acted 26 = .ok (.iload_n 2, 1) := by decide +kernel
theorem dX5_acted_27 : decode cX5_acted 27 = .ok (.bipush 96, 2) := by decide +kernel
theorem dX5_acted_29 : decode cX5_acted 29 = .ok (.iadd, 1) := by decide +kernel
theorem dX5_acted_30 : decode cX5_acted 30 = .ok (.iaload, 1) := by decide +kernel
theorem dX5_acted_31 : decode cX5_acted 31 = .ok (.iastore, 1) := by decide +kernel
theorem dX5_acted_32 : decode cX5_acted 32 = .ok (.iinc 2 1, 3) := by decide +kernel
theorem dX5_acted_35 : decode cX5_acted 35 = .ok (.goto (-25), 3) := by decide +kernel
theorem dX5_acted_38 : decode cX5_acted 38 = .ok (.aload_n 0, 1) := by decide +kernel
theorem dX5_acted_39 : decode cX5_acted 39 = .ok (.dup, 1) := by decide +kernel
theorem dX5_acted_40 : decode cX5_acted 40 = .ok (.getfield 36, 3) := by decide +kernel
theorem dX5_acted_43 : decode cX5_acted 43 = .ok (.iconst 1, 1) := by decide +kernel
theorem dX5_acted_44 : decode cX5_acted 44 = .ok (.isub, 1) := by decide +kernel
theorem dX5_acted_45 : decode cX5_acted 45 = .ok (.putfield 36, 3) := by decide +kernel
theorem dX5_acted_48 : decode cX5_acted 48 = .ok (.iconst 0, 1) := by decide +kernel
theorem dX5_acted_49 : decode cX5_acted 49 = .ok (.istore_n 2, 1) := by decide +kernel
theorem dX5_acted_50 : decode cX5_acted 50 = .ok (.iload_n 2, 1) := by decide +kernel
theorem dX5_acted_51 : decode cX5_acted 51 = .ok (.bipush 96, 2) := by decide +kernel
theorem dX5_acted_53 : decode cX5_acted 53 = .ok (.if_icmp .ge 29, 3) := by decide +kernel
theorem dX5_acted_56 : decode cX5_acted 56 = .ok (.aload_n 0, 1) := by decide +kernel
theorem dX5_acted_57 : decode cX5_acted 57 = .ok (.getfield 19, 3) := by decide +kernel
theorem dX5_acted_60 : decode cX5_acted 60 = .ok (.bipush 96, 2) := by decide +kernel
theorem dX5_acted_62 : decode cX5_acted 62 = .ok (.aload_n 0, 1) := by decide +kernel
theorem dX5_acted_63 : decode cX5_acted 63 = .ok (.getfield 36, 3) := by decide +kernel
theorem dX5_acted_66 : decode cX5_acted 66 = .ok (.imul, 1) := by decide +kernel
theorem dX5_acted_67 : decode cX5_acted 67 = .ok (.iload_n 2, 1) := by decide +kernel
theorem dX5_acted_68 : decode cX5_acted 68 = .ok (.iadd, 1) := by decide +kernel
theorem dX5_acted_69 : decode cX5_acted 69 = .ok (.aload_n 0, 1) := by decide +kernel
theorem dX5_acted_70 : decode cX5_acted 70 = .ok (.getfield 13, 3) := by decide +kernel
theorem dX5_acted_73 : decode cX5_acted 73 = .ok (.iload_n 2, 1) := by decide +kernel
theorem dX5_acted_74 : decode cX5_acted 74 = .ok (.iaload, 1) := by decide +kernel
theorem dX5_acted_75 : decode cX5_acted 75 = .ok (.iastore, 1) := by decide +kernel
theorem dX5_acted_76 : decode cX5_acted 76 = .ok (.iinc 2 1, 3) := by decide +kernel
theorem dX5_acted_79 : decode cX5_acted 79 = .ok (.goto (-29), 3) := by decide +kernel
theorem dX5_acted_82 : decode cX5_acted 82 = .ok (.aload_n 0, 1) := by decide +kernel
theorem dX5_acted_83 : decode cX5_acted 83 = .ok (.dup, 1) := by decide +kernel
theorem dX5_acted_84 : decode cX5_acted 84 = .ok (.getfield 36, 3) := by decide +kernel
theorem dX5_acted_87 : decode cX5_acted 87 = .ok (.iconst 1, 1) := by decide +kernel
theorem dX5_acted_88 : decode cX5_acted 88 = .ok (.iadd, 1) := by decide +kernel
theorem dX5_acted_89 : decode cX5_acted 89 = .ok (.putfield 36, 3) := by decide +kernel
theorem dX5_acted_92 : decode cX5_acted 92 = .ok (.iload_n 1, 1) := by decide +kernel
theorem dX5_acted_93 : decode cX5_acted 93 = .ok (.ireturn, 1) := by decide +kernel
theorem dX5_isSide_0 : decode cX5_isSide 0 = .ok (.iload_n 0, 1) := by decide +kernel
theorem dX5_isSide_1 : decode cX5_isSide 1 = .ok (.ifCond .eq 8, 3) := by decide +kernel
theorem dX5_isSide_4 : decode cX5_isSide 4 = .ok (.iload_n 0, 1) := by decide +kernel
theorem dX5_isSide_5 : decode cX5_isSide 5 = .ok (.iconst 1, 1) := by decide +kernel
theorem dX5_isSide_6 : decode cX5_isSide 6 = .ok (.if_icmp .ne 7, 3) := by decide +kernel
theorem dX5_isSide_9 : decode cX5_isSide 9 = .ok (.iconst 1, 1) := by decide +kernel
theorem dX5_isSide_10 : decode cX5_isSide 10 = .ok (.goto 4, 3) := by decide +kernel
theorem dX5_isSide_13 : decode cX5_isSide 13 = .ok (.iconst 0, 1) := by decide +kernel
theorem dX5_isSide_14 : decode cX5_isSide 14 = .ok (.ireturn, 1) := by decide +kernel
theorem dX5_of_0 : decode cX5_of 0 = .ok (.aload_n 0, 1) := by decide +kernel
theorem dX5_of_1 : decode cX5_of 1 = .ok (.getfield 7, 3) := by decide +kernel
theorem dX5_of_4 : decode cX5_of 4 = .ok (.bipush 11, 2) := by decide +kernel
theorem dX5_of_6 : decode cX5_of 6 = .ok (.bipush 8, 2) := by decide +kernel
theorem dX5_of_8 : decode cX5_of 8 = .ok (.iload_n 1, 1) := by decide +kernel
theorem dX5_of_9 : decode cX5_of 9 = .ok (.imul, 1) := by decide +kernel
theorem dX5_of_10 : decode cX5_of 10 = .ok (.iadd, 1) := by decide +kernel
theorem dX5_of_11 : decode cX5_of 11 = .ok (.iload_n 2, 1) := by decide +kernel
theorem dX5_of_12 : decode cX5_of 12 = .ok (.iadd, 1) := by decide +kernel
theorem dX5_of_13 : decode cX5_of 13 = .ok (.iaload, 1) := by decide +kernel
theorem dX5_of_14 : decode cX5_of 14 = .ok (.ireturn, 1) := by decide +kernel
theorem dX5_to_0 : decode cX5_to 0 = .ok (.aload_n 0, 1) := by decide +kernel
theorem dX5_to_1 : decode cX5_to 1 = .ok (.getfield 7, 3) := by decide +kernel
theorem dX5_to_4 : decode cX5_to 4 = .ok (.bipush 11, 2) := by decide +kernel
theorem dX5_to_6 : decode cX5_to 6 = .ok (.bipush 8, 2) := by decide +kernel
theorem dX5_to_8 : decode cX5_to 8 = .ok (.iload_n 1, 1) := by decide +kernel
theorem dX5_to_9 : decode cX5_to 9 = .ok (.imul, 1) := by decide +kernel
theorem dX5_to_10 : decode cX5_to 10 = .ok (.iadd, 1) := by decide +kernel
theorem dX5_to_11 : decode cX5_to 11 = .ok (.iload_n 2, 1) := by decide +kernel
theorem dX5_to_12 : decode cX5_to 12 = .ok (.iadd, 1) := by decide +kernel
theorem dX5_to_13 : decode cX5_to 13 = .ok (.iload_n 3, 1) := by decide +kernel
theorem dX5_to_14 : decode cX5_to 14 = .ok (.iastore, 1) := by decide +kernel
theorem dX5_to_15 : decode cX5_to 15 = .ok (.return_, 1) := by decide +kernel
theorem dX5_depth_0 : decode cX5_depth 0 = .ok (.iconst 1, 1) := by decide +kernel
theorem dX5_depth_1 : decode cX5_depth 1 = .ok (.aload_n 0, 1) := by decide +kernel
theorem dX5_depth_2 : decode cX5_depth 2 = .ok (.getfield 7, 3) := by decide +kernel
theorem dX5_depth_5 : decode cX5_depth 5 = .ok (.iconst 0, 1) := by decide +kernel
theorem dX5_depth_6 : decode cX5_depth 6 = .ok (.iaload, 1) := by decide +kernel
theorem dX5_depth_7 : decode cX5_depth 7 = .ok (.ishl, 1) := by decide +kernel
theorem dX5_depth_8 : decode cX5_depth 8 = .ok (.ireturn, 1) := by decide +kernel
theorem dX5_codeOf_0 : decode cX5_codeOf 0 = .ok (.aload_n 0, 1) := by decide +kernel
theorem dX5_codeOf_1 : decode cX5_codeOf 1 = .ok (.getfield 7, 3) := by decide +kernel
theorem dX5_codeOf_4 : decode cX5_codeOf 4 = .ok (.iconst 1, 1) := by decide +kernel
theorem dX5_codeOf_5 : decode cX5_codeOf 5 = .ok (.iaload, 1) := by decide +kernel
theorem dX5_codeOf_6 : decode cX5_codeOf 6 = .ok (.iconst 1, 1) := by decide +kernel
theorem dX5_codeOf_7 : decode cX5_codeOf 7 = .ok (.if_icmp .ne 11, 3) := by decide +kernel
theorem dX5_codeOf_10 : decode cX5_codeOf 10 = .ok (.iload_n 1, 1) := by decide +kernel
theorem dX5_codeOf_11 : decode cX5_codeOf 11 = .ok (.iload_n 1, 1) := by decide +kernel
theorem dX5_codeOf_12 : decode cX5_codeOf 12 = .ok (.iconst 1, 1) := by decide +kernel
theorem dX5_codeOf_13 : decode cX5_codeOf 13 = .ok (.ishr, 1) := by decide +kernel
theorem dX5_codeOf_14 : decode cX5_codeOf 14 = .ok (.ixor, 1) := by decide +kernel
theorem dX5_codeOf_15 : decode cX5_codeOf 15 = .ok (.goto 4, 3) := by decide +kernel
theorem dX5_codeOf_18 : decode cX5_codeOf 18 = .ok (.iload_n 1, 1) := by decide +kernel
theorem dX5_codeOf_19 : decode cX5_codeOf 19 = .ok (.ireturn, 1) := by decide +kernel
theorem dX5_pointerOf_0 : decode cX5_pointerOf 0 = .ok (.aload_n 0, 1) := by decide +kernel
theorem dX5_pointerOf_1 : decode cX5_pointerOf 1 = .ok (.getfield 7, 3) := by decide +kernel
theorem dX5_pointerOf_4 : decode cX5_pointerOf 4 = .ok (.iconst 1, 1) := by decide +kernel
theorem dX5_pointerOf_5 : decode cX5_pointerOf 5 = .ok (.iaload, 1) := by decide +kernel
theorem dX5_pointerOf_6 : decode cX5_pointerOf 6 = .ok (.ifCond .ne 5, 3) := by decide +kernel
theorem dX5_pointerOf_9 : decode cX5_pointerOf 9 = .ok (.iload_n 1, 1) := by decide +kernel
theorem dX5_pointerOf_10 : decode cX5_pointerOf 10 = .ok (.ireturn, 1) := by decide +kernel
theorem dX5_pointerOf_11 : decode cX5_pointerOf 11 = .ok (.iconst 0, 1) := by decide +kernel
theorem dX5_pointerOf_12 : decode cX5_pointerOf 12 = .ok (.istore_n 2, 1) := by decide +kernel
theorem dX5_pointerOf_13 : decode cX5_pointerOf 13 = .ok (.aload_n 0, 1) := by decide +kernel
theorem dX5_pointerOf_14 : decode cX5_pointerOf 14 = .ok (.getfield 7, 3) := by decide +kernel
theorem dX5_pointerOf_17 : decode cX5_pointerOf 17 = .ok (.iconst 0, 1) := by decide +kernel
theorem dX5_pointerOf_18 : decode cX5_pointerOf 18 = .ok (.iaload, 1) := by decide +kernel
theorem dX5_pointerOf_19 : decode cX5_pointerOf 19 = .ok (.istore_n 3, 1) := by decide +kernel
theorem dX5_pointerOf_20 : decode cX5_pointerOf 20 = .ok (.iload_n 3, 1) := by decide +kernel
theorem dX5_pointerOf_21 : decode cX5_pointerOf 21 = .ok (.ifCond .lt 31, 3) := by decide +kernel
theorem dX5_pointerOf_24 : decode cX5_pointerOf 24 = .ok (.iload_n 2, 1) := by decide +kernel
theorem dX5_pointerOf_25 : decode cX5_pointerOf 25 = .ok (.iload_n 3, 1) := by decide +kernel
theorem dX5_pointerOf_26 : decode cX5_pointerOf 26 = .ok (.iconst 1, 1) := by decide +kernel
theorem dX5_pointerOf_27 : decode cX5_pointerOf 27 = .ok (.iadd, 1) := by decide +kernel
theorem dX5_pointerOf_28 : decode cX5_pointerOf 28 = .ok (.ishr, 1) := by decide +kernel
theorem dX5_pointerOf_29 : decode cX5_pointerOf 29 = .ok (.iconst 1, 1) := by decide +kernel
theorem dX5_pointerOf_30 : decode cX5_pointerOf 30 = .ok (.iand, 1) := by decide +kernel
theorem dX5_pointerOf_31 : decode cX5_pointerOf 31 = .ok (.istore 4, 2) := by decide +kernel
theorem dX5_pointerOf_33 : decode cX5_pointerOf 33 = .ok (.iload_n 2, 1) := by decide +kernel
theorem dX5_pointerOf_34 : decode cX5_pointerOf 34 = .ok (.iload_n 1, 1) := by decide +kernel
theorem dX5_pointerOf_35 : decode cX5_pointerOf 35 = .ok (.iload_n 3, 1) := by decide +kernel
theorem dX5_pointerOf_36 : decode cX5_pointerOf 36 = .ok (.ishr, 1) := by decide +kernel
theorem dX5_pointerOf_37 : decode cX5_pointerOf 37 = .ok (.iconst 1, 1) := by decide +kernel
theorem dX5_pointerOf_38 : decode cX5_pointerOf 38 = .ok (.iand, 1) := by decide +kernel
theorem dX5_pointerOf_39 : decode cX5_pointerOf 39 = .ok (.iload 4, 2) := by decide +kernel
theorem dX5_pointerOf_41 : decode cX5_pointerOf 41 = .ok (.ixor, 1) := by decide +kernel
theorem dX5_pointerOf_42 : decode cX5_pointerOf 42 = .ok (.iload_n 3, 1) := by decide +kernel
theorem dX5_pointerOf_43 : decode cX5_pointerOf 43 = .ok (.ishl, 1) := by decide +kernel
theorem dX5_pointerOf_44 : decode cX5_pointerOf 44 = .ok (.ior, 1) := by decide +kernel
theorem dX5_pointerOf_45 : decode cX5_pointerOf 45 = .ok (.istore_n 2, 1) := by decide +kernel
theorem dX5_pointerOf_46 : decode cX5_pointerOf 46 = .ok (.iinc 3 (-1), 3) := by decide +kernel
theorem dX5_pointerOf_49 : decode cX5_pointerOf 49 = .ok (.goto (-29), 3) := by decide +kernel
theorem dX5_pointerOf_52 : decode cX5_pointerOf 52 = .ok (.iload_n 2, 1) := by decide +kernel
theorem dX5_pointerOf_53 : decode cX5_pointerOf 53 = .ok (.ireturn, 1) := by decide +kernel
theorem dX5_around_0 : decode cX5_around 0 = .ok (.iload_n 1, 1) := by decide +kernel
theorem dX5_around_1 : decode cX5_around 1 = .ok (.iconst 2, 1) := by decide +kernel
theorem dX5_around_2 : decode cX5_around 2 = .ok (.aload_n 0, 1) := by decide +kernel
theorem dX5_around_3 : decode cX5_around 3 = .ok (.invokevirtual 40, 3) := by decide +kernel
theorem dX5_around_6 : decode cX5_around 6 = .ok (.imul, 1) := by decide +kernel
theorem dX5_around_7 : decode cX5_around 7 = .ok (.iconst 1, 1) := by decide +kernel
theorem dX5_around_8 : decode cX5_around 8 = .ok (.isub, 1) := by decide +kernel
theorem dX5_around_9 : decode cX5_around 9 = .ok (.iand, 1) := by decide +kernel
theorem dX5_around_10 : decode cX5_around 10 = .ok (.ireturn, 1) := by decide +kernel
theorem dX5_seen_0 : decode cX5_seen 0 = .ok (.aload_n 0, 1) := by decide +kernel
theorem dX5_seen_1 : decode cX5_seen 1 = .ok (.aload_n 0, 1) := by decide +kernel
theorem dX5_seen_2 : decode cX5_seen 2 = .ok (.iload_n 1, 1) := by decide +kernel
theorem dX5_seen_3 : decode cX5_seen 3 = .ok (.iconst 5, 1) := by decide +kernel
theorem dX5_seen_4 : decode cX5_seen 4 = .ok (.invokevirtual 44, 3) := by decide +kernel
theorem dX5_seen_7 : decode cX5_seen 7 = .ok (.invokevirtual 48, 3) := by decide +kernel
theorem dX5_seen_10 : decode cX5_seen 10 = .ok (.ireturn, 1) := by decide +kernel
theorem dX5_fillSeen_0 : decode cX5_fillSeen 0 = .ok (.iload_n 1, 1) := by decide +kernel
theorem dX5_fillSeen_1 : decode cX5_fillSeen 1 = .ok (.ifCond .ne 22, 3) := by decide +kernel
theorem dX5_fillSeen_4 : decode cX5_fillSeen 4 = .ok (.aload_n 0, 1) := by decide +kernel
theorem dX5_fillSeen_5 : decode cX5_fillSeen 5 = .ok (.aload_n 0, 1) := by decide +kernel
theorem dX5_fillSeen_6 : decode cX5_fillSeen 6 = .ok (.iconst 0, 1) := by decide +kernel
theorem dX5_fillSeen_7 : decode cX5_fillSeen 7 = .ok (.iconst 3, 1) := by decide +kernel
theorem dX5_fillSeen_8 : decode cX5_fillSeen 8 = .ok (.invokevirtual 44, 3) := by decide +kernel
theorem dX5_fillSeen_11 : decode cX5_fillSeen 11 = .ok (.aload_n 0, 1) := by decide +kernel
theorem dX5_fillSeen_12 : decode cX5_fillSeen 12 = .ok (.iconst 0, 1) := by decide +kernel
theorem dX5_fillSeen_13 : decode cX5_fillSeen 13 = .ok (.invokevirtual 52, 3) := by decide +kernel
theorem dX5_fillSeen_16 : decode cX5_fillSeen 16 = .ok (.isub, 1) := by decide +kernel
theorem dX5_fillSeen_17 : decode cX5_fillSeen 17 = .ok (.invokevirtual 55, 3) := by decide +kernel
theorem dX5_fillSeen_20 : decode cX5_fillSeen 20 = .ok (.goto 19, 3) := by decide +kernel
theorem dX5_fillSeen_23 : decode cX5_fillSeen 23 = .ok (.aload_n 0, 1) := by decide +kernel
theorem dX5_fillSeen_24 : decode cX5_fillSeen 24 = .ok (.aload_n 0, 1) := by decide +kernel
theorem dX5_fillSeen_25 : decode cX5_fillSeen 25 = .ok (.iconst 1, 1) := by decide +kernel
theorem dX5_fillSeen_26 : decode cX5_fillSeen 26 = .ok (.invokevirtual 52, 3) := by decide +kernel
theorem dX5_fillSeen_29 : decode cX5_fillSeen 29 = .ok (.aload_n 0, 1) := by decide +kernel
theorem dX5_fillSeen_30 : decode cX5_fillSeen 30 = .ok (.iconst 1, 1) := by decide +kernel
theorem dX5_fillSeen_31 : decode cX5_fillSeen 31 = .ok (.iconst 3, 1) := by decide +kernel
theorem dX5_fillSeen_32 : decode cX5_fillSeen 32 = .ok (.invokevirtual 44, 3) := by decide +kernel
theorem dX5_fillSeen_35 : decode cX5_fillSeen 35 = .ok (.isub, 1) := by decide +kernel
theorem dX5_fillSeen_36 : decode cX5_fillSeen 36 = .ok (.invokevirtual 55, 3) := by decide +kernel
theorem dX5_fillSeen_39 : decode cX5_fillSeen 39 = .ok (.ireturn, 1) := by decide +kernel
theorem dX5_seems_0 : decode cX5_seems 0 = .ok (.aload_n 0, 1) := by decide +kernel
theorem dX5_seems_1 : decode cX5_seems 1 = .ok (.iload_n 1, 1) := by decide +kernel
theorem dX5_seems_2 : decode cX5_seems 2 = .ok (.invokevirtual 58, 3) := by decide +kernel
theorem dX5_seems_5 : decode cX5_seems 5 = .ok (.iload_n 1, 1) := by decide +kernel
theorem dX5_seems_6 : decode cX5_seems 6 = .ok (.ifCond .ne 10, 3) := by decide +kernel
theorem dX5_seems_9 : decode cX5_seems 9 = .ok (.aload_n 0, 1) := by decide +kernel
theorem dX5_seems_10 : decode cX5_seems 10 = .ok (.invokevirtual 40, 3) := by decide +kernel
theorem dX5_seems_13 : decode cX5_seems 13 = .ok (.goto 4, 3) := by decide +kernel
theorem dX5_seems_16 : decode cX5_seems 16 = .ok (.iconst 0, 1) := by decide +kernel
theorem dX5_seems_17 : decode cX5_seems 17 = .ok (.if_icmp .ne 7, 3) := by decide +kernel
theorem dX5_seems_20 : decode cX5_seems 20 = .ok (.iconst 1, 1) := by decide +kernel
theorem dX5_seems_21 : decode cX5_seems 21 = .ok (.goto 4, 3) := by decide +kernel
theorem dX5_seems_24 : decode cX5_seems 24 = .ok (.iconst 0, 1) := by decide +kernel
theorem dX5_seems_25 : decode cX5_seems 25 = .ok (.ireturn, 1) := by decide +kernel
theorem dX5_ticksAt_0 : decode cX5_ticksAt 0 = .ok (.aload_n 0, 1) := by decide +kernel
theorem dX5_ticksAt_1 : decode cX5_ticksAt 1 = .ok (.iload_n 1, 1) := by decide +kernel
theorem dX5_ticksAt_2 : decode cX5_ticksAt 2 = .ok (.iconst 2, 1) := by decide +kernel
theorem dX5_ticksAt_3 : decode cX5_ticksAt 3 = .ok (.invokevirtual 44, 3) := by decide +kernel
theorem dX5_ticksAt_6 : decode cX5_ticksAt 6 = .ok (.iconst 1, 1) := by decide +kernel
theorem dX5_ticksAt_7 : decode cX5_ticksAt 7 = .ok (.if_icmp .ne 25, 3) := by decide +kernel
theorem dX5_ticksAt_10 : decode cX5_ticksAt 10 = .ok (.iload_n 2, 1) := by decide +kernel
theorem dX5_ticksAt_11 : decode cX5_ticksAt 11 = .ok (.aload_n 0, 1) := by decide +kernel
theorem dX5_ticksAt_12 : decode cX5_ticksAt 12 = .ok (.iload_n 1, 1) := by decide +kernel
theorem dX5_ticksAt_13 : decode cX5_ticksAt 13 = .ok (.iconst 1, 1) := by decide +kernel
theorem dX5_ticksAt_14 : decode cX5_ticksAt 14 = .ok (.invokevirtual 44, 3) := by decide +kernel
theorem dX5_ticksAt_17 : decode cX5_ticksAt 17 = .ok (.iadd, 1) := by decide +kernel
theorem dX5_ticksAt_18 : decode cX5_ticksAt 18 = .ok (.aload_n 0, 1) := by decide +kernel
theorem dX5_ticksAt_19 : decode cX5_ticksAt 19 = .ok (.iload_n 1, 1) := by decide +kernel
theorem dX5_ticksAt_20 : decode cX5_ticksAt 20 = .ok (.iconst 0, 1) := by decide +kernel
theorem dX5_ticksAt_21 : decode cX5_ticksAt 21 = .ok (.invokevirtual 44, 3) := by decide +kernel
theorem dX5_ticksAt_24 : decode cX5_ticksAt 24 = .ok (.irem, 1) := by decide +kernel
theorem dX5_ticksAt_25 : decode cX5_ticksAt 25 = .ok (.ifCond .ne 7, 3) := by decide +kernel
theorem dX5_ticksAt_28 : decode cX5_ticksAt 28 = .ok (.iconst 1, 1) := by decide +kernel
theorem dX5_ticksAt_29 : decode cX5_ticksAt 29 = .ok (.goto 4, 3) := by decide +kernel
theorem dX5_ticksAt_32 : decode cX5_ticksAt 32 = .ok (.iconst 0, 1) := by decide +kernel
theorem dX5_ticksAt_33 : decode cX5_ticksAt 33 = .ok (.ireturn, 1) := by decide +kernel
theorem dX5_acts_0 : decode cX5_acts 0 = .ok (.iload_n 2, 1) := by decide +kernel
theorem dX5_acts_1 : decode cX5_acts 1 = .ok (.ifCond .eq 29, 3) := by decide +kernel
theorem dX5_acts_4 : decode cX5_acts 4 = .ok (.aload_n 0, 1) := by decide +kernel
theorem dX5_acts_5 : decode cX5_acts 5 = .ok (.iload_n 1, 1) := by decide +kernel
theorem dX5_acts_6 : decode cX5_acts 6 = .ok (.invokevirtual 61, 3) := by decide +kernel
theorem dX5_acts_9 : decode cX5_acts 9 = .ok (.ifCond .ne 21, 3) := by decide +kernel
theorem dX5_acts_12 : decode cX5_acts 12 = .ok (.iload_n 1, 1) := by decide +kernel
theorem dX5_acts_13 : decode cX5_acts 13 = .ok (.iconst 1, 1) := by decide +kernel
theorem dX5_acts_14 : decode cX5_acts 14 = .ok (.if_icmp .eq 12, 3) := by decide +kernel
theorem dX5_acts_17 : decode cX5_acts 17 = .ok (.aload_n 0, 1) := by decide +kernel
theorem dX5_acts_18 : decode cX5_acts 18 = .ok (.getfield 7, 3) := by decide +kernel
theorem dX5_acts_21 : decode cX5_acts 21 = .ok (.iconst 5, 1) := by decide +kernel
theorem dX5_acts_22 : decode cX5_acts 22 = .ok (.iaload, 1) := by decide +kernel
theorem dX5_acts_23 : decode cX5_acts 23 = .ok (.ifCond .le 7, 3) := by decide +kernel
theorem dX5_acts_26 : decode cX5_acts 26 = .ok (.iconst 1, 1) := by decide +kernel
theorem dX5_acts_27 : decode cX5_acts 27 = .ok (.goto 4, 3) := by decide +kernel
theorem dX5_acts_30 : decode cX5_acts 30 = .ok (.iconst 0, 1) := by decide +kernel
theorem dX5_acts_31 : decode cX5_acts 31 = .ok (.ireturn, 1) := by decide +kernel
theorem dX5_sampleOf_0 : decode cX5_sampleOf 0 = .ok (.aload_n 0, 1) := by decide +kernel
theorem dX5_sampleOf_1 : decode cX5_sampleOf 1 = .ok (.iload_n 1, 1) := by decide +kernel
theorem dX5_sampleOf_2 : decode cX5_sampleOf 2 = .ok (.invokevirtual 65, 3) := by decide +kernel
theorem dX5_sampleOf_5 : decode cX5_sampleOf 5 = .ok (.istore_n 3, 1) := by decide +kernel
theorem dX5_sampleOf_6 : decode cX5_sampleOf 6 = .ok (.iload_n 2, 1) := by decide +kernel
theorem dX5_sampleOf_7 : decode cX5_sampleOf 7 = .ok (.ifCond .eq 17, 3) := by decide +kernel
theorem dX5_sampleOf_10 : decode cX5_sampleOf 10 = .ok (.aload_n 0, 1) := by decide +kernel
theorem dX5_sampleOf_11 : decode cX5_sampleOf 11 = .ok (.aload_n 0, 1) := by decide +kernel
theorem dX5_sampleOf_12 : decode cX5_sampleOf 12 = .ok (.iload_n 1, 1) := by decide +kernel
theorem dX5_sampleOf_13 : decode cX5_sampleOf 13 = .ok (.iconst 1, 1) := by decide +kernel
theorem dX5_sampleOf_14 : decode cX5_sampleOf 14 = .ok (.iadd, 1) := by decide +kernel
theorem dX5_sampleOf_15 : decode cX5_sampleOf 15 = .ok (.invokevirtual 55, 3) := by decide +kernel
theorem dX5_sampleOf_18 : decode cX5_sampleOf 18 = .ok (.invokevirtual 65, 3) := by decide +kernel
theorem dX5_sampleOf_21 : decode cX5_sampleOf 21 = .ok (.goto 4, 3) := by decide +kernel
theorem dX5_sampleOf_24 : decode cX5_sampleOf 24 = .ok (.iload_n 3, 1) := by decide +kernel
theorem dX5_sampleOf_25 : decode cX5_sampleOf 25 = .ok (.istore 4, 2) := by decide +kernel
theorem dX5_sampleOf_27 : decode cX5_sampleOf 27 = .ok (.iload_n 3, 1) := by decide +kernel
theorem dX5_sampleOf_28 : decode cX5_sampleOf 28 = .ok (.bipush 21, 2) := by decide +kernel
theorem dX5_sampleOf_30 : decode cX5_sampleOf 30 = .ok (.iand, 1) := by decide +kernel
theorem dX5_sampleOf_31 : decode cX5_sampleOf 31 = .ok (.iload 4, 2) := by decide +kernel
theorem dX5_sampleOf_33 : decode cX5_sampleOf 33 = .ok (.bipush 10, 2) := by decide +kernel
theorem dX5_sampleOf_35 : decode cX5_sampleOf 35 = .ok (.iand, 1) := by decide +kernel
theorem dX5_sampleOf_36 : decode cX5_sampleOf 36 = .ok (.ior, 1) := by decide +kernel
theorem dX5_sampleOf_37 : decode cX5_sampleOf 37 = .ok (.ireturn, 1) := by decide +kernel
theorem dX5_samples_0 : decode cX5_samples 0 = .ok (.aload_n 0, 1) := by decide +kernel
theorem dX5_samples_1 : decode cX5_samples 1 = .ok (.iload_n 1, 1) := by decide +kernel
theorem dX5_samples_2 : decode cX5_samples 2 = .ok (.iconst 5, 1) := by decide +kernel
theorem dX5_samples_3 : decode cX5_samples 3 = .ok (.aload_n 0, 1) := by decide +kernel
theorem dX5_samples_4 : decode cX5_samples 4 = .ok (.iload_n 1, 1) := by decide +kernel
theorem dX5_samples_5 : decode cX5_samples 5 = .ok (.iconst 4, 1) := by decide +kernel
theorem dX5_samples_6 : decode cX5_samples 6 = .ok (.invokevirtual 44, 3) := by decide +kernel
theorem dX5_samples_9 : decode cX5_samples 9 = .ok (.invokevirtual 68, 3) := by decide +kernel
theorem dX5_samples_12 : decode cX5_samples 12 = .ok (.aload_n 0, 1) := by decide +kernel
theorem dX5_samples_13 : decode cX5_samples 13 = .ok (.iload_n 1, 1) := by decide +kernel
theorem dX5_samples_14 : decode cX5_samples 14 = .ok (.iconst 4, 1) := by decide +kernel
theorem dX5_samples_15 : decode cX5_samples 15 = .ok (.iload_n 2, 1) := by decide +kernel
theorem dX5_samples_16 : decode cX5_samples 16 = .ok (.invokevirtual 68, 3) := by decide +kernel
theorem dX5_samples_19 : decode cX5_samples 19 = .ok (.aload_n 0, 1) := by decide +kernel
theorem dX5_samples_20 : decode cX5_samples 20 = .ok (.iload_n 1, 1) := by decide +kernel
theorem dX5_samples_21 : decode cX5_samples 21 = .ok (.bipush 6, 2) := by decide +kernel
theorem dX5_samples_23 : decode cX5_samples 23 = .ok (.aload_n 0, 1) := by decide +kernel
theorem dX5_samples_24 : decode cX5_samples 24 = .ok (.iload_n 1, 1) := by decide +kernel
theorem dX5_samples_25 : decode cX5_samples 25 = .ok (.bipush 6, 2) := by decide +kernel
theorem dX5_samples_27 : decode cX5_samples 27 = .ok (.invokevirtual 44, 3) := by decide +kernel
theorem dX5_samples_30 : decode cX5_samples 30 = .ok (.iconst 1, 1) := by decide +kernel
theorem dX5_samples_31 : decode cX5_samples 31 = .ok (.iadd, 1) := by decide +kernel
theorem dX5_samples_32 : decode cX5_samples 32 = .ok (.invokevirtual 68, 3) := by decide +kernel
theorem dX5_samples_35 : decode cX5_samples 35 = .ok (.aload_n 0, 1) := by decide +kernel
theorem dX5_samples_36 : decode cX5_samples 36 = .ok (.iload_n 1, 1) := by decide +kernel
theorem dX5_samples_37 : decode cX5_samples 37 = .ok (.bipush 7, 2) := by decide +kernel
theorem dX5_samples_39 : decode cX5_samples 39 = .ok (.aload_n 0, 1) := by decide +kernel
theorem dX5_samples_40 : decode cX5_samples 40 = .ok (.iload_n 1, 1) := by decide +kernel
theorem dX5_samples_41 : decode cX5_samples 41 = .ok (.bipush 7, 2) := by decide +kernel
theorem dX5_samples_43 : decode cX5_samples 43 = .ok (.invokevirtual 44, 3) := by decide +kernel
theorem dX5_samples_46 : decode cX5_samples 46 = .ok (.iload_n 3, 1) := by decide +kernel
theorem dX5_samples_47 : decode cX5_samples 47 = .ok (.ifCond .eq 7, 3) := by decide +kernel
theorem dX5_samples_50 : decode cX5_samples 50 = .ok (.iconst 1, 1) := by decide +kernel
theorem dX5_samples_51 : decode cX5_samples 51 = .ok (.goto 4, 3) := by decide +kernel
theorem dX5_samples_54 : decode cX5_samples 54 = .ok (.iconst 0, 1) := by decide +kernel
theorem dX5_samples_55 : decode cX5_samples 55 = .ok (.iadd, 1) := by decide +kernel
theorem dX5_samples_56 : decode cX5_samples 56 = .ok (.invokevirtual 68, 3) := by decide +kernel
theorem dX5_samples_59 : decode cX5_samples 59 = .ok (.return_, 1) := by decide +kernel
theorem dX5_tells_0 : decode cX5_tells 0 = .ok (.bipush 15, 2) := by decide +kernel
theorem dX5_tells_2 : decode cX5_tells 2 = .ok (.istore_n 3, 1) := by decide +kernel
theorem dX5_tells_3 : decode cX5_tells 3 = .ok (.iload_n 3, 1) := by decide +kernel
theorem dX5_tells_4 : decode cX5_tells 4 = .ok (.ifCond .le 29, 3) := by decide +kernel
theorem dX5_tells_7 : decode cX5_tells 7 = .ok (.aload_n 0, 1) := by decide +kernel
theorem dX5_tells_8 : decode cX5_tells 8 = .ok (.getfield 7, 3) := by decide +kernel
theorem dX5_tells_11 : decode cX5_tells 11 = .ok (.bipush 79, 2) := by decide +kernel
theorem dX5_tells_13 : decode cX5_tells 13 = .ok (.iload_n 3, 1) := by decide +kernel
theorem dX5_tells_14 : decode cX5_tells 14 = .ok (.iadd, 1) := by decide +kernel
theorem dX5_tells_15 : decode cX5_tells 15 = .ok (.aload_n 0, 1) := by decide +kernel
theorem dX5_tells_16 : decode cX5_tells 16 = .ok (.getfield 7, 3) := by decide +kernel
theorem dX5_tells_19 : decode cX5_tells 19 = .ok (.bipush 79, 2) := by decide +kernel
theorem dX5_tells_21 : decode cX5_tells 21 = .ok (.iload_n 3, 1) := by decide +kernel
theorem dX5_tells_22 : decode cX5_tells 22 = .ok (.iadd, 1) := by decide +kernel
theorem dX5_tells_23 : decode cX5_tells 23 = .ok (.iconst 1, 1) := by decide +kernel
theorem dX5_tells_24 : decode cX5_tells 24 = .ok (.isub, 1) := by decide +kernel
theorem dX5_tells_25 : decode cX5_tells 25 = .ok (.iaload, 1) := by decide +kernel
theorem dX5_tells_26 : decode cX5_tells 26 = .ok (.iastore, 1) := by decide +kernel
theorem dX5_tells_27 : decode cX5_tells 27 = .ok (.iinc 3 (-1), 3) := by decide +kernel
theorem dX5_tells_30 : decode cX5_tells 30 = .ok (.goto (-27), 3) := by decide +kernel
theorem dX5_tells_33 : decode cX5_tells 33 = .ok (.aload_n 0, 1) := by decide +kernel
theorem dX5_tells_34 : decode cX5_tells 34 = .ok (.getfield 7, 3) := by decide +kernel
theorem dX5_tells_37 : decode cX5_tells 37 = .ok (.bipush 79, 2) := by decide +kernel
theorem dX5_tells_39 : decode cX5_tells 39 = .ok (.iload_n 2, 1) := by decide +kernel
theorem dX5_tells_40 : decode cX5_tells 40 = .ok (.ifCond .eq 7, 3) := by decide +kernel
theorem dX5_tells_43 : decode cX5_tells 43 = .ok (.iload_n 1, 1) := by decide +kernel
theorem dX5_tells_44 : decode cX5_tells 44 = .ok (.goto 7, 3) := by decide +kernel
theorem dX5_tells_47 : decode cX5_tells 47 = .ok (.iload_n 1, 1) := by decide +kernel
theorem dX5_tells_48 : decode cX5_tells 48 = .ok (.bipush 100, 2) := by decide +kernel
theorem dX5_tells_50 : decode cX5_tells 50 = .ok (.iadd, 1) := by decide +kernel
theorem dX5_tells_51 : decode cX5_tells 51 = .ok (.iastore, 1) := by decide +kernel
theorem dX5_tells_52 : decode cX5_tells 52 = .ok (.aload_n 0, 1) := by decide +kernel
theorem dX5_tells_53 : decode cX5_tells 53 = .ok (.getfield 7, 3) := by decide +kernel
theorem dX5_tells_56 : decode cX5_tells 56 = .ok (.bipush 10, 2) := by decide +kernel
theorem dX5_tells_58 : decode cX5_tells 58 = .ok (.dup2, 1) := by decide +kernel
theorem dX5_tells_59 : decode cX5_tells 59 = .ok (.iaload, 1) := by decide +kernel
theorem dX5_tells_60 : decode cX5_tells 60 = .ok (.aload_n 0, 1) := by decide +kernel
theorem dX5_tells_61 : decode cX5_tells 61 = .ok (.getfield 7, 3) := by decide +kernel
theorem dX5_tells_64 : decode cX5_tells 64 = .ok (.bipush 10, 2) := by decide +kernel
theorem dX5_tells_66 : decode cX5_tells 66 = .ok (.iaload, 1) := by decide +kernel
theorem dX5_tells_67 : decode cX5_tells 67 = .ok (.bipush 16, 2) := by decide +kernel
theorem dX5_tells_69 : decode cX5_tells 69 = .ok (.if_icmp .ge 7, 3) := by decide +kernel
theorem dX5_tells_72 : decode cX5_tells 72 = .ok (.iconst 1, 1) := by decide +kernel
theorem dX5_tells_73 : decode cX5_tells 73 = .ok (.goto 4, 3) := by decide +kernel
theorem dX5_tells_76 : decode cX5_tells 76 = .ok (.iconst 0, 1) := by decide +kernel
theorem dX5_tells_77 : decode cX5_tells 77 = .ok (.iadd, 1) := by decide +kernel
theorem dX5_tells_78 : decode cX5_tells 78 = .ok (.iastore, 1) := by decide +kernel
theorem dX5_tells_79 : decode cX5_tells 79 = .ok (.return_, 1) := by decide +kernel
theorem dX5_takes_0 : decode cX5_takes 0 = .ok (.aload_n 0, 1) := by decide +kernel
theorem dX5_takes_1 : decode cX5_takes 1 = .ok (.iconst 1, 1) := by decide +kernel
theorem dX5_takes_2 : decode cX5_takes 2 = .ok (.iconst 3, 1) := by decide +kernel
theorem dX5_takes_3 : decode cX5_takes 3 = .ok (.invokevirtual 44, 3) := by decide +kernel
theorem dX5_takes_6 : decode cX5_takes 6 = .ok (.aload_n 0, 1) := by decide +kernel
theorem dX5_takes_7 : decode cX5_takes 7 = .ok (.invokevirtual 40, 3) := by decide +kernel
theorem dX5_takes_10 : decode cX5_takes 10 = .ok (.iconst 1, 1) := by decide +kernel
theorem dX5_takes_11 : decode cX5_takes 11 = .ok (.isub, 1) := by decide +kernel
theorem dX5_takes_12 : decode cX5_takes 12 = .ok (.iand, 1) := by decide +kernel
theorem dX5_takes_13 : decode cX5_takes 13 = .ok (.istore_n 1, 1) := by decide +kernel
theorem dX5_takes_14 : decode cX5_takes 14 = .ok (.aload_n 0, 1) := by decide +kernel
theorem dX5_takes_15 : decode cX5_takes 15 = .ok (.getfield 7, 3) := by decide +kernel
theorem dX5_takes_18 : decode cX5_takes 18 = .ok (.bipush 63, 2) := by decide +kernel
theorem dX5_takes_20 : decode cX5_takes 20 = .ok (.iload_n 1, 1) := by decide +kernel
theorem dX5_takes_21 : decode cX5_takes 21 = .ok (.iadd, 1) := by decide +kernel
theorem dX5_takes_22 : decode cX5_takes 22 = .ok (.iaload, 1) := by decide +kernel
theorem dX5_takes_23 : decode cX5_takes 23 = .ok (.aload_n 0, 1) := by decide +kernel
theorem dX5_takes_24 : decode cX5_takes 24 = .ok (.getfield 7, 3) := by decide +kernel
theorem dX5_takes_27 : decode cX5_takes 27 = .ok (.bipush 7, 2) := by decide +kernel
theorem dX5_takes_29 : decode cX5_takes 29 = .ok (.iaload, 1) := by decide +kernel
theorem dX5_takes_30 : decode cX5_takes 30 = .ok (.if_icmp .ne 7, 3) := by decide +kernel
theorem dX5_takes_33 : decode cX5_takes 33 = .ok (.iconst 1, 1) := by decide +kernel
theorem dX5_takes_34 : decode cX5_takes 34 = .ok (.goto 4, 3) := by decide +kernel
theorem dX5_takes_37 : decode cX5_takes 37 = .ok (.iconst 0, 1) := by decide +kernel
theorem dX5_takes_38 : decode cX5_takes 38 = .ok (.istore_n 2, 1) := by decide +kernel
theorem dX5_takes_39 : decode cX5_takes 39 = .ok (.aload_n 0, 1) := by decide +kernel
theorem dX5_takes_40 : decode cX5_takes 40 = .ok (.aload_n 0, 1) := by decide +kernel
theorem dX5_takes_41 : decode cX5_takes 41 = .ok (.getfield 7, 3) := by decide +kernel
theorem dX5_takes_44 : decode cX5_takes 44 = .ok (.bipush 47, 2) := by decide +kernel
theorem dX5_takes_46 : decode cX5_takes 46 = .ok (.iload_n 1, 1) := by decide +kernel
theorem dX5_takes_47 : decode cX5_takes 47 = .ok (.iadd, 1) := by decide +kernel
theorem dX5_takes_48 : decode cX5_takes 48 = .ok (.iaload, 1) := by decide +kernel
theorem dX5_takes_49 : decode cX5_takes 49 = .ok (.iload_n 2, 1) := by decide +kernel
theorem dX5_takes_50 : decode cX5_takes 50 = .ok (.invokevirtual 72, 3) := by decide +kernel
theorem dX5_takes_53 : decode cX5_takes 53 = .ok (.aload_n 0, 1) := by decide +kernel
theorem dX5_takes_54 : decode cX5_takes 54 = .ok (.getfield 7, 3) := by decide +kernel
theorem dX5_takes_57 : decode cX5_takes 57 = .ok (.bipush 7, 2) := by decide +kernel
theorem dX5_takes_59 : decode cX5_takes 59 = .ok (.dup2, 1) := by decide +kernel
theorem dX5_takes_60 : decode cX5_takes 60 = .ok (.iaload, 1) := by decide +kernel
theorem dX5_takes_61 : decode cX5_takes 61 = .ok (.iconst 1, 1) := by decide +kernel
theorem dX5_takes_62 : decode cX5_takes 62 = .ok (.iadd, 1) := by decide +kernel
theorem dX5_takes_63 : decode cX5_takes 63 = .ok (.iastore, 1) := by decide +kernel
theorem dX5_takes_64 : decode cX5_takes 64 = .ok (.aload_n 0, 1) := by decide +kernel
theorem dX5_takes_65 : decode cX5_takes 65 = .ok (.getfield 7, 3) := by decide +kernel
theorem dX5_takes_68 : decode cX5_takes 68 = .ok (.iload_n 2, 1) := by decide +kernel
theorem dX5_takes_69 : decode cX5_takes 69 = .ok (.ifCond .eq 8, 3) := by decide +kernel
theorem dX5_takes_72 : decode cX5_takes 72 = .ok (.bipush 8, 2) := by decide +kernel
theorem dX5_takes_74 : decode cX5_takes 74 = .ok (.goto 5, 3) := by decide +kernel
theorem dX5_takes_77 : decode cX5_takes 77 = .ok (.bipush 9, 2) := by decide +kernel
theorem dX5_takes_79 : decode cX5_takes 79 = .ok (.dup2, 1) := by decide +kernel
theorem dX5_takes_80 : decode cX5_takes 80 = .ok (.iaload, 1) := by decide +kernel
theorem dX5_takes_81 : decode cX5_takes 81 = .ok (.iconst 1, 1) := by decide +kernel
theorem dX5_takes_82 : decode cX5_takes 82 = .ok (.iadd, 1) := by decide +kernel
theorem dX5_takes_83 : decode cX5_takes 83 = .ok (.iastore, 1) := by decide +kernel
theorem dX5_takes_84 : decode cX5_takes 84 = .ok (.aload_n 0, 1) := by decide +kernel
theorem dX5_takes_85 : decode cX5_takes 85 = .ok (.iconst 1, 1) := by decide +kernel
theorem dX5_takes_86 : decode cX5_takes 86 = .ok (.iconst 3, 1) := by decide +kernel
theorem dX5_takes_87 : decode cX5_takes 87 = .ok (.aload_n 0, 1) := by decide +kernel
theorem dX5_takes_88 : decode cX5_takes 88 = .ok (.aload_n 0, 1) := by decide +kernel
theorem dX5_takes_89 : decode cX5_takes 89 = .ok (.iconst 1, 1) := by decide +kernel
theorem dX5_takes_90 : decode cX5_takes 90 = .ok (.iconst 3, 1) := by decide +kernel
theorem dX5_takes_91 : decode cX5_takes 91 = .ok (.invokevirtual 44, 3) := by decide +kernel
theorem dX5_takes_94 : decode cX5_takes 94 = .ok (.iconst 1, 1) := by decide +kernel
theorem dX5_takes_95 : decode cX5_takes 95 = .ok (.iadd, 1) := by decide +kernel
theorem dX5_takes_96 : decode cX5_takes 96 = .ok (.invokevirtual 55, 3) := by decide +kernel
theorem dX5_takes_99 : decode cX5_takes 99 = .ok (.invokevirtual 68, 3) := by decide +kernel
theorem dX5_takes_102 : decode cX5_takes 102 = .ok (.return_, 1) := by decide +kernel
theorem dX5_puts_0 : decode cX5_puts 0 = .ok (.aload_n 0, 1) := by decide +kernel
theorem dX5_puts_1 : decode cX5_puts 1 = .ok (.iconst 0, 1) := by decide +kernel
theorem dX5_puts_2 : decode cX5_puts 2 = .ok (.iconst 3, 1) := by decide +kernel
theorem dX5_puts_3 : decode cX5_puts 3 = .ok (.invokevirtual 44, 3) := by decide +kernel
theorem dX5_puts_6 : decode cX5_puts 6 = .ok (.aload_n 0, 1) := by decide +kernel
theorem dX5_puts_7 : decode cX5_puts 7 = .ok (.invokevirtual 40, 3) := by decide +kernel
theorem dX5_puts_10 : decode cX5_puts 10 = .ok (.iconst 1, 1) := by decide +kernel
theorem dX5_puts_11 : decode cX5_puts 11 = .ok (.isub, 1) := by decide +kernel
theorem dX5_puts_12 : decode cX5_puts 12 = .ok (.iand, 1) := by decide +kernel
theorem dX5_puts_13 : decode cX5_puts 13 = .ok (.istore_n 1, 1) := by decide +kernel
theorem dX5_puts_14 : decode cX5_puts 14 = .ok (.aload_n 0, 1) := by decide +kernel
theorem dX5_puts_15 : decode cX5_puts 15 = .ok (.getfield 7, 3) := by decide +kernel
theorem dX5_puts_18 : decode cX5_puts 18 = .ok (.bipush 47, 2) := by decide +kernel
theorem dX5_puts_20 : decode cX5_puts 20 = .ok (.iload_n 1, 1) := by decide +kernel
theorem dX5_puts_21 : decode cX5_puts 21 = .ok (.iadd, 1) := by decide +kernel
theorem dX5_puts_22 : decode cX5_puts 22 = .ok (.aload_n 0, 1) := by decide +kernel
theorem dX5_puts_23 : decode cX5_puts 23 = .ok (.getfield 7, 3) := by decide +kernel
theorem dX5_puts_26 : decode cX5_puts 26 = .ok (.bipush 27, 2) := by decide +kernel
theorem dX5_puts_28 : decode cX5_puts 28 = .ok (.iaload, 1) := by decide +kernel
theorem dX5_puts_29 : decode cX5_puts 29 = .ok (.iastore, 1) := by decide +kernel
theorem dX5_puts_30 : decode cX5_puts 30 = .ok (.aload_n 0, 1) := by decide +kernel
theorem dX5_puts_31 : decode cX5_puts 31 = .ok (.getfield 7, 3) := by decide +kernel
theorem dX5_puts_34 : decode cX5_puts 34 = .ok (.bipush 63, 2) := by decide +kernel
theorem dX5_puts_36 : decode cX5_puts 36 = .ok (.iload_n 1, 1) := by decide +kernel
theorem dX5_puts_37 : decode cX5_puts 37 = .ok (.iadd, 1) := by decide +kernel
theorem dX5_puts_38 : decode cX5_puts 38 = .ok (.aload_n 0, 1) := by decide +kernel
theorem dX5_puts_39 : decode cX5_puts 39 = .ok (.getfield 7, 3) := by decide +kernel
theorem dX5_puts_42 : decode cX5_puts 42 = .ok (.bipush 6, 2) := by decide +kernel
theorem dX5_puts_44 : decode cX5_puts 44 = .ok (.iaload, 1) := by decide +kernel
theorem dX5_puts_45 : decode cX5_puts 45 = .ok (.iastore, 1) := by decide +kernel
theorem dX5_puts_46 : decode cX5_puts 46 = .ok (.aload_n 0, 1) := by decide +kernel
theorem dX5_puts_47 : decode cX5_puts 47 = .ok (.getfield 7, 3) := by decide +kernel
theorem dX5_puts_50 : decode cX5_puts 50 = .ok (.bipush 6, 2) := by decide +kernel
theorem dX5_puts_52 : decode cX5_puts 52 = .ok (.dup2, 1) := by decide +kernel
theorem dX5_puts_53 : decode cX5_puts 53 = .ok (.iaload, 1) := by decide +kernel
theorem dX5_puts_54 : decode cX5_puts 54 = .ok (.iconst 1, 1) := by decide +kernel
theorem dX5_puts_55 : decode cX5_puts 55 = .ok (.iadd, 1) := by decide +kernel
theorem dX5_puts_56 : decode cX5_puts 56 = .ok (.iastore, 1) := by decide +kernel
theorem dX5_puts_57 : decode cX5_puts 57 = .ok (.aload_n 0, 1) := by decide +kernel
theorem dX5_puts_58 : decode cX5_puts 58 = .ok (.getfield 7, 3) := by decide +kernel
theorem dX5_puts_61 : decode cX5_puts 61 = .ok (.iconst 5, 1) := by decide +kernel
theorem dX5_puts_62 : decode cX5_puts 62 = .ok (.dup2, 1) := by decide +kernel
theorem dX5_puts_63 : decode cX5_puts 63 = .ok (.iaload, 1) := by decide +kernel
theorem dX5_puts_64 : decode cX5_puts 64 = .ok (.iconst 1, 1) := by decide +kernel
theorem dX5_puts_65 : decode cX5_puts 65 = .ok (.isub, 1) := by decide +kernel
theorem dX5_puts_66 : decode cX5_puts 66 = .ok (.iastore, 1) := by decide +kernel
theorem dX5_puts_67 : decode cX5_puts 67 = .ok (.iconst 0, 1) := by decide +kernel
theorem dX5_puts_68 : decode cX5_puts 68 = .ok (.istore_n 2, 1) := by decide +kernel
theorem dX5_puts_69 : decode cX5_puts 69 = .ok (.iload_n 2, 1) := by decide +kernel
theorem dX5_puts_70 : decode cX5_puts 70 = .ok (.aload_n 0, 1) := by decide +kernel
theorem dX5_puts_71 : decode cX5_puts 71 = .ok (.getfield 7, 3) := by decide +kernel
theorem dX5_puts_74 : decode cX5_puts 74 = .ok (.iconst 5, 1) := by decide +kernel
theorem dX5_puts_75 : decode cX5_puts 75 = .ok (.iaload, 1) := by decide +kernel
theorem dX5_puts_76 : decode cX5_puts 76 = .ok (.if_icmp .ge 29, 3) := by decide +kernel
theorem dX5_puts_79 : decode cX5_puts 79 = .ok (.aload_n 0, 1) := by decide +kernel
theorem dX5_puts_80 : decode cX5_puts 80 = .ok (.getfield 7, 3) := by decide +kernel
theorem dX5_puts_83 : decode cX5_puts 83 = .ok (.bipush 27, 2) := by decide +kernel
theorem dX5_puts_85 : decode cX5_puts 85 = .ok (.iload_n 2, 1) := by decide +kernel
theorem dX5_puts_86 : decode cX5_puts 86 = .ok (.iadd, 1) := by decide +kernel
theorem dX5_puts_87 : decode cX5_puts 87 = .ok (.aload_n 0, 1) := by decide +kernel
theorem dX5_puts_88 : decode cX5_puts 88 = .ok (.getfield 7, 3) := by decide +kernel
theorem dX5_puts_91 : decode cX5_puts 91 = .ok (.bipush 27, 2) := by decide +kernel
theorem dX5_puts_93 : decode cX5_puts 93 = .ok (.iload_n 2, 1) := by decide +kernel
theorem dX5_puts_94 : decode cX5_puts 94 = .ok (.iadd, 1) := by decide +kernel
theorem dX5_puts_95 : decode cX5_puts 95 = .ok (.iconst 1, 1) := by decide +kernel
theorem dX5_puts_96 : decode cX5_puts 96 = .ok (.iadd, 1) := by decide +kernel
theorem dX5_puts_97 : decode cX5_puts 97 = .ok (.iaload, 1) := by decide +kernel
theorem dX5_puts_98 : decode cX5_puts 98 = .ok (.iastore, 1) := by decide +kernel
theorem dX5_puts_99 : decode cX5_puts 99 = .ok (.iinc 2 1, 3) := by decide +kernel
theorem dX5_puts_102 : decode cX5_puts 102 = .ok (.goto (-33), 3) := by decide +kernel
theorem dX5_puts_105 : decode cX5_puts 105 = .ok (.aload_n 0, 1) := by decide +kernel
theorem dX5_puts_106 : decode cX5_puts 106 = .ok (.getfield 7, 3) := by decide +kernel
theorem dX5_puts_109 : decode cX5_puts 109 = .ok (.bipush 27, 2) := by decide +kernel
theorem dX5_puts_111 : decode cX5_puts 111 = .ok (.aload_n 0, 1) := by decide +kernel
theorem dX5_puts_112 : decode cX5_puts 112 = .ok (.getfield 7, 3) := by decide +kernel
theorem dX5_puts_115 : decode cX5_puts 115 = .ok (.iconst 5, 1) := by decide +kernel
theorem dX5_puts_116 : decode cX5_puts 116 = .ok (.iaload, 1) := by decide +kernel
theorem dX5_puts_117 : decode cX5_puts 117 = .ok (.iadd, 1) := by decide +kernel
theorem dX5_puts_118 : decode cX5_puts 118 = .ok (.iconst 0, 1) := by decide +kernel
theorem dX5_puts_119 : decode cX5_puts 119 = .ok (.iastore, 1) := by decide +kernel
theorem dX5_puts_120 : decode cX5_puts 120 = .ok (.aload_n 0, 1) := by decide +kernel
theorem dX5_puts_121 : decode cX5_puts 121 = .ok (.iconst 0, 1) := by decide +kernel
theorem dX5_puts_122 : decode cX5_puts 122 = .ok (.iconst 3, 1) := by decide +kernel
theorem dX5_puts_123 : decode cX5_puts 123 = .ok (.aload_n 0, 1) := by decide +kernel
theorem dX5_puts_124 : decode cX5_puts 124 = .ok (.aload_n 0, 1) := by decide +kernel
theorem dX5_puts_125 : decode cX5_puts 125 = .ok (.iconst 0, 1) := by decide +kernel
theorem dX5_puts_126 : decode cX5_puts 126 = .ok (.iconst 3, 1) := by decide +kernel
theorem dX5_puts_127 : decode cX5_puts 127 = .ok (.invokevirtual 44, 3) := by decide +kernel
theorem dX5_puts_130 : decode cX5_puts 130 = .ok (.iconst 1, 1) := by decide +kernel
theorem dX5_puts_131 : decode cX5_puts 131 = .ok (.iadd, 1) := by decide +kernel
theorem dX5_puts_132 : decode cX5_puts 132 = .ok (.invokevirtual 55, 3) := by decide +kernel
theorem dX5_puts_135 : decode cX5_puts 135 = .ok (.invokevirtual 68, 3) := by decide +kernel
theorem dX5_puts_138 : decode cX5_puts 138 = .ok (.return_, 1) := by decide +kernel
theorem dX5_passes_0 : decode cX5_passes 0 = .ok (.aload_n 0, 1) := by decide +kernel
theorem dX5_passes_1 : decode cX5_passes 1 = .ok (.getfield 7, 3) := by decide +kernel
theorem dX5_passes_4 : decode cX5_passes 4 = .ok (.iconst 2, 1) := by decide +kernel
theorem dX5_passes_5 : decode cX5_passes 5 = .ok (.iaload, 1) := by decide +kernel
theorem dX5_passes_6 : decode cX5_passes 6 = .ok (.iconst 1, 1) := by decide +kernel
theorem dX5_passes_7 : decode cX5_passes 7 = .ok (.iadd, 1) := by decide +kernel
theorem dX5_passes_8 : decode cX5_passes 8 = .ok (.istore_n 1, 1) := by decide +kernel
theorem dX5_passes_9 : decode cX5_passes 9 = .ok (.aload_n 0, 1) := by decide +kernel
theorem dX5_passes_10 : decode cX5_passes 10 = .ok (.iconst 0, 1) := by decide +kernel
theorem dX5_passes_11 : decode cX5_passes 11 = .ok (.iload_n 1, 1) := by decide +kernel
theorem dX5_passes_12 : decode cX5_passes 12 = .ok (.invokevirtual 76, 3) := by decide +kernel
theorem dX5_passes_15 : decode cX5_passes 15 = .ok (.istore_n 2, 1) := by decide +kernel
theorem dX5_passes_16 : decode cX5_passes 16 = .ok (.aload_n 0, 1) := by decide +kernel
theorem dX5_passes_17 : decode cX5_passes 17 = .ok (.iconst 1, 1) := by decide +kernel
theorem dX5_passes_18 : decode cX5_passes 18 = .ok (.iload_n 1, 1) := by decide +kernel
theorem dX5_passes_19 : decode cX5_passes 19 = .ok (.invokevirtual 76, 3) := by decide +kernel
theorem dX5_passes_22 : decode cX5_passes 22 = .ok (.istore_n 3, 1) := by decide +kernel
theorem dX5_passes_23 : decode cX5_passes 23 = .ok (.aload_n 0, 1) := by decide +kernel
theorem dX5_passes_24 : decode cX5_passes 24 = .ok (.iconst 0, 1) := by decide +kernel
theorem dX5_passes_25 : decode cX5_passes 25 = .ok (.iload_n 2, 1) := by decide +kernel
theorem dX5_passes_26 : decode cX5_passes 26 = .ok (.invokevirtual 80, 3) := by decide +kernel
theorem dX5_passes_29 : decode cX5_passes 29 = .ok (.istore 4, 2) := by decide +kernel
theorem dX5_passes_31 : decode cX5_passes 31 = .ok (.aload_n 0, 1) := by decide +kernel
theorem dX5_passes_32 : decode cX5_passes 32 = .ok (.iconst 1, 1) := by decide +kernel
theorem dX5_passes_33 : decode cX5_passes 33 = .ok (.iload_n 3, 1) := by decide +kernel
theorem dX5_passes_34 : decode cX5_passes 34 = .ok (.invokevirtual 80, 3) := by decide +kernel
theorem dX5_passes_37 : decode cX5_passes 37 = .ok (.istore 5, 2) := by decide +kernel
theorem dX5_passes_39 : decode cX5_passes 39 = .ok (.iload_n 2, 1) := by decide +kernel
theorem dX5_passes_40 : decode cX5_passes 40 = .ok (.ifCond .eq 21, 3) := by decide +kernel
theorem dX5_passes_43 : decode cX5_passes 43 = .ok (.iload 4, 2) := by decide +kernel
theorem dX5_passes_45 : decode cX5_passes 45 = .ok (.ifCond .ne 16, 3) := by decide +kernel
theorem dX5_passes_48 : decode cX5_passes 48 = .ok (.aload_n 0, 1) := by decide +kernel
theorem dX5_passes_49 : decode cX5_passes 49 = .ok (.getfield 7, 3) := by decide +kernel
theorem dX5_passes_52 : decode cX5_passes 52 = .ok (.iconst 5, 1) := by decide +kernel
theorem dX5_passes_53 : decode cX5_passes 53 = .ok (.iaload, 1) := by decide +kernel
theorem dX5_passes_54 : decode cX5_passes 54 = .ok (.ifCond .le 7, 3) := by decide +kernel
theorem dX5_passes_57 : decode cX5_passes 57 = .ok (.iconst 1, 1) := by decide +kernel
theorem dX5_passes_58 : decode cX5_passes 58 = .ok (.goto 4, 3) := by decide +kernel
theorem dX5_passes_61 : decode cX5_passes 61 = .ok (.iconst 0, 1) := by decide +kernel
theorem dX5_passes_62 : decode cX5_passes 62 = .ok (.istore 6, 2) := by decide +kernel
theorem dX5_passes_64 : decode cX5_passes 64 = .ok (.aload_n 0, 1) := by decide +kernel
theorem dX5_passes_65 : decode cX5_passes 65 = .ok (.aload_n 0, 1) := by decide +kernel
theorem dX5_passes_66 : decode cX5_passes 66 = .ok (.iconst 1, 1) := by decide +kernel
theorem dX5_passes_67 : decode cX5_passes 67 = .ok (.iconst 3, 1) := by decide +kernel
theorem dX5_passes_68 : decode cX5_passes 68 = .ok (.invokevirtual 44, 3) := by decide +kernel
theorem dX5_passes_71 : decode cX5_passes 71 = .ok (.iload 5, 2) := by decide +kernel
theorem dX5_passes_73 : decode cX5_passes 73 = .ok (.invokevirtual 84, 3) := by decide +kernel
theorem dX5_passes_76 : decode cX5_passes 76 = .ok (.istore 7, 2) := by decide +kernel
theorem dX5_passes_78 : decode cX5_passes 78 = .ok (.aload_n 0, 1) := by decide +kernel
theorem dX5_passes_79 : decode cX5_passes 79 = .ok (.aload_n 0, 1) := by decide +kernel
theorem dX5_passes_80 : decode cX5_passes 80 = .ok (.iconst 0, 1) := by decide +kernel
theorem dX5_passes_81 : decode cX5_passes 81 = .ok (.iconst 3, 1) := by decide +kernel
theorem dX5_passes_82 : decode cX5_passes 82 = .ok (.invokevirtual 44, 3) := by decide +kernel
theorem dX5_passes_85 : decode cX5_passes 85 = .ok (.iload 4, 2) := by decide +kernel
theorem dX5_passes_87 : decode cX5_passes 87 = .ok (.invokevirtual 84, 3) := by decide +kernel
theorem dX5_passes_90 : decode cX5_passes 90 = .ok (.istore 8, 2) := by decide +kernel
theorem dX5_passes_92 : decode cX5_passes 92 = .ok (.aload_n 0, 1) := by decide +kernel
theorem dX5_passes_93 : decode cX5_passes 93 = .ok (.getfield 7, 3) := by decide +kernel
theorem dX5_passes_96 : decode cX5_passes 96 = .ok (.iconst 2, 1) := by decide +kernel
theorem dX5_passes_97 : decode cX5_passes 97 = .ok (.iload_n 1, 1) := by decide +kernel
theorem dX5_passes_98 : decode cX5_passes 98 = .ok (.iastore, 1) := by decide +kernel
theorem dX5_passes_99 : decode cX5_passes 99 = .ok (.iload_n 2, 1) := by decide +kernel
theorem dX5_passes_100 : decode cX5_passes 100 = .ok (.ifCond .eq 12, 3) := by decide +kernel
theorem dX5_passes_103 : decode cX5_passes 103 = .ok (.aload_n 0, 1) := by decide +kernel
theorem dX5_passes_104 : decode cX5_passes 104 = .ok (.iconst 0, 1) := by decide +kernel
theorem dX5_passes_105 : decode cX5_passes 105 = .ok (.iload 7, 2) := by decide +kernel
theorem dX5_passes_107 : decode cX5_passes 107 = .ok (.iload 5, 2) := by decide +kernel
theorem dX5_passes_109 : decode cX5_passes 109 = .ok (.invokevirtual 88, 3) := by decide +kernel
theorem dX5_passes_112 : decode cX5_passes 112 = .ok (.iload_n 3, 1) := by decide +kernel
theorem dX5_passes_113 : decode cX5_passes 113 = .ok (.ifCond .eq 12, 3) := by decide +kernel
theorem dX5_passes_116 : decode cX5_passes 116 = .ok (.aload_n 0, 1) := by decide +kernel
theorem dX5_passes_117 : decode cX5_passes 117 = .ok (.iconst 1, 1) := by decide +kernel
theorem dX5_passes_118 : decode cX5_passes 118 = .ok (.iload 8, 2) := by decide +kernel
theorem dX5_passes_120 : decode cX5_passes 120 = .ok (.iload 4, 2) := by decide +kernel
theorem dX5_passes_122 : decode cX5_passes 122 = .ok (.invokevirtual 88, 3) := by decide +kernel
theorem dX5_passes_125 : decode cX5_passes 125 = .ok (.iload 5, 2) := by decide +kernel
theorem dX5_passes_127 : decode cX5_passes 127 = .ok (.ifCond .eq 7, 3) := by decide +kernel
theorem dX5_passes_130 : decode cX5_passes 130 = .ok (.aload_n 0, 1) := by decide +kernel
theorem dX5_passes_131 : decode cX5_passes 131 = .ok (.invokevirtual 92, 3) := by decide +kernel
theorem dX5_passes_134 : decode cX5_passes 134 = .ok (.iload 4, 2) := by decide +kernel
theorem dX5_passes_136 : decode cX5_passes 136 = .ok (.ifCond .eq 7, 3) := by decide +kernel
theorem dX5_passes_139 : decode cX5_passes 139 = .ok (.aload_n 0, 1) := by decide +kernel
theorem dX5_passes_140 : decode cX5_passes 140 = .ok (.invokevirtual 95, 3) := by decide +kernel
theorem dX5_passes_143 : decode cX5_passes 143 = .ok (.iload 6, 2) := by decide +kernel
theorem dX5_passes_145 : decode cX5_passes 145 = .ok (.ireturn, 1) := by decide +kernel
theorem dX5_passMany_0 : decode cX5_passMany 0 = .ok (.iconst 0, 1) := by decide +kernel
theorem dX5_passMany_1 : decode cX5_passMany 1 = .ok (.istore_n 2, 1) := by decide +kernel
theorem dX5_passMany_2 : decode cX5_passMany 2 = .ok (.iload_n 2, 1) := by decide +kernel
theorem dX5_passMany_3 : decode cX5_passMany 3 = .ok (.iload_n 1, 1) := by decide +kernel
theorem dX5_passMany_4 : decode cX5_passMany 4 = .ok (.if_icmp .ge 14, 3) := by decide +kernel
theorem dX5_passMany_7 : decode cX5_passMany 7 = .ok (.aload_n 0, 1) := by decide +kernel
theorem dX5_passMany_8 : decode cX5_passMany 8 = .ok (.invokevirtual 98, 3) := by decide +kernel
theorem dX5_passMany_11 : decode cX5_passMany 11 = .ok (.pop, 1) := by decide +kernel
theorem dX5_passMany_12 : decode cX5_passMany 12 = .ok (.iinc 2 1, 3) := by decide +kernel
theorem dX5_passMany_15 : decode cX5_passMany 15 = .ok (.goto (-13), 3) := by decide +kernel
theorem dX5_passMany_18 : decode cX5_passMany 18 = .ok (.return_, 1) := by decide +kernel
theorem dX5_builds_0 : decode cX5_builds 0 = .ok (.aload_n 0, 1) := by decide +kernel
theorem dX5_builds_1 : decode cX5_builds 1 = .ok (.getfield 7, 3) := by decide +kernel
theorem dX5_builds_4 : decode cX5_builds 4 = .ok (.iconst 0, 1) := by decide +kernel
theorem dX5_builds_5 : decode cX5_builds 5 = .ok (.iload_n 1, 1) := by decide +kernel
theorem dX5_builds_6 : decode cX5_builds 6 = .ok (.iastore, 1) := by decide +kernel
theorem dX5_builds_7 : decode cX5_builds 7 = .ok (.aload_n 0, 1) := by decide +kernel
theorem dX5_builds_8 : decode cX5_builds 8 = .ok (.getfield 7, 3) := by decide +kernel
theorem dX5_builds_11 : decode cX5_builds 11 = .ok (.iconst 1, 1) := by decide +kernel
theorem dX5_builds_12 : decode cX5_builds 12 = .ok (.iload_n 2, 1) := by decide +kernel
theorem dX5_builds_13 : decode cX5_builds 13 = .ok (.iastore, 1) := by decide +kernel
theorem dX5_builds_14 : decode cX5_builds 14 = .ok (.iconst 0, 1) := by decide +kernel
theorem dX5_builds_15 : decode cX5_builds 15 = .ok (.istore_n 3, 1) := by decide +kernel
theorem dX5_builds_16 : decode cX5_builds 16 = .ok (.iload_n 3, 1) := by decide +kernel
theorem dX5_builds_17 : decode cX5_builds 17 = .ok (.iconst 2, 1) := by decide +kernel
theorem dX5_builds_18 : decode cX5_builds 18 = .ok (.if_icmp .ge 32, 3) := by decide +kernel
theorem dX5_builds_21 : decode cX5_builds 21 = .ok (.iconst 3, 1) := by decide +kernel
theorem dX5_builds_22 : decode cX5_builds 22 = .ok (.istore 4, 2) := by decide +kernel
theorem dX5_builds_24 : decode cX5_builds 24 = .ok (.iload 4, 2) := by decide +kernel
theorem dX5_builds_26 : decode cX5_builds 26 = .ok (.iconst 5, 1) := by decide +kernel
theorem dX5_builds_27 : decode cX5_builds 27 = .ok (.if_icmp .gt 17, 3) := by decide +kernel
theorem dX5_builds_30 : decode cX5_builds 30 = .ok (.aload_n 0, 1) := by decide +kernel
theorem dX5_builds_31 : decode cX5_builds 31 = .ok (.iload_n 3, 1) := by decide +kernel
theorem dX5_builds_32 : decode cX5_builds 32 = .ok (.iload 4, 2) := by decide +kernel
theorem dX5_builds_34 : decode cX5_builds 34 = .ok (.iconst 0, 1) := by decide +kernel
theorem dX5_builds_35 : decode cX5_builds 35 = .ok (.invokevirtual 68, 3) := by decide +kernel
theorem dX5_builds_38 : decode cX5_builds 38 = .ok (.iinc 4 1, 3) := by decide +kernel
theorem dX5_builds_41 : decode cX5_builds 41 = .ok (.goto (-17), 3) := by decide +kernel
theorem dX5_builds_44 : decode cX5_builds 44 = .ok (.iinc 3 1, 3) := by decide +kernel
theorem dX5_builds_47 : decode cX5_builds 47 = .ok (.goto (-31), 3) := by decide +kernel
theorem dX5_builds_50 : decode cX5_builds 50 = .ok (.iconst 5, 1) := by decide +kernel
theorem dX5_builds_51 : decode cX5_builds 51 = .ok (.istore_n 3, 1) := by decide +kernel
theorem dX5_builds_52 : decode cX5_builds 52 = .ok (.iload_n 3, 1) := by decide +kernel
theorem dX5_builds_53 : decode cX5_builds 53 = .ok (.bipush 10, 2) := by decide +kernel
theorem dX5_builds_55 : decode cX5_builds 55 = .ok (.if_icmp .gt 16, 3) := by decide +kernel
theorem dX5_builds_58 : decode cX5_builds 58 = .ok (.aload_n 0, 1) := by decide +kernel
theorem dX5_builds_59 : decode cX5_builds 59 = .ok (.getfield 7, 3) := by decide +kernel
theorem dX5_builds_62 : decode cX5_builds 62 = .ok (.iload_n 3, 1) := by decide +kernel
theorem dX5_builds_63 : decode cX5_builds 63 = .ok (.iconst 0, 1) := by decide +kernel
theorem dX5_builds_64 : decode cX5_builds 64 = .ok (.iastore, 1) := by decide +kernel
theorem dX5_builds_65 : decode cX5_builds 65 = .ok (.iinc 3 1, 3) := by decide +kernel
theorem dX5_builds_68 : decode cX5_builds 68 = .ok (.goto (-16), 3) := by decide +kernel
theorem dX5_builds_71 : decode cX5_builds 71 = .ok (.bipush 27, 2) := by decide +kernel
theorem dX5_builds_73 : decode cX5_builds 73 = .ok (.istore_n 3, 1) := by decide +kernel
theorem dX5_builds_74 : decode cX5_builds 74 = .ok (.iload_n 3, 1) := by decide +kernel
theorem dX5_builds_75 : decode cX5_builds 75 = .ok (.bipush 96, 2) := by decide +kernel
theorem dX5_builds_77 : decode cX5_builds 77 = .ok (.if_icmp .ge 16, 3) := by decide +kernel
theorem dX5_builds_80 : decode cX5_builds 80 = .ok (.aload_n 0, 1) := by decide +kernel
theorem dX5_builds_81 : decode cX5_builds 81 = .ok (.getfield 7, 3) := by decide +kernel
theorem dX5_builds_84 : decode cX5_builds 84 = .ok (.iload_n 3, 1) := by decide +kernel
theorem dX5_builds_85 : decode cX5_builds 85 = .ok (.iconst 0, 1) := by decide +kernel
theorem dX5_builds_86 : decode cX5_builds 86 = .ok (.iastore, 1) := by decide +kernel
theorem dX5_builds_87 : decode cX5_builds 87 = .ok (.iinc 3 1, 3) := by decide +kernel
theorem dX5_builds_90 : decode cX5_builds 90 = .ok (.goto (-16), 3) := by decide +kernel
theorem dX5_builds_93 : decode cX5_builds 93 = .ok (.iconst 0, 1) := by decide +kernel
theorem dX5_builds_94 : decode cX5_builds 94 = .ok (.istore_n 3, 1) := by decide +kernel
theorem dX5_builds_95 : decode cX5_builds 95 = .ok (.iload_n 3, 1) := by decide +kernel
theorem dX5_builds_96 : decode cX5_builds 96 = .ok (.bipush 16, 2) := by decide +kernel
theorem dX5_builds_98 : decode cX5_builds 98 = .ok (.if_icmp .ge 20, 3) := by decide +kernel
theorem dX5_builds_101 : decode cX5_builds 101 = .ok (.aload_n 0, 1) := by decide +kernel
theorem dX5_builds_102 : decode cX5_builds 102 = .ok (.getfield 7, 3) := by decide +kernel
theorem dX5_builds_105 : decode cX5_builds 105 = .ok (.bipush 63, 2) := by decide +kernel
theorem dX5_builds_107 : decode cX5_builds 107 = .ok (.iload_n 3, 1) := by decide +kernel
theorem dX5_builds_108 : decode cX5_builds 108 = .ok (.iadd, 1) := by decide +kernel
theorem dX5_builds_109 : decode cX5_builds 109 = .ok (.bipush (-5), 2) := by decide +kernel
theorem dX5_builds_111 : decode cX5_builds 111 = .ok (.iastore, 1) := by decide +kernel
theorem dX5_builds_112 : decode cX5_builds 112 = .ok (.iinc 3 1, 3) := by decide +kernel
theorem dX5_builds_115 : decode cX5_builds 115 = .ok (.goto (-20), 3) := by decide +kernel
theorem dX5_builds_118 : decode cX5_builds 118 = .ok (.return_, 1) := by decide +kernel
theorem dX5_build_0 : decode cX5_build 0 = .ok (.iload_n 1, 1) := by decide +kernel
theorem dX5_build_1 : decode cX5_build 1 = .ok (.i2l, 1) := by decide +kernel
theorem dX5_build_2 : decode cX5_build 2 = .ok (.lconst 1, 1) := by decide +kernel
theorem dX5_build_3 : decode cX5_build 3 = .ok (.ldc2_w 102, 3) := by decide +kernel
theorem dX5_build_6 : decode cX5_build 6 = .ok (.invokestatic 104, 3) := by decide +kernel
theorem dX5_build_9 : decode cX5_build 9 = .ok (.ifCond .ne 6, 3) := by decide +kernel
theorem dX5_build_12 : decode cX5_build 12 = .ok (.bipush (-2), 2) := by decide +kernel
theorem dX5_build_14 : decode cX5_build 14 = .ok (.ireturn, 1) := by decide +kernel
theorem dX5_build_15 : decode cX5_build 15 = .ok (.aload_n 0, 1) := by decide +kernel
theorem dX5_build_16 : decode cX5_build 16 = .ok (.invokevirtual 108, 3) := by decide +kernel
theorem dX5_build_19 : decode cX5_build 19 = .ok (.aload_n 0, 1) := by decide +kernel
theorem dX5_build_20 : decode cX5_build 20 = .ok (.iload_n 1, 1) := by decide +kernel
theorem dX5_build_21 : decode cX5_build 21 = .ok (.iload_n 2, 1) := by decide +kernel
theorem dX5_build_22 : decode cX5_build 22 = .ok (.ifCond .eq 7, 3) := by decide +kernel
theorem dX5_build_25 : decode cX5_build 25 = .ok (.iconst 1, 1) := by decide +kernel
theorem dX5_build_26 : decode cX5_build 26 = .ok (.goto 4, 3) := by decide +kernel
theorem dX5_build_29 : decode cX5_build 29 = .ok (.iconst 0, 1) := by decide +kernel
theorem dX5_build_30 : decode cX5_build 30 = .ok (.invokevirtual 28, 3) := by decide +kernel
theorem dX5_build_33 : decode cX5_build 33 = .ok (.aload_n 0, 1) := by decide +kernel
theorem dX5_build_34 : decode cX5_build 34 = .ok (.aload_n 0, 1) := by decide +kernel
theorem dX5_build_35 : decode cX5_build 35 = .ok (.invokevirtual 40, 3) := by decide +kernel
theorem dX5_build_38 : decode cX5_build 38 = .ok (.invokevirtual 111, 3) := by decide +kernel
theorem dX5_build_41 : decode cX5_build 41 = .ok (.ireturn, 1) := by decide +kernel
theorem dX5_setClock_0 : decode cX5_setClock 0 = .ok (.iload_n 1, 1) := by decide +kernel
theorem dX5_setClock_1 : decode cX5_setClock 1 = .ok (.invokestatic 114, 3) := by decide +kernel
theorem dX5_setClock_4 : decode cX5_setClock 4 = .ok (.ifCond .ne 5, 3) := by decide +kernel
theorem dX5_setClock_7 : decode cX5_setClock 7 = .ok (.iconst (-1), 1) := by decide +kernel
theorem dX5_setClock_8 : decode cX5_setClock 8 = .ok (.ireturn, 1) := by decide +kernel
theorem dX5_setClock_9 : decode cX5_setClock 9 = .ok (.iload_n 2, 1) := by decide +kernel
theorem dX5_setClock_10 : decode cX5_setClock 10 = .ok (.i2l, 1) := by decide +kernel
theorem dX5_setClock_11 : decode cX5_setClock 11 = .ok (.lconst 1, 1) := by decide +kernel
theorem dX5_setClock_12 : decode cX5_setClock 12 = .ok (.ldc2_w 117, 3) := by decide +kernel
theorem dX5_setClock_15 : decode cX5_setClock 15 = .ok (.invokestatic 104, 3) := by decide +kernel
theorem dX5_setClock_18 : decode cX5_setClock 18 = .ok (.ifCond .eq 15, 3) := by decide +kernel
theorem dX5_setClock_21 : decode cX5_setClock 21 = .ok (.iload_n 3, 1) := by decide +kernel
theorem dX5_setClock_22 : decode cX5_setClock 22 = .ok (.i2l, 1) := by decide +kernel
theorem dX5_setClock_23 : decode cX5_setClock 23 = .ok (.lconst 0, 1) := by decide +kernel
theorem dX5_setClock_24 : decode cX5_setClock 24 = .ok (.ldc2_w 119, 3) := by decide +kernel
theorem dX5_setClock_27 : decode cX5_setClock 27 = .ok (.invokestatic 104, 3) := by decide +kernel
theorem dX5_setClock_30 : decode cX5_setClock 30 = .ok (.ifCond .ne 6, 3) := by decide +kernel
theorem dX5_setClock_33 : decode cX5_setClock 33 = .ok (.bipush (-2), 2) := by decide +kernel
theorem dX5_setClock_35 : decode cX5_setClock 35 = .ok (.ireturn, 1) := by decide +kernel
theorem dX5_setClock_36 : decode cX5_setClock 36 = .ok (.aload_n 0, 1) := by decide +kernel
theorem dX5_setClock_37 : decode cX5_setClock 37 = .ok (.iload_n 1, 1) := by decide +kernel
theorem dX5_setClock_38 : decode cX5_setClock 38 = .ok (.iconst 0, 1) := by decide +kernel
theorem dX5_setClock_39 : decode cX5_setClock 39 = .ok (.invokevirtual 44, 3) := by decide +kernel
theorem dX5_setClock_42 : decode cX5_setClock 42 = .ok (.istore 4, 2) := by decide +kernel
theorem dX5_setClock_44 : decode cX5_setClock 44 = .ok (.iload 4, 2) := by decide +kernel
theorem dX5_setClock_46 : decode cX5_setClock 46 = .ok (.iload_n 2, 1) := by decide +kernel
theorem dX5_setClock_47 : decode cX5_setClock 47 = .ok (.if_icmp .ne 16, 3) := by decide +kernel
theorem dX5_setClock_50 : decode cX5_setClock 50 = .ok (.aload_n 0, 1) := by decide +kernel
theorem dX5_setClock_51 : decode cX5_setClock 51 = .ok (.iload_n 1, 1) := by decide +kernel
theorem dX5_setClock_52 : decode cX5_setClock 52 = .ok (.iconst 1, 1) := by decide +kernel
theorem dX5_setClock_53 : decode cX5_setClock 53 = .ok (.invokevirtual 44, 3) := by decide +kernel
theorem dX5_setClock_56 : decode cX5_setClock 56 = .ok (.iload_n 3, 1) := by decide +kernel
theorem dX5_setClock_57 : decode cX5_setClock 57 = .ok (.if_icmp .ne 6, 3) := by decide +kernel
theorem dX5_setClock_60 : decode cX5_setClock 60 = .ok (.bipush (-5), 2) := by decide +kernel
theorem dX5_setClock_62 : decode cX5_setClock 62 = .ok (.ireturn, 1) := by decide +kernel
theorem dX5_setClock_63 : decode cX5_setClock 63 = .ok (.aload_n 0, 1) := by decide +kernel
theorem dX5_setClock_64 : decode cX5_setClock 64 = .ok (.invokevirtual 108, 3) := by decide +kernel
theorem dX5_setClock_67 : decode cX5_setClock 67 = .ok (.aload_n 0, 1) := by decide +kernel
theorem dX5_setClock_68 : decode cX5_setClock 68 = .ok (.iload_n 1, 1) := by decide +kernel
theorem dX5_setClock_69 : decode cX5_setClock 69 = .ok (.iconst 0, 1) := by decide +kernel
theorem dX5_setClock_70 : decode cX5_setClock 70 = .ok (.iload_n 2, 1) := by decide +kernel
theorem dX5_setClock_71 : decode cX5_setClock 71 = .ok (.invokevirtual 68, 3) := by decide +kernel
theorem dX5_setClock_74 : decode cX5_setClock 74 = .ok (.aload_n 0, 1) := by decide +kernel
theorem dX5_setClock_75 : decode cX5_setClock 75 = .ok (.iload_n 1, 1) := by decide +kernel
theorem dX5_setClock_76 : decode cX5_setClock 76 = .ok (.iconst 1, 1) := by decide +kernel
theorem dX5_setClock_77 : decode cX5_setClock 77 = .ok (.iload_n 3, 1) := by decide +kernel
theorem dX5_setClock_78 : decode cX5_setClock 78 = .ok (.invokevirtual 68, 3) := by decide +kernel
theorem dX5_setClock_81 : decode cX5_setClock 81 = .ok (.aload_n 0, 1) := by decide +kernel
theorem dX5_setClock_82 : decode cX5_setClock 82 = .ok (.iload 4, 2) := by decide +kernel
theorem dX5_setClock_84 : decode cX5_setClock 84 = .ok (.invokevirtual 111, 3) := by decide +kernel
theorem dX5_setClock_87 : decode cX5_setClock 87 = .ok (.ireturn, 1) := by decide +kernel
theorem dX5_start_0 : decode cX5_start 0 = .ok (.iload_n 1, 1) := by decide +kernel
theorem dX5_start_1 : decode cX5_start 1 = .ok (.invokestatic 114, 3) := by decide +kernel
theorem dX5_start_4 : decode cX5_start 4 = .ok (.ifCond .ne 5, 3) := by decide +kernel
theorem dX5_start_7 : decode cX5_start 7 = .ok (.iconst (-1), 1) := by decide +kernel
theorem dX5_start_8 : decode cX5_start 8 = .ok (.ireturn, 1) := by decide +kernel
theorem dX5_start_9 : decode cX5_start 9 = .ok (.iload_n 2, 1) := by decide +kernel
theorem dX5_start_10 : decode cX5_start 10 = .ok (.ifCond .eq 7, 3) := by decide +kernel
theorem dX5_start_13 : decode cX5_start 13 = .ok (.iconst 1, 1) := by decide +kernel
theorem dX5_start_14 : decode cX5_start 14 = .ok (.goto 4, 3) := by decide +kernel
theorem dX5_start_17 : decode cX5_start 17 = .ok (.iconst 0, 1) := by decide +kernel
theorem dX5_start_18 : decode cX5_start 18 = .ok (.istore_n 3, 1) := by decide +kernel
theorem dX5_start_19 : decode cX5_start 19 = .ok (.aload_n 0, 1) := by decide +kernel
theorem dX5_start_20 : decode cX5_start 20 = .ok (.iload_n 1, 1) := by decide +kernel
theorem dX5_start_21 : decode cX5_start 21 = .ok (.iconst 2, 1) := by decide +kernel
theorem dX5_start_22 : decode cX5_start 22 = .ok (.invokevirtual 44, 3) := by decide +kernel
theorem dX5_start_25 : decode cX5_start 25 = .ok (.iload_n 3, 1) := by decide +kernel
theorem dX5_start_26 : decode cX5_start 26 = .ok (.if_icmp .ne 6, 3) := by decide +kernel
theorem dX5_start_29 : decode cX5_start 29 = .ok (.bipush (-5), 2) := by decide +kernel
theorem dX5_start_31 : decode cX5_start 31 = .ok (.ireturn, 1) := by decide +kernel
theorem dX5_start_32 : decode cX5_start 32 = .ok (.aload_n 0, 1) := by decide +kernel
theorem dX5_start_33 : decode cX5_start 33 = .ok (.invokevirtual 108, 3) := by decide +kernel
theorem dX5_start_36 : decode cX5_start 36 = .ok (.aload_n 0, 1) := by decide +kernel
theorem dX5_start_37 : decode cX5_start 37 = .ok (.iload_n 1, 1) := by decide +kernel
theorem dX5_start_38 : decode cX5_start 38 = .ok (.iconst 2, 1) := by decide +kernel
theorem dX5_start_39 : decode cX5_start 39 = .ok (.iload_n 3, 1) := by decide +kernel
theorem dX5_start_40 : decode cX5_start 40 = .ok (.invokevirtual 68, 3) := by decide +kernel
theorem dX5_start_43 : decode cX5_start 43 = .ok (.aload_n 0, 1) := by decide +kernel
theorem dX5_start_44 : decode cX5_start 44 = .ok (.aload_n 0, 1) := by decide +kernel
theorem dX5_start_45 : decode cX5_start 45 = .ok (.getfield 7, 3) := by decide +kernel
theorem dX5_start_48 : decode cX5_start 48 = .ok (.iconst 2, 1) := by decide +kernel
theorem dX5_start_49 : decode cX5_start 49 = .ok (.iaload, 1) := by decide +kernel
theorem dX5_start_50 : decode cX5_start 50 = .ok (.invokevirtual 111, 3) := by decide +kernel
theorem dX5_start_53 : decode cX5_start 53 = .ok (.ireturn, 1) := by decide +kernel
theorem dX5_set_0 : decode cX5_set 0 = .ok (.iload_n 1, 1) := by decide +kernel
theorem dX5_set_1 : decode cX5_set 1 = .ok (.i2l, 1) := by decide +kernel
theorem dX5_set_2 : decode cX5_set 2 = .ok (.lconst 0, 1) := by decide +kernel
theorem dX5_set_3 : decode cX5_set 3 = .ok (.lconst 1, 1) := by decide +kernel
theorem dX5_set_4 : decode cX5_set 4 = .ok (.invokestatic 104, 3) := by decide +kernel
theorem dX5_set_7 : decode cX5_set 7 = .ok (.ifCond .eq 15, 3) := by decide +kernel
theorem dX5_set_10 : decode cX5_set 10 = .ok (.iload_n 2, 1) := by decide +kernel
theorem dX5_set_11 : decode cX5_set 11 = .ok (.i2l, 1) := by decide +kernel
theorem dX5_set_12 : decode cX5_set 12 = .ok (.lconst 0, 1) := by decide +kernel
theorem dX5_set_13 : decode cX5_set 13 = .ok (.ldc2_w 121, 3) := by decide +kernel
theorem dX5_set_16 : decode cX5_set 16 = .ok (.invokestatic 104, 3) := by decide +kernel
theorem dX5_set_19 : decode cX5_set 19 = .ok (.ifCond .ne 6, 3) := by decide +kernel
theorem dX5_set_22 : decode cX5_set 22 = .ok (.bipush (-2), 2) := by decide +kernel
theorem dX5_set_24 : decode cX5_set 24 = .ok (.ireturn, 1) := by decide +kernel
theorem dX5_set_25 : decode cX5_set 25 = .ok (.aload_n 0, 1) := by decide +kernel
theorem dX5_set_26 : decode cX5_set 26 = .ok (.getfield 7, 3) := by decide +kernel
theorem dX5_set_29 : decode cX5_set 29 = .ok (.iconst 3, 1) := by decide +kernel
theorem dX5_set_30 : decode cX5_set 30 = .ok (.iload_n 1, 1) := by decide +kernel
theorem dX5_set_31 : decode cX5_set 31 = .ok (.iadd, 1) := by decide +kernel
theorem dX5_set_32 : decode cX5_set 32 = .ok (.iaload, 1) := by decide +kernel
theorem dX5_set_33 : decode cX5_set 33 = .ok (.istore_n 3, 1) := by decide +kernel
theorem dX5_set_34 : decode cX5_set 34 = .ok (.iload_n 3, 1) := by decide +kernel
theorem dX5_set_35 : decode cX5_set 35 = .ok (.iload_n 2, 1) := by decide +kernel
theorem dX5_set_36 : decode cX5_set 36 = .ok (.if_icmp .ne 6, 3) := by decide +kernel
theorem dX5_set_39 : decode cX5_set 39 = .ok (.bipush (-5), 2) := by decide +kernel
theorem dX5_set_41 : decode cX5_set 41 = .ok (.ireturn, 1) := by decide +kernel
theorem dX5_set_42 : decode cX5_set 42 = .ok (.aload_n 0, 1) := by decide +kernel
theorem dX5_set_43 : decode cX5_set 43 = .ok (.invokevirtual 108, 3) := by decide +kernel
theorem dX5_set_46 : decode cX5_set 46 = .ok (.aload_n 0, 1) := by decide +kernel
theorem dX5_set_47 : decode cX5_set 47 = .ok (.getfield 7, 3) := by decide +kernel
theorem dX5_set_50 : decode cX5_set 50 = .ok (.iconst 3, 1) := by decide +kernel
theorem dX5_set_51 : decode cX5_set 51 = .ok (.iload_n 1, 1) := by decide +kernel
theorem dX5_set_52 : decode cX5_set 52 = .ok (.iadd, 1) := by decide +kernel
theorem dX5_set_53 : decode cX5_set 53 = .ok (.iload_n 2, 1) := by decide +kernel
theorem dX5_set_54 : decode cX5_set 54 = .ok (.iastore, 1) := by decide +kernel
theorem dX5_set_55 : decode cX5_set 55 = .ok (.aload_n 0, 1) := by decide +kernel
theorem dX5_set_56 : decode cX5_set 56 = .ok (.iload_n 3, 1) := by decide +kernel
theorem dX5_set_57 : decode cX5_set 57 = .ok (.invokevirtual 111, 3) := by decide +kernel
theorem dX5_set_60 : decode cX5_set 60 = .ok (.ireturn, 1) := by decide +kernel
theorem dX5_waits_0 : decode cX5_waits 0 = .ok (.aload_n 0, 1) := by decide +kernel
theorem dX5_waits_1 : decode cX5_waits 1 = .ok (.getfield 7, 3) := by decide +kernel
theorem dX5_waits_4 : decode cX5_waits 4 = .ok (.bipush 27, 2) := by decide +kernel
theorem dX5_waits_6 : decode cX5_waits 6 = .ok (.aload_n 0, 1) := by decide +kernel
theorem dX5_waits_7 : decode cX5_waits 7 = .ok (.getfield 7, 3) := by decide +kernel
theorem dX5_waits_10 : decode cX5_waits 10 = .ok (.iconst 5, 1) := by decide +kernel
theorem dX5_waits_11 : decode cX5_waits 11 = .ok (.iaload, 1) := by decide +kernel
theorem dX5_waits_12 : decode cX5_waits 12 = .ok (.iadd, 1) := by decide +kernel
theorem dX5_waits_13 : decode cX5_waits 13 = .ok (.iload_n 1, 1) := by decide +kernel
theorem dX5_waits_14 : decode cX5_waits 14 = .ok (.iastore, 1) := by decide +kernel
theorem dX5_waits_15 : decode cX5_waits 15 = .ok (.aload_n 0, 1) := by decide +kernel
theorem dX5_waits_16 : decode cX5_waits 16 = .ok (.getfield 7, 3) := by decide +kernel
theorem dX5_waits_19 : decode cX5_waits 19 = .ok (.iconst 5, 1) := by decide +kernel
theorem dX5_waits_20 : decode cX5_waits 20 = .ok (.dup2, 1) := by decide +kernel
theorem dX5_waits_21 : decode cX5_waits 21 = .ok (.iaload, 1) := by decide +kernel
theorem dX5_waits_22 : decode cX5_waits 22 = .ok (.iconst 1, 1) := by decide +kernel
theorem dX5_waits_23 : decode cX5_waits 23 = .ok (.iadd, 1) := by decide +kernel
theorem dX5_waits_24 : decode cX5_waits 24 = .ok (.iastore, 1) := by decide +kernel
theorem dX5_waits_25 : decode cX5_waits 25 = .ok (.return_, 1) := by decide +kernel
theorem dX5_push_0 : decode cX5_push 0 = .ok (.iload_n 1, 1) := by decide +kernel
theorem dX5_push_1 : decode cX5_push 1 = .ok (.i2l, 1) := by decide +kernel
theorem dX5_push_2 : decode cX5_push 2 = .ok (.lconst 0, 1) := by decide +kernel
theorem dX5_push_3 : decode cX5_push 3 = .ok (.ldc2_w 123, 3) := by decide +kernel
theorem dX5_push_6 : decode cX5_push 6 = .ok (.invokestatic 104, 3) := by decide +kernel
theorem dX5_push_9 : decode cX5_push 9 = .ok (.ifCond .ne 6, 3) := by decide +kernel
theorem dX5_push_12 : decode cX5_push 12 = .ok (.bipush (-2), 2) := by decide +kernel
theorem dX5_push_14 : decode cX5_push 14 = .ok (.ireturn, 1) := by decide +kernel
theorem dX5_push_15 : decode cX5_push 15 = .ok (.aload_n 0, 1) := by decide +kernel
theorem dX5_push_16 : decode cX5_push 16 = .ok (.getfield 7, 3) := by decide +kernel
theorem dX5_push_19 : decode cX5_push 19 = .ok (.iconst 5, 1) := by decide +kernel
theorem dX5_push_20 : decode cX5_push 20 = .ok (.iaload, 1) := by decide +kernel
theorem dX5_push_21 : decode cX5_push 21 = .ok (.bipush 20, 2) := by decide +kernel
theorem dX5_push_23 : decode cX5_push 23 = .ok (.if_icmp .ne 6, 3) := by decide +kernel
theorem dX5_push_26 : decode cX5_push 26 = .ok (.bipush (-3), 2) := by decide +kernel
theorem dX5_push_28 : decode cX5_push 28 = .ok (.ireturn, 1) := by decide +kernel
theorem dX5_push_29 : decode cX5_push 29 = .ok (.aload_n 0, 1) := by decide +kernel
theorem dX5_push_30 : decode cX5_push 30 = .ok (.invokevirtual 108, 3) := by decide +kernel
theorem dX5_push_33 : decode cX5_push 33 = .ok (.aload_n 0, 1) := by decide +kernel
theorem dX5_push_34 : decode cX5_push 34 = .ok (.iload_n 1, 1) := by decide +kernel
theorem dX5_push_35 : decode cX5_push 35 = .ok (.invokevirtual 125, 3) := by decide +kernel
theorem dX5_push_38 : decode cX5_push 38 = .ok (.aload_n 0, 1) := by decide +kernel
theorem dX5_push_39 : decode cX5_push 39 = .ok (.aload_n 0, 1) := by decide +kernel
theorem dX5_push_40 : decode cX5_push 40 = .ok (.getfield 7, 3) := by decide +kernel
theorem dX5_push_43 : decode cX5_push 43 = .ok (.iconst 5, 1) := by decide +kernel
theorem dX5_push_44 : decode cX5_push 44 = .ok (.iaload, 1) := by decide +kernel
theorem dX5_push_45 : decode cX5_push 45 = .ok (.invokevirtual 111, 3) := by decide +kernel
theorem dX5_push_48 : decode cX5_push 48 = .ok (.ireturn, 1) := by decide +kernel
theorem dX5_pass_0 : decode cX5_pass 0 = .ok (.iload_n 1, 1) := by decide +kernel
theorem dX5_pass_1 : decode cX5_pass 1 = .ok (.i2l, 1) := by decide +kernel
theorem dX5_pass_2 : decode cX5_pass 2 = .ok (.lconst 1, 1) := by decide +kernel
theorem dX5_pass_3 : decode cX5_pass 3 = .ok (.ldc2_w 129, 3) := by decide +kernel
theorem dX5_pass_6 : decode cX5_pass 6 = .ok (.invokestatic 104, 3) := by decide +kernel
theorem dX5_pass_9 : decode cX5_pass 9 = .ok (.ifCond .ne 6, 3) := by decide +kernel
theorem dX5_pass_12 : decode cX5_pass 12 = .ok (.bipush (-2), 2) := by decide +kernel
theorem dX5_pass_14 : decode cX5_pass 14 = .ok (.ireturn, 1) := by decide +kernel
theorem dX5_pass_15 : decode cX5_pass 15 = .ok (.aload_n 0, 1) := by decide +kernel
theorem dX5_pass_16 : decode cX5_pass 16 = .ok (.getfield 7, 3) := by decide +kernel
theorem dX5_pass_19 : decode cX5_pass 19 = .ok (.iconst 2, 1) := by decide +kernel
theorem dX5_pass_20 : decode cX5_pass 20 = .ok (.iaload, 1) := by decide +kernel
theorem dX5_pass_21 : decode cX5_pass 21 = .ok (.iload_n 1, 1) := by decide +kernel
theorem dX5_pass_22 : decode cX5_pass 22 = .ok (.iadd, 1) := by decide +kernel
theorem dX5_pass_23 : decode cX5_pass 23 = .ok (.ldc 131, 2) := by decide +kernel
theorem dX5_pass_25 : decode cX5_pass 25 = .ok (.if_icmp .le 6, 3) := by decide +kernel
theorem dX5_pass_28 : decode cX5_pass 28 = .ok (.bipush (-3), 2) := by decide +kernel
theorem dX5_pass_30 : decode cX5_pass 30 = .ok (.ireturn, 1) := by decide +kernel
theorem dX5_pass_31 : decode cX5_pass 31 = .ok (.aload_n 0, 1) := by decide +kernel
theorem dX5_pass_32 : decode cX5_pass 32 = .ok (.invokevirtual 108, 3) := by decide +kernel
theorem dX5_pass_35 : decode cX5_pass 35 = .ok (.aload_n 0, 1) := by decide +kernel
theorem dX5_pass_36 : decode cX5_pass 36 = .ok (.getfield 7, 3) := by decide +kernel
theorem dX5_pass_39 : decode cX5_pass 39 = .ok (.bipush 7, 2) := by decide +kernel
theorem dX5_pass_41 : decode cX5_pass 41 = .ok (.iaload, 1) := by decide +kernel
theorem dX5_pass_42 : decode cX5_pass 42 = .ok (.istore_n 2, 1) := by decide +kernel
theorem dX5_pass_43 : decode cX5_pass 43 = .ok (.aload_n 0, 1) := by decide +kernel
theorem dX5_pass_44 : decode cX5_pass 44 = .ok (.iload_n 1, 1) := by decide +kernel
theorem dX5_pass_45 : decode cX5_pass 45 = .ok (.invokevirtual 132, 3) := by decide +kernel
theorem dX5_pass_48 : decode cX5_pass 48 = .ok (.aload_n 0, 1) := by decide +kernel
theorem dX5_pass_49 : decode cX5_pass 49 = .ok (.aload_n 0, 1) := by decide +kernel
theorem dX5_pass_50 : decode cX5_pass 50 = .ok (.getfield 7, 3) := by decide +kernel
theorem dX5_pass_53 : decode cX5_pass 53 = .ok (.bipush 7, 2) := by decide +kernel
theorem dX5_pass_55 : decode cX5_pass 55 = .ok (.iaload, 1) := by decide +kernel
theorem dX5_pass_56 : decode cX5_pass 56 = .ok (.iload_n 2, 1) := by decide +kernel
theorem dX5_pass_57 : decode cX5_pass 57 = .ok (.isub, 1) := by decide +kernel
theorem dX5_pass_58 : decode cX5_pass 58 = .ok (.invokevirtual 111, 3) := by decide +kernel
theorem dX5_pass_61 : decode cX5_pass 61 = .ok (.ireturn, 1) := by decide +kernel
theorem dX5_type_0 : decode cX5_type 0 = .ok (.aload_n 0, 1) := by decide +kernel
theorem dX5_type_1 : decode cX5_type 1 = .ok (.getfield 135, 3) := by decide +kernel
theorem dX5_type_4 : decode cX5_type 4 = .ok (.bipush 60, 2) := by decide +kernel
theorem dX5_type_6 : decode cX5_type 6 = .ok (.if_icmp .ne 6, 3) := by decide +kernel
theorem dX5_type_9 : decode cX5_type 9 = .ok (.bipush (-3), 2) := by decide +kernel
theorem dX5_type_11 : decode cX5_type 11 = .ok (.ireturn, 1) := by decide +kernel
theorem dX5_type_12 : decode cX5_type 12 = .ok (.aload_n 0, 1) := by decide +kernel
theorem dX5_type_13 : decode cX5_type 13 = .ok (.getfield 25, 3) := by decide +kernel
theorem dX5_type_16 : decode cX5_type 16 = .ok (.aload_n 0, 1) := by decide +kernel
theorem dX5_type_17 : decode cX5_type 17 = .ok (.getfield 135, 3) := by decide +kernel
theorem dX5_type_20 : decode cX5_type 20 = .ok (.iload_n 1, 1) := by decide +kernel
theorem dX5_type_21 : decode cX5_type 21 = .ok (.iastore, 1) := by decide +kernel
theorem dX5_type_22 : decode cX5_type 22 = .ok (.aload_n 0, 1) := by decide +kernel
theorem dX5_type_23 : decode cX5_type 23 = .ok (.dup, 1) := by decide +kernel
theorem dX5_type_24 : decode cX5_type 24 = .ok (.getfield 135, 3) := by decide +kernel
theorem dX5_type_27 : decode cX5_type 27 = .ok (.iconst 1, 1) := by decide +kernel
theorem dX5_type_28 : decode cX5_type 28 = .ok (.iadd, 1) := by decide +kernel
theorem dX5_type_29 : decode cX5_type 29 = .ok (.putfield 135, 3) := by decide +kernel
theorem dX5_type_32 : decode cX5_type 32 = .ok (.aload_n 0, 1) := by decide +kernel
theorem dX5_type_33 : decode cX5_type 33 = .ok (.getfield 135, 3) := by decide +kernel
theorem dX5_type_36 : decode cX5_type 36 = .ok (.ireturn, 1) := by decide +kernel
theorem dX5_clearText_0 : decode cX5_clearText 0 = .ok (.aload_n 0, 1) := by decide +kernel
theorem dX5_clearText_1 : decode cX5_clearText 1 = .ok (.getfield 135, 3) := by decide +kernel
theorem dX5_clearText_4 : decode cX5_clearText 4 = .ok (.istore_n 1, 1) := by decide +kernel
theorem dX5_clearText_5 : decode cX5_clearText 5 = .ok (.aload_n 0, 1) := by decide +kernel
theorem dX5_clearText_6 : decode cX5_clearText 6 = .ok (.iconst 0, 1) := by decide +kernel
theorem dX5_clearText_7 : decode cX5_clearText 7 = .ok (.putfield 135, 3) := by decide +kernel
theorem dX5_clearText_10 : decode cX5_clearText 10 = .ok (.iload_n 1, 1) := by decide +kernel
theorem dX5_clearText_11 : decode cX5_clearText 11 = .ok (.ireturn, 1) := by decide +kernel
theorem dX5_isHere_0 : decode cX5_isHere 0 = .ok (.aload_n 0, 1) := by decide +kernel
theorem dX5_isHere_1 : decode cX5_isHere 1 = .ok (.getfield 138, 3) := by decide +kernel
theorem dX5_isHere_4 : decode cX5_isHere 4 = .ok (.aload_n 0, 1) := by decide +kernel
theorem dX5_isHere_5 : decode cX5_isHere 5 = .ok (.getfield 135, 3) := by decide +kernel
theorem dX5_isHere_8 : decode cX5_isHere 8 = .ok (.if_icmp .ge 27, 3) := by decide +kernel
theorem dX5_isHere_11 : decode cX5_isHere 11 = .ok (.aload_n 0, 1) := by decide +kernel
theorem dX5_isHere_12 : decode cX5_isHere 12 = .ok (.getfield 25, 3) := by decide +kernel
theorem dX5_isHere_15 : decode cX5_isHere 15 = .ok (.aload_n 0, 1) := by decide +kernel
theorem dX5_isHere_16 : decode cX5_isHere 16 = .ok (.getfield 138, 3) := by decide +kernel
theorem dX5_isHere_19 : decode cX5_isHere 19 = .ok (.iaload, 1) := by decide +kernel
theorem dX5_isHere_20 : decode cX5_isHere 20 = .ok (.i2l, 1) := by decide +kernel
theorem dX5_isHere_21 : decode cX5_isHere 21 = .ok (.iload_n 1, 1) := by decide +kernel
theorem dX5_isHere_22 : decode cX5_isHere 22 = .ok (.i2l, 1) := by decide +kernel
theorem dX5_isHere_23 : decode cX5_isHere 23 = .ok (.iload_n 2, 1) := by decide +kernel
theorem dX5_isHere_24 : decode cX5_isHere 24 = .ok (.i2l, 1) := by decide +kernel
theorem dX5_isHere_25 : decode cX5_isHere 25 = .ok (.invokestatic 104, 3) := by decide +kernel
theorem dX5_isHere_28 : decode cX5_isHere 28 = .ok (.ifCond .eq 7, 3) := by decide +kernel
theorem dX5_isHere_31 : decode cX5_isHere 31 = .ok (.iconst 1, 1) := by decide +kernel
theorem dX5_isHere_32 : decode cX5_isHere 32 = .ok (.goto 4, 3) := by decide +kernel
theorem dX5_isHere_35 : decode cX5_isHere 35 = .ok (.iconst 0, 1) := by decide +kernel
theorem dX5_isHere_36 : decode cX5_isHere 36 = .ok (.ireturn, 1) := by decide +kernel
theorem dX5_takesSign_0 : decode cX5_takesSign 0 = .ok (.aload_n 0, 1) := by decide +kernel
theorem dX5_takesSign_1 : decode cX5_takesSign 1 = .ok (.iload_n 1, 1) := by decide +kernel
theorem dX5_takesSign_2 : decode cX5_takesSign 2 = .ok (.iload_n 1, 1) := by decide +kernel
theorem dX5_takesSign_3 : decode cX5_takesSign 3 = .ok (.invokevirtual 141, 3) := by decide +kernel
theorem dX5_takesSign_6 : decode cX5_takesSign 6 = .ok (.istore_n 2, 1) := by decide +kernel
theorem dX5_takesSign_7 : decode cX5_takesSign 7 = .ok (.aload_n 0, 1) := by decide +kernel
theorem dX5_takesSign_8 : decode cX5_takesSign 8 = .ok (.dup, 1) := by decide +kernel
theorem dX5_takesSign_9 : decode cX5_takesSign 9 = .ok (.getfield 138, 3) := by decide +kernel
theorem dX5_takesSign_12 : decode cX5_takesSign 12 = .ok (.iload_n 2, 1) := by decide +kernel
theorem dX5_takesSign_13 : decode cX5_takesSign 13 = .ok (.ifCond .eq 7, 3) := by decide +kernel
theorem dX5_takesSign_16 : decode cX5_takesSign 16 = .ok (.iconst 1, 1) := by decide +kernel
theorem dX5_takesSign_17 : decode cX5_takesSign 17 = .ok (.goto 4, 3) := by decide +kernel
theorem dX5_takesSign_20 : decode cX5_takesSign 20 = .ok (.iconst 0, 1) := by decide +kernel
theorem dX5_takesSign_21 : decode cX5_takesSign 21 = .ok (.iadd, 1) := by decide +kernel
theorem dX5_takesSign_22 : decode cX5_takesSign 22 = .ok (.putfield 138, 3) := by decide +kernel
theorem dX5_takesSign_25 : decode cX5_takesSign 25 = .ok (.iload_n 2, 1) := by decide +kernel
theorem dX5_takesSign_26 : decode cX5_takesSign 26 = .ok (.ireturn, 1) := by decide +kernel
theorem dX5_readsNumber_0 : decode cX5_readsNumber 0 = .ok (.aload_n 0, 1) := by decide +kernel
theorem dX5_readsNumber_1 : decode cX5_readsNumber 1 = .ok (.bipush 48, 2) := by decide +kernel
theorem dX5_readsNumber_3 : decode cX5_readsNumber 3 = .ok (.iload_n 1, 1) := by decide +kernel
theorem dX5_readsNumber_4 : decode cX5_readsNumber 4 = .ok (.iadd, 1) := by decide +kernel
theorem dX5_readsNumber_5 : decode cX5_readsNumber 5 = .ok (.bipush 57, 2) := by decide +kernel
theorem dX5_readsNumber_7 : decode cX5_readsNumber 7 = .ok (.invokevirtual 141, 3) := by decide +kernel
theorem dX5_readsNumber_10 : decode cX5_readsNumber 10 = .ok (.ifCond .ne 5, 3) := by decide +kernel
theorem dX5_readsNumber_13 : decode cX5_readsNumber 13 = .ok (.iconst 0, 1) := by decide +kernel
theorem dX5_readsNumber_14 : decode cX5_readsNumber 14 = .ok (.ireturn, 1) := by decide +kernel
theorem dX5_readsNumber_15 : decode cX5_readsNumber 15 = .ok (.aload_n 0, 1) := by decide +kernel
theorem dX5_readsNumber_16 : decode cX5_readsNumber 16 = .ok (.aload_n 0, 1) := by decide +kernel
theorem dX5_readsNumber_17 : decode cX5_readsNumber 17 = .ok (.getfield 25, 3) := by decide +kernel
theorem dX5_readsNumber_20 : decode cX5_readsNumber 20 = .ok (.aload_n 0, 1) := by decide +kernel
theorem dX5_readsNumber_21 : decode cX5_readsNumber 21 = .ok (.getfield 138, 3) := by decide +kernel
theorem dX5_readsNumber_24 : decode cX5_readsNumber 24 = .ok (.iaload, 1) := by decide +kernel
theorem dX5_readsNumber_25 : decode cX5_readsNumber 25 = .ok (.bipush 48, 2) := by decide +kernel
theorem dX5_readsNumber_27 : decode cX5_readsNumber 27 = .ok (.isub, 1) := by decide +kernel
theorem dX5_readsNumber_28 : decode cX5_readsNumber 28 = .ok (.putfield 144, 3) := by decide +kernel
theorem dX5_readsNumber_31 : decode cX5_readsNumber 31 = .ok (.aload_n 0, 1) := by decide +kernel
theorem dX5_readsNumber_32 : decode cX5_readsNumber 32 = .ok (.dup, 1) := by decide +kernel
theorem dX5_readsNumber_33 : decode cX5_readsNumber 33 = .ok (.getfield 138, 3) := by decide +kernel
theorem dX5_readsNumber_36 : decode cX5_readsNumber 36 = .ok (.iconst 1, 1) := by decide +kernel
theorem dX5_readsNumber_37 : decode cX5_readsNumber 37 = .ok (.iadd, 1) := by decide +kernel
theorem dX5_readsNumber_38 : decode cX5_readsNumber 38 = .ok (.putfield 138, 3) := by decide +kernel
theorem dX5_readsNumber_41 : decode cX5_readsNumber 41 = .ok (.aload_n 0, 1) := by decide +kernel
theorem dX5_readsNumber_42 : decode cX5_readsNumber 42 = .ok (.getfield 144, 3) := by decide +kernel
theorem dX5_readsNumber_45 : decode cX5_readsNumber 45 = .ok (.ifCond .le 48, 3) := by decide +kernel
theorem dX5_readsNumber_48 : decode cX5_readsNumber 48 = .ok (.aload_n 0, 1) := by decide +kernel
theorem dX5_readsNumber_49 : decode cX5_readsNumber 49 = .ok (.bipush 48, 2) := by decide +kernel
theorem dX5_readsNumber_51 : decode cX5_readsNumber 51 = .ok (.bipush 57, 2) := by decide +kernel
theorem dX5_readsNumber_53 : decode cX5_readsNumber 53 = .ok (.invokevirtual 141, 3) := by decide +kernel
theorem dX5_readsNumber_56 : decode cX5_readsNumber 56 = .ok (.ifCond .eq 37, 3) := by decide +kernel
theorem dX5_readsNumber_59 : decode cX5_readsNumber 59 = .ok (.aload_n 0, 1) := by decide +kernel
theorem dX5_readsNumber_60 : decode cX5_readsNumber 60 = .ok (.bipush 10, 2) := by decide +kernel
theorem dX5_readsNumber_62 : decode cX5_readsNumber 62 = .ok (.aload_n 0, 1) := by decide +kernel
theorem dX5_readsNumber_63 : decode cX5_readsNumber 63 = .ok (.getfield 144, 3) := by decide +kernel
theorem dX5_readsNumber_66 : decode cX5_readsNumber 66 = .ok (.imul, 1) := by decide +kernel
theorem dX5_readsNumber_67 : decode cX5_readsNumber 67 = .ok (.aload_n 0, 1) := by decide +kernel
theorem dX5_readsNumber_68 : decode cX5_readsNumber 68 = .ok (.getfield 25, 3) := by decide +kernel
theorem dX5_readsNumber_71 : decode cX5_readsNumber 71 = .ok (.aload_n 0, 1) := by decide +kernel
theorem dX5_readsNumber_72 : decode cX5_readsNumber 72 = .ok (.getfield 138, 3) := by decide +kernel
theorem dX5_readsNumber_75 : decode cX5_readsNumber 75 = .ok (.iaload, 1) := by decide +kernel
theorem dX5_readsNumber_76 : decode cX5_readsNumber 76 = .ok (.iadd, 1) := by decide +kernel
theorem dX5_readsNumber_77 : decode cX5_readsNumber 77 = .ok (.bipush 48, 2) := by decide +kernel
theorem dX5_readsNumber_79 : decode cX5_readsNumber 79 = .ok (.isub, 1) := by decide +kernel
theorem dX5_readsNumber_80 : decode cX5_readsNumber 80 = .ok (.putfield 144, 3) := by decide +kernel
theorem dX5_readsNumber_83 : decode cX5_readsNumber 83 = .ok (.aload_n 0, 1) := by decide +kernel
theorem dX5_readsNumber_84 : decode cX5_readsNumber 84 = .ok (.dup, 1) := by decide +kernel
theorem dX5_readsNumber_85 : decode cX5_readsNumber 85 = .ok (.getfield 138, 3) := by decide +kernel
theorem dX5_readsNumber_88 : decode cX5_readsNumber 88 = .ok (.iconst 1, 1) := by decide +kernel
theorem dX5_readsNumber_89 : decode cX5_readsNumber 89 = .ok (.iadd, 1) := by decide +kernel
theorem dX5_readsNumber_90 : decode cX5_readsNumber 90 = .ok (.putfield 138, 3) := by decide +kernel
theorem dX5_readsNumber_93 : decode cX5_readsNumber 93 = .ok (.iconst 1, 1) := by decide +kernel
theorem dX5_readsNumber_94 : decode cX5_readsNumber 94 = .ok (.ireturn, 1) := by decide +kernel
theorem dX5_readsPart_0 : decode cX5_readsPart 0 = .ok (.aload_n 0, 1) := by decide +kernel
theorem dX5_readsPart_1 : decode cX5_readsPart 1 = .ok (.iconst 0, 1) := by decide +kernel
theorem dX5_readsPart_2 : decode cX5_readsPart 2 = .ok (.putfield 147, 3) := by decide +kernel
theorem dX5_readsPart_5 : decode cX5_readsPart 5 = .ok (.aload_n 0, 1) := by decide +kernel
theorem dX5_readsPart_6 : decode cX5_readsPart 6 = .ok (.iconst 0, 1) := by decide +kernel
theorem dX5_readsPart_7 : decode cX5_readsPart 7 = .ok (.putfield 150, 3) := by decide +kernel
theorem dX5_readsPart_10 : decode cX5_readsPart 10 = .ok (.aload_n 0, 1) := by decide +kernel
theorem dX5_readsPart_11 : decode cX5_readsPart 11 = .ok (.bipush 46, 2) := by decide +kernel
theorem dX5_readsPart_13 : decode cX5_readsPart 13 = .ok (.invokevirtual 153, 3) := by decide +kernel
theorem dX5_readsPart_16 : decode cX5_readsPart 16 = .ok (.ifCond .eq 19, 3) := by decide +kernel
theorem dX5_readsPart_19 : decode cX5_readsPart 19 = .ok (.aload_n 0, 1) := by decide +kernel
theorem dX5_readsPart_20 : decode cX5_readsPart 20 = .ok (.iconst 1, 1) := by decide +kernel
theorem dX5_readsPart_21 : decode cX5_readsPart 21 = .ok (.invokevirtual 156, 3) := by decide +kernel
theorem dX5_readsPart_24 : decode cX5_readsPart 24 = .ok (.istore_n 1, 1) := by decide +kernel
theorem dX5_readsPart_25 : decode cX5_readsPart 25 = .ok (.aload_n 0, 1) := by decide +kernel
theorem dX5_readsPart_26 : decode cX5_readsPart 26 = .ok (.aload_n 0, 1) := by decide +kernel
theorem dX5_readsPart_27 : decode cX5_readsPart 27 = .ok (.getfield 144, 3) := by decide +kernel
theorem dX5_readsPart_30 : decode cX5_readsPart 30 = .ok (.putfield 150, 3) := by decide +kernel
theorem dX5_readsPart_33 : decode cX5_readsPart 33 = .ok (.iload_n 1, 1) := by decide +kernel
theorem dX5_readsPart_34 : decode cX5_readsPart 34 = .ok (.ireturn, 1) := by decide +kernel
theorem dX5_readsPart_35 : decode cX5_readsPart 35 = .ok (.aload_n 0, 1) := by decide +kernel
theorem dX5_readsPart_36 : decode cX5_readsPart 36 = .ok (.iconst 0, 1) := by decide +kernel
theorem dX5_readsPart_37 : decode cX5_readsPart 37 = .ok (.invokevirtual 156, 3) := by decide +kernel
theorem dX5_readsPart_40 : decode cX5_readsPart 40 = .ok (.ifCond .ne 5, 3) := by decide +kernel
theorem dX5_readsPart_43 : decode cX5_readsPart 43 = .ok (.iconst 0, 1) := by decide +kernel
theorem dX5_readsPart_44 : decode cX5_readsPart 44 = .ok (.ireturn, 1) := by decide +kernel
theorem dX5_readsPart_45 : decode cX5_readsPart 45 = .ok (.aload_n 0, 1) := by decide +kernel
theorem dX5_readsPart_46 : decode cX5_readsPart 46 = .ok (.aload_n 0, 1) := by decide +kernel
theorem dX5_readsPart_47 : decode cX5_readsPart 47 = .ok (.getfield 144, 3) := by decide +kernel
theorem dX5_readsPart_50 : decode cX5_readsPart 50 = .ok (.putfield 159, 3) := by decide +kernel
theorem dX5_readsPart_53 : decode cX5_readsPart 53 = .ok (.aload_n 0, 1) := by decide +kernel
theorem dX5_readsPart_54 : decode cX5_readsPart 54 = .ok (.iconst 1, 1) := by decide +kernel
theorem dX5_readsPart_55 : decode cX5_readsPart 55 = .ok (.putfield 147, 3) := by decide +kernel
theorem dX5_readsPart_58 : decode cX5_readsPart 58 = .ok (.aload_n 0, 1) := by decide +kernel
theorem dX5_readsPart_59 : decode cX5_readsPart 59 = .ok (.bipush 120, 2) := by decide +kernel
theorem dX5_readsPart_61 : decode cX5_readsPart 61 = .ok (.invokevirtual 153, 3) := by decide +kernel
theorem dX5_readsPart_64 : decode cX5_readsPart 64 = .ok (.ifCond .eq 42, 3) := by decide +kernel
theorem dX5_readsPart_67 : decode cX5_readsPart 67 = .ok (.aload_n 0, 1) := by decide +kernel
theorem dX5_readsPart_68 : decode cX5_readsPart 68 = .ok (.bipush 50, 2) := by decide +kernel
theorem dX5_readsPart_70 : decode cX5_readsPart 70 = .ok (.bipush 57, 2) := by decide +kernel
theorem dX5_readsPart_72 : decode cX5_readsPart 72 = .ok (.invokevirtual 141, 3) := by decide +kernel
theorem dX5_readsPart_75 : decode cX5_readsPart 75 = .ok (.ifCond .ne 5, 3) := by decide +kernel
theorem dX5_readsPart_78 : decode cX5_readsPart 78 = .ok (.iconst 0, 1) := by decide +kernel
theorem dX5_readsPart_79 : decode cX5_readsPart 79 = .ok (.ireturn, 1) := by decide +kernel
theorem dX5_readsPart_80 : decode cX5_readsPart 80 = .ok (.aload_n 0, 1) := by decide +kernel
theorem dX5_readsPart_81 : decode cX5_readsPart 81 = .ok (.aload_n 0, 1) := by decide +kernel
theorem dX5_readsPart_82 : decode cX5_readsPart 82 = .ok (.getfield 25, 3) := by decide +kernel
theorem dX5_readsPart_85 : decode cX5_readsPart 85 = .ok (.aload_n 0, 1) := by decide +kernel
theorem dX5_readsPart_86 : decode cX5_readsPart 86 = .ok (.getfield 138, 3) := by decide +kernel
theorem dX5_readsPart_89 : decode cX5_readsPart 89 = .ok (.iaload, 1) := by decide +kernel
theorem dX5_readsPart_90 : decode cX5_readsPart 90 = .ok (.bipush 48, 2) := by decide +kernel
theorem dX5_readsPart_92 : decode cX5_readsPart 92 = .ok (.isub, 1) := by decide +kernel
theorem dX5_readsPart_93 : decode cX5_readsPart 93 = .ok (.putfield 147, 3) := by decide +kernel
theorem dX5_readsPart_96 : decode cX5_readsPart 96 = .ok (.aload_n 0, 1) := by decide +kernel
theorem dX5_readsPart_97 : decode cX5_readsPart 97 = .ok (.dup, 1) := by decide +kernel
theorem dX5_readsPart_98 : decode cX5_readsPart 98 = .ok (.getfield 138, 3) := by decide +kernel
theorem dX5_readsPart_101 : decode cX5_readsPart 101 = .ok (.iconst 1, 1) := by decide +kernel
theorem dX5_readsPart_102 : decode cX5_readsPart 102 = .ok (.iadd, 1) := by decide +kernel
theorem dX5_readsPart_103 : decode cX5_readsPart 103 = .ok (.putfield 138, 3) := by decide +kernel
theorem dX5_readsPart_106 : decode cX5_readsPart 106 = .ok (.iconst 1, 1) := by decide +kernel
theorem dX5_readsPart_107 : decode cX5_readsPart 107 = .ok (.ireturn, 1) := by decide +kernel
theorem dX5_fault_0 : decode cX5_fault 0 = .ok (.aload_n 0, 1) := by decide +kernel
theorem dX5_fault_1 : decode cX5_fault 1 = .ok (.iconst 0, 1) := by decide +kernel
theorem dX5_fault_2 : decode cX5_fault 2 = .ok (.putfield 138, 3) := by decide +kernel
theorem dX5_fault_5 : decode cX5_fault 5 = .ok (.iconst 1, 1) := by decide +kernel
theorem dX5_fault_6 : decode cX5_fault 6 = .ok (.istore_n 1, 1) := by decide +kernel
theorem dX5_fault_7 : decode cX5_fault 7 = .ok (.iload_n 1, 1) := by decide +kernel
theorem dX5_fault_8 : decode cX5_fault 8 = .ok (.ifCond .eq 25, 3) := by decide +kernel
theorem dX5_fault_11 : decode cX5_fault 11 = .ok (.aload_n 0, 1) := by decide +kernel
theorem dX5_fault_12 : decode cX5_fault 12 = .ok (.invokevirtual 162, 3) := by decide +kernel
theorem dX5_fault_15 : decode cX5_fault 15 = .ok (.ifCond .ne 8, 3) := by decide +kernel
theorem dX5_fault_18 : decode cX5_fault 18 = .ok (.aload_n 0, 1) := by decide +kernel
theorem dX5_fault_19 : decode cX5_fault 19 = .ok (.getfield 138, 3) := by decide +kernel
theorem dX5_fault_22 : decode cX5_fault 22 = .ok (.ireturn, 1) := by decide +kernel
theorem dX5_fault_23 : decode cX5_fault 23 = .ok (.aload_n 0, 1) := by decide +kernel
theorem dX5_fault_24 : decode cX5_fault 24 = .ok (.bipush 44, 2) := by decide +kernel
theorem dX5_fault_26 : decode cX5_fault 26 = .ok (.invokevirtual 153, 3) := by decide +kernel
theorem dX5_fault_29 : decode cX5_fault 29 = .ok (.istore_n 1, 1) := by decide +kernel
theorem dX5_fault_30 : decode cX5_fault 30 = .ok (.goto (-23), 3) := by decide +kernel
theorem dX5_fault_33 : decode cX5_fault 33 = .ok (.aload_n 0, 1) := by decide +kernel
theorem dX5_fault_34 : decode cX5_fault 34 = .ok (.getfield 138, 3) := by decide +kernel
theorem dX5_fault_37 : decode cX5_fault 37 = .ok (.aload_n 0, 1) := by decide +kernel
theorem dX5_fault_38 : decode cX5_fault 38 = .ok (.getfield 135, 3) := by decide +kernel
theorem dX5_fault_41 : decode cX5_fault 41 = .ok (.if_icmp .ne 8, 3) := by decide +kernel
theorem dX5_fault_44 : decode cX5_fault 44 = .ok (.bipush (-5), 2) := by decide +kernel
theorem dX5_fault_46 : decode cX5_fault 46 = .ok (.goto 7, 3) := by decide +kernel
theorem dX5_fault_49 : decode cX5_fault 49 = .ok (.aload_n 0, 1) := by decide +kernel
theorem dX5_fault_50 : decode cX5_fault 50 = .ok (.getfield 138, 3) := by decide +kernel
theorem dX5_fault_53 : decode cX5_fault 53 = .ok (.ireturn, 1) := by decide +kernel
theorem dX5_doesText_0 : decode cX5_doesText 0 = .ok (.aload_n 0, 1) := by decide +kernel
theorem dX5_doesText_1 : decode cX5_doesText 1 = .ok (.iconst 0, 1) := by decide +kernel
theorem dX5_doesText_2 : decode cX5_doesText 2 = .ok (.putfield 138, 3) := by decide +kernel
theorem dX5_doesText_5 : decode cX5_doesText 5 = .ok (.iconst 0, 1) := by decide +kernel
theorem dX5_doesText_6 : decode cX5_doesText 6 = .ok (.istore_n 1, 1) := by decide +kernel
theorem dX5_doesText_7 : decode cX5_doesText 7 = .ok (.iconst 1, 1) := by decide +kernel
theorem dX5_doesText_8 : decode cX5_doesText 8 = .ok (.istore_n 2, 1) := by decide +kernel
theorem dX5_doesText_9 : decode cX5_doesText 9 = .ok (.iload_n 2, 1) := by decide +kernel
theorem dX5_doesText_10 : decode cX5_doesText 10 = .ok (.ifCond .eq 94, 3) := by decide +kernel
theorem dX5_doesText_13 : decode cX5_doesText 13 = .ok (.aload_n 0, 1) := by decide +kernel
theorem dX5_doesText_14 : decode cX5_doesText 14 = .ok (.invokevirtual 162, 3) := by decide +kernel
theorem dX5_doesText_17 : decode cX5_doesText 17 = .ok (.istore_n 3, 1) := by decide +kernel
theorem dX5_doesText_18 : decode cX5_doesText 18 = .ok (.aload_n 0, 1) := by decide +kernel
theorem dX5_doesText_19 : decode cX5_doesText 19 = .ok (.getfield 7, 3) := by decide +kernel
theorem dX5_doesText_22 : decode cX5_doesText 22 = .ok (.iconst 5, 1) := by decide +kernel
theorem dX5_doesText_23 : decode cX5_doesText 23 = .ok (.iaload, 1) := by decide +kernel
theorem dX5_doesText_24 : decode cX5_doesText 24 = .ok (.aload_n 0, 1) := by decide +kernel
theorem dX5_doesText_25 : decode cX5_doesText 25 = .ok (.getfield 147, 3) := by decide +kernel
theorem dX5_doesText_28 : decode cX5_doesText 28 = .ok (.iadd, 1) := by decide +kernel
theorem dX5_doesText_29 : decode cX5_doesText 29 = .ok (.bipush 20, 2) := by decide +kernel
theorem dX5_doesText_31 : decode cX5_doesText 31 = .ok (.if_icmp .gt 19, 3) := by decide +kernel
theorem dX5_doesText_34 : decode cX5_doesText 34 = .ok (.aload_n 0, 1) := by decide +kernel
theorem dX5_doesText_35 : decode cX5_doesText 35 = .ok (.getfield 7, 3) := by decide +kernel
theorem dX5_doesText_38 : decode cX5_doesText 38 = .ok (.iconst 2, 1) := by decide +kernel
theorem dX5_doesText_39 : decode cX5_doesText 39 = .ok (.iaload, 1) := by decide +kernel
theorem dX5_doesText_40 : decode cX5_doesText 40 = .ok (.aload_n 0, 1) := by decide +kernel
theorem dX5_doesText_41 : decode cX5_doesText 41 = .ok (.getfield 150, 3) := by decide +kernel
theorem dX5_doesText_44 : decode cX5_doesText 44 = .ok (.iadd, 1) := by decide +kernel
theorem dX5_doesText_45 : decode cX5_doesText 45 = .ok (.ldc 131, 2) := by decide +kernel
theorem dX5_doesText_47 : decode cX5_doesText 47 = .ok (.if_icmp .le 6, 3) := by decide +kernel
theorem dX5_doesText_50 : decode cX5_doesText 50 = .ok (.bipush (-3), 2) := by decide +kernel
theorem dX5_doesText_52 : decode cX5_doesText 52 = .ok (.ireturn, 1) := by decide +kernel
theorem dX5_doesText_53 : decode cX5_doesText 53 = .ok (.iconst 0, 1) := by decide +kernel
theorem dX5_doesText_54 : decode cX5_doesText 54 = .ok (.istore 4, 2) := by decide +kernel
theorem dX5_doesText_56 : decode cX5_doesText 56 = .ok (.iload 4, 2) := by decide +kernel
theorem dX5_doesText_58 : decode cX5_doesText 58 = .ok (.aload_n 0, 1) := by decide +kernel
theorem dX5_doesText_59 : decode cX5_doesText 59 = .ok (.getfield 147, 3) := by decide +kernel
theorem dX5_doesText_62 : decode cX5_doesText 62 = .ok (.if_icmp .ge 17, 3) := by decide +kernel
theorem dX5_doesText_65 : decode cX5_doesText 65 = .ok (.aload_n 0, 1) := by decide +kernel
theorem dX5_doesText_66 : decode cX5_doesText 66 = .ok (.aload_n 0, 1) := by decide +kernel
theorem dX5_doesText_67 : decode cX5_doesText 67 = .ok (.getfield 159, 3) := by decide +kernel
theorem dX5_doesText_70 : decode cX5_doesText 70 = .ok (.invokevirtual 125, 3) := by decide +kernel
theorem dX5_doesText_73 : decode cX5_doesText 73 = .ok (.iinc 4 1, 3) := by decide +kernel
theorem dX5_doesText_76 : decode cX5_doesText 76 = .ok (.goto (-20), 3) := by decide +kernel
theorem dX5_doesText_79 : decode cX5_doesText 79 = .ok (.aload_n 0, 1) := by decide +kernel
theorem dX5_doesText_80 : decode cX5_doesText 80 = .ok (.aload_n 0, 1) := by decide +kernel
theorem dX5_doesText_81 : decode cX5_doesText 81 = .ok (.getfield 150, 3) := by decide +kernel
theorem dX5_doesText_84 : decode cX5_doesText 84 = .ok (.invokevirtual 132, 3) := by decide +kernel
theorem dX5_doesText_87 : decode cX5_doesText 87 = .ok (.iload_n 1, 1) := by decide +kernel
theorem dX5_doesText_88 : decode cX5_doesText 88 = .ok (.aload_n 0, 1) := by decide +kernel
theorem dX5_doesText_89 : decode cX5_doesText 89 = .ok (.getfield 147, 3) := by decide +kernel
theorem dX5_doesText_92 : decode cX5_doesText 92 = .ok (.iadd, 1) := by decide +kernel
theorem dX5_doesText_93 : decode cX5_doesText 93 = .ok (.istore_n 1, 1) := by decide +kernel
theorem dX5_doesText_94 : decode cX5_doesText 94 = .ok (.aload_n 0, 1) := by decide +kernel
theorem dX5_doesText_95 : decode cX5_doesText 95 = .ok (.bipush 44, 2) := by decide +kernel
theorem dX5_doesText_97 : decode cX5_doesText 97 = .ok (.invokevirtual 153, 3) := by decide +kernel
theorem dX5_doesText_100 : decode cX5_doesText 100 = .ok (.istore_n 2, 1) := by decide +kernel
theorem dX5_doesText_101 : decode cX5_doesText 101 = .ok (.goto (-92), 3) := by decide +kernel
theorem dX5_doesText_104 : decode cX5_doesText 104 = .ok (.iload_n 1, 1) := by decide +kernel
theorem dX5_doesText_105 : decode cX5_doesText 105 = .ok (.ireturn, 1) := by decide +kernel
theorem dX5_pushAll_0 : decode cX5_pushAll 0 = .ok (.aload_n 0, 1) := by decide +kernel
theorem dX5_pushAll_1 : decode cX5_pushAll 1 = .ok (.invokevirtual 165, 3) := by decide +kernel
theorem dX5_pushAll_4 : decode cX5_pushAll 4 = .ok (.istore_n 1, 1) := by decide +kernel
theorem dX5_pushAll_5 : decode cX5_pushAll 5 = .ok (.iload_n 1, 1) := by decide +kernel
theorem dX5_pushAll_6 : decode cX5_pushAll 6 = .ok (.bipush (-5), 2) := by decide +kernel
theorem dX5_pushAll_8 : decode cX5_pushAll 8 = .ok (.if_icmp .eq 8, 3) := by decide +kernel
theorem dX5_pushAll_11 : decode cX5_pushAll 11 = .ok (.bipush (-100), 2) := by decide +kernel
theorem dX5_pushAll_13 : decode cX5_pushAll 13 = .ok (.iload_n 1, 1) := by decide +kernel
theorem dX5_pushAll_14 : decode cX5_pushAll 14 = .ok (.isub, 1) := by decide +kernel
theorem dX5_pushAll_15 : decode cX5_pushAll 15 = .ok (.ireturn, 1) := by decide +kernel
theorem dX5_pushAll_16 : decode cX5_pushAll 16 = .ok (.aload_n 0, 1) := by decide +kernel
theorem dX5_pushAll_17 : decode cX5_pushAll 17 = .ok (.invokevirtual 108, 3) := by decide +kernel
theorem dX5_pushAll_20 : decode cX5_pushAll 20 = .ok (.aload_n 0, 1) := by decide +kernel
theorem dX5_pushAll_21 : decode cX5_pushAll 21 = .ok (.invokevirtual 168, 3) := by decide +kernel
theorem dX5_pushAll_24 : decode cX5_pushAll 24 = .ok (.istore_n 2, 1) := by decide +kernel
theorem dX5_pushAll_25 : decode cX5_pushAll 25 = .ok (.iload_n 2, 1) := by decide +kernel
theorem dX5_pushAll_26 : decode cX5_pushAll 26 = .ok (.bipush (-3), 2) := by decide +kernel
theorem dX5_pushAll_28 : decode cX5_pushAll 28 = .ok (.if_icmp .ne 17, 3) := by decide +kernel
theorem dX5_pushAll_31 : decode cX5_pushAll 31 = .ok (.aload_n 0, 1) := by decide +kernel
theorem dX5_pushAll_32 : decode cX5_pushAll 32 = .ok (.getfield 13, 3) := by decide +kernel
theorem dX5_pushAll_35 : decode cX5_pushAll 35 = .ok (.aload_n 0, 1) := by decide +kernel
theorem dX5_pushAll_36 : decode cX5_pushAll 36 = .ok (.getfield 7, 3) := by decide +kernel
theorem dX5_pushAll_39 : decode cX5_pushAll 39 = .ok (.invokestatic 32, 3) := by decide +kernel
theorem dX5_pushAll_42 : decode cX5_pushAll 42 = .ok (.bipush (-3), 2) := by decide +kernel
theorem dX5_pushAll_44 : decode cX5_pushAll 44 = .ok (.ireturn, 1) := by decide +kernel
theorem dX5_pushAll_45 : decode cX5_pushAll 45 = .ok (.aload_n 0, 1) := by decide +kernel
theorem dX5_pushAll_46 : decode cX5_pushAll 46 = .ok (.iload_n 2, 1) := by decide +kernel
theorem dX5_pushAll_47 : decode cX5_pushAll 47 = .ok (.invokevirtual 111, 3) := by decide +kernel
theorem dX5_pushAll_50 : decode cX5_pushAll 50 = .ok (.ireturn, 1) := by decide +kernel
theorem dX5_undo_0 : decode cX5_undo 0 = .ok (.aload_n 0, 1) := by decide +kernel
theorem dX5_undo_1 : decode cX5_undo 1 = .ok (.getfield 36, 3) := by decide +kernel
theorem dX5_undo_4 : decode cX5_undo 4 = .ok (.ifCond .ne 6, 3) := by decide +kernel
theorem dX5_undo_7 : decode cX5_undo 7 = .ok (.bipush (-5), 2) := by decide +kernel
theorem dX5_undo_9 : decode cX5_undo 9 = .ok (.ireturn, 1) := by decide +kernel
theorem dX5_undo_10 : decode cX5_undo 10 = .ok (.aload_n 0, 1) := by decide +kernel
theorem dX5_undo_11 : decode cX5_undo 11 = .ok (.dup, 1) := by decide +kernel
theorem dX5_undo_12 : decode cX5_undo 12 = .ok (.getfield 36, 3) := by decide +kernel
theorem dX5_undo_15 : decode cX5_undo 15 = .ok (.iconst 1, 1) := by decide +kernel
theorem dX5_undo_16 : decode cX5_undo 16 = .ok (.isub, 1) := by decide +kernel
theorem dX5_undo_17 : decode cX5_undo 17 = .ok (.putfield 36, 3) := by decide +kernel
theorem dX5_undo_20 : decode cX5_undo 20 = .ok (.iconst 0, 1) := by decide +kernel
theorem dX5_undo_21 : decode cX5_undo 21 = .ok (.istore_n 1, 1) := by decide +kernel
theorem dX5_undo_22 : decode cX5_undo 22 = .ok (.iload_n 1, 1) := by decide +kernel
theorem dX5_undo_23 : decode cX5_undo 23 = .ok (.bipush 96, 2) := by decide +kernel
theorem dX5_undo_25 : decode cX5_undo 25 = .ok (.if_icmp .ge 29, 3) := by decide +kernel
theorem dX5_undo_28 : decode cX5_undo 28 = .ok (.aload_n 0, 1) := by decide +kernel
theorem dX5_undo_29 : decode cX5_undo 29 = .ok (.getfield 7, 3) := by decide +kernel
theorem dX5_undo_32 : decode cX5_undo 32 = .ok (.iload_n 1, 1) := by decide +kernel
theorem dX5_undo_33 : decode cX5_undo 33 = .ok (.aload_n 0, 1) := by decide +kernel
theorem dX5_undo_34 : decode cX5_undo 34 = .ok (.getfield 19, 3) := by decide +kernel
theorem dX5_undo_37 : decode cX5_undo 37 = .ok (.bipush 96, 2) := by decide +kernel
theorem dX5_undo_39 : decode cX5_undo 39 = .ok (.aload_n 0, 1) := by decide +kernel
theorem dX5_undo_40 : decode cX5_undo 40 = .ok (.getfield 36, 3) := by decide +kernel
theorem dX5_undo_43 : decode cX5_undo 43 = .ok (.imul, 1) := by decide +kernel
theorem dX5_undo_44 : decode cX5_undo 44 = .ok (.iload_n 1, 1) := by decide +kernel
theorem dX5_undo_45 : decode cX5_undo 45 = .ok (.iadd, 1) := by decide +kernel
theorem dX5_undo_46 : decode cX5_undo 46 = .ok (.iaload, 1) := by decide +kernel
theorem dX5_undo_47 : decode cX5_undo 47 = .ok (.iastore, 1) := by decide +kernel
theorem dX5_undo_48 : decode cX5_undo 48 = .ok (.iinc 1 1, 3) := by decide +kernel
theorem dX5_undo_51 : decode cX5_undo 51 = .ok (.goto (-29), 3) := by decide +kernel
theorem dX5_undo_54 : decode cX5_undo 54 = .ok (.aload_n 0, 1) := by decide +kernel
theorem dX5_undo_55 : decode cX5_undo 55 = .ok (.getfield 36, 3) := by decide +kernel
theorem dX5_undo_58 : decode cX5_undo 58 = .ok (.ireturn, 1) := by decide +kernel
theorem dX5_keep_0 : decode cX5_keep 0 = .ok (.aload_n 0, 1) := by decide +kernel
theorem dX5_keep_1 : decode cX5_keep 1 = .ok (.getfield 7, 3) := by decide +kernel
theorem dX5_keep_4 : decode cX5_keep 4 = .ok (.aload_n 0, 1) := by decide +kernel
theorem dX5_keep_5 : decode cX5_keep 5 = .ok (.getfield 22, 3) := by decide +kernel
theorem dX5_keep_8 : decode cX5_keep 8 = .ok (.invokestatic 32, 3) := by decide +kernel
theorem dX5_keep_11 : decode cX5_keep 11 = .ok (.aload_n 0, 1) := by decide +kernel
theorem dX5_keep_12 : decode cX5_keep 12 = .ok (.iconst 1, 1) := by decide +kernel
theorem dX5_keep_13 : decode cX5_keep 13 = .ok (.putfield 171, 3) := by decide +kernel
theorem dX5_keep_16 : decode cX5_keep 16 = .ok (.aload_n 0, 1) := by decide +kernel
theorem dX5_keep_17 : decode cX5_keep 17 = .ok (.getfield 7, 3) := by decide +kernel
theorem dX5_keep_20 : decode cX5_keep 20 = .ok (.iconst 2, 1) := by decide +kernel
theorem dX5_keep_21 : decode cX5_keep 21 = .ok (.iaload, 1) := by decide +kernel
theorem dX5_keep_22 : decode cX5_keep 22 = .ok (.ireturn, 1) := by decide +kernel
theorem dX5_restore_0 : decode cX5_restore 0 = .ok (.aload_n 0, 1) := by decide +kernel
theorem dX5_restore_1 : decode cX5_restore 1 = .ok (.getfield 171, 3) := by decide +kernel
theorem dX5_restore_4 : decode cX5_restore 4 = .ok (.ifCond .ne 6, 3) := by decide +kernel
theorem dX5_restore_7 : decode cX5_restore 7 = .ok (.bipush (-5), 2) := by decide +kernel
theorem dX5_restore_9 : decode cX5_restore 9 = .ok (.ireturn, 1) := by decide +kernel
theorem dX5_restore_10 : decode cX5_restore 10 = .ok (.aload_n 0, 1) := by decide +kernel
theorem dX5_restore_11 : decode cX5_restore 11 = .ok (.invokevirtual 108, 3) := by decide +kernel
theorem dX5_restore_14 : decode cX5_restore 14 = .ok (.aload_n 0, 1) := by decide +kernel
theorem dX5_restore_15 : decode cX5_restore 15 = .ok (.getfield 22, 3) := by decide +kernel
theorem dX5_restore_18 : decode cX5_restore 18 = .ok (.aload_n 0, 1) := by decide +kernel
theorem dX5_restore_19 : decode cX5_restore 19 = .ok (.getfield 7, 3) := by decide +kernel
theorem dX5_restore_22 : decode cX5_restore 22 = .ok (.invokestatic 32, 3) := by decide +kernel
theorem dX5_restore_25 : decode cX5_restore 25 = .ok (.aload_n 0, 1) := by decide +kernel
theorem dX5_restore_26 : decode cX5_restore 26 = .ok (.aload_n 0, 1) := by decide +kernel
theorem dX5_restore_27 : decode cX5_restore 27 = .ok (.getfield 7, 3) := by decide +kernel
theorem dX5_restore_30 : decode cX5_restore 30 = .ok (.iconst 2, 1) := by decide +kernel
theorem dX5_restore_31 : decode cX5_restore 31 = .ok (.iaload, 1) := by decide +kernel
theorem dX5_restore_32 : decode cX5_restore 32 = .ok (.invokevirtual 111, 3) := by decide +kernel
theorem dX5_restore_35 : decode cX5_restore 35 = .ok (.ireturn, 1) := by decide +kernel
theorem dX5_isAlmost_0 : decode cX5_isAlmost 0 = .ok (.iload_n 1, 1) := by decide +kernel
theorem dX5_isAlmost_1 : decode cX5_isAlmost 1 = .ok (.ifCond .ne 30, 3) := by decide +kernel
theorem dX5_isAlmost_4 : decode cX5_isAlmost 4 = .ok (.aload_n 0, 1) := by decide +kernel
theorem dX5_isAlmost_5 : decode cX5_isAlmost 5 = .ok (.iconst 0, 1) := by decide +kernel
theorem dX5_isAlmost_6 : decode cX5_isAlmost 6 = .ok (.invokevirtual 58, 3) := by decide +kernel
theorem dX5_isAlmost_9 : decode cX5_isAlmost 9 = .ok (.aload_n 0, 1) := by decide +kernel
theorem dX5_isAlmost_10 : decode cX5_isAlmost 10 = .ok (.invokevirtual 40, 3) := by decide +kernel
theorem dX5_isAlmost_13 : decode cX5_isAlmost 13 = .ok (.aload_n 0, 1) := by decide +kernel
theorem dX5_isAlmost_14 : decode cX5_isAlmost 14 = .ok (.getfield 7, 3) := by decide +kernel
theorem dX5_isAlmost_17 : decode cX5_isAlmost 17 = .ok (.iconst 3, 1) := by decide +kernel
theorem dX5_isAlmost_18 : decode cX5_isAlmost 18 = .ok (.iaload, 1) := by decide +kernel
theorem dX5_isAlmost_19 : decode cX5_isAlmost 19 = .ok (.isub, 1) := by decide +kernel
theorem dX5_isAlmost_20 : decode cX5_isAlmost 20 = .ok (.if_icmp .lt 7, 3) := by decide +kernel
theorem dX5_isAlmost_23 : decode cX5_isAlmost 23 = .ok (.iconst 1, 1) := by decide +kernel
theorem dX5_isAlmost_24 : decode cX5_isAlmost 24 = .ok (.goto 26, 3) := by decide +kernel
theorem dX5_isAlmost_27 : decode cX5_isAlmost 27 = .ok (.iconst 0, 1) := by decide +kernel
theorem dX5_isAlmost_28 : decode cX5_isAlmost 28 = .ok (.goto 22, 3) := by decide +kernel
theorem dX5_isAlmost_31 : decode cX5_isAlmost 31 = .ok (.aload_n 0, 1) := by decide +kernel
theorem dX5_isAlmost_32 : decode cX5_isAlmost 32 = .ok (.iconst 1, 1) := by decide +kernel
theorem dX5_isAlmost_33 : decode cX5_isAlmost 33 = .ok (.invokevirtual 58, 3) := by decide +kernel
theorem dX5_isAlmost_36 : decode cX5_isAlmost 36 = .ok (.aload_n 0, 1) := by decide +kernel
theorem dX5_isAlmost_37 : decode cX5_isAlmost 37 = .ok (.getfield 7, 3) := by decide +kernel
theorem dX5_isAlmost_40 : decode cX5_isAlmost 40 = .ok (.iconst 4, 1) := by decide +kernel
theorem dX5_isAlmost_41 : decode cX5_isAlmost 41 = .ok (.iaload, 1) := by decide +kernel
theorem dX5_isAlmost_42 : decode cX5_isAlmost 42 = .ok (.if_icmp .gt 7, 3) := by decide +kernel
theorem dX5_isAlmost_45 : decode cX5_isAlmost 45 = .ok (.iconst 1, 1) := by decide +kernel
theorem dX5_isAlmost_46 : decode cX5_isAlmost 46 = .ok (.goto 4, 3) := by decide +kernel
theorem dX5_isAlmost_49 : decode cX5_isAlmost 49 = .ok (.iconst 0, 1) := by decide +kernel
theorem dX5_isAlmost_50 : decode cX5_isAlmost 50 = .ok (.ireturn, 1) := by decide +kernel
theorem dX5_untilTick_0 : decode cX5_untilTick 0 = .ok (.aload_n 0, 1) := by decide +kernel
theorem dX5_untilTick_1 : decode cX5_untilTick 1 = .ok (.iload_n 1, 1) := by decide +kernel
theorem dX5_untilTick_2 : decode cX5_untilTick 2 = .ok (.iconst 2, 1) := by decide +kernel
theorem dX5_untilTick_3 : decode cX5_untilTick 3 = .ok (.invokevirtual 44, 3) := by decide +kernel
theorem dX5_untilTick_6 : decode cX5_untilTick 6 = .ok (.ifCond .ne 6, 3) := by decide +kernel
theorem dX5_untilTick_9 : decode cX5_untilTick 9 = .ok (.bipush (-5), 2) := by decide +kernel
theorem dX5_untilTick_11 : decode cX5_untilTick 11 = .ok (.ireturn, 1) := by decide +kernel
theorem dX5_untilTick_12 : decode cX5_untilTick 12 = .ok (.aload_n 0, 1) := by decide +kernel
theorem dX5_untilTick_13 : decode cX5_untilTick 13 = .ok (.iload_n 1, 1) := by decide +kernel
theorem dX5_untilTick_14 : decode cX5_untilTick 14 = .ok (.iconst 0, 1) := by decide +kernel
theorem dX5_untilTick_15 : decode cX5_untilTick 15 = .ok (.invokevirtual 44, 3) := by decide +kernel
theorem dX5_untilTick_18 : decode cX5_untilTick 18 = .ok (.istore_n 2, 1) := by decide +kernel
theorem dX5_untilTick_19 : decode cX5_untilTick 19 = .ok (.iload_n 2, 1) := by decide +kernel
theorem dX5_untilTick_20 : decode cX5_untilTick 20 = .ok (.aload_n 0, 1) := by decide +kernel
theorem dX5_untilTick_21 : decode cX5_untilTick 21 = .ok (.getfield 7, 3) := by decide +kernel
theorem dX5_untilTick_24 : decode cX5_untilTick 24 = .ok (.iconst 2, 1) := by decide +kernel
theorem dX5_untilTick_25 : decode cX5_untilTick 25 = .ok (.iaload, 1) := by decide +kernel
theorem dX5_untilTick_26 : decode cX5_untilTick 26 = .ok (.aload_n 0, 1) := by decide +kernel
theorem dX5_untilTick_27 : decode cX5_untilTick 27 = .ok (.iload_n 1, 1) := by decide +kernel
theorem dX5_untilTick_28 : decode cX5_untilTick 28 = .ok (.iconst 1, 1) := by decide +kernel
theorem dX5_untilTick_29 : decode cX5_untilTick 29 = .ok (.invokevirtual 44, 3) := by decide +kernel
theorem dX5_untilTick_32 : decode cX5_untilTick 32 = .ok (.iadd, 1) := by decide +kernel
theorem dX5_untilTick_33 : decode cX5_untilTick 33 = .ok (.iload_n 2, 1) := by decide +kernel
theorem dX5_untilTick_34 : decode cX5_untilTick 34 = .ok (.irem, 1) := by decide +kernel
theorem dX5_untilTick_35 : decode cX5_untilTick 35 = .ok (.isub, 1) := by decide +kernel
theorem dX5_untilTick_36 : decode cX5_untilTick 36 = .ok (.ireturn, 1) := by decide +kernel
theorem dX5_side_0 : decode cX5_side 0 = .ok (.iload_n 1, 1) := by decide +kernel
theorem dX5_side_1 : decode cX5_side 1 = .ok (.invokestatic 114, 3) := by decide +kernel
theorem dX5_side_4 : decode cX5_side 4 = .ok (.ifCond .ne 5, 3) := by decide +kernel
theorem dX5_side_7 : decode cX5_side 7 = .ok (.iconst (-1), 1) := by decide +kernel
theorem dX5_side_8 : decode cX5_side 8 = .ok (.ireturn, 1) := by decide +kernel
theorem dX5_side_9 : decode cX5_side 9 = .ok (.iload_n 2, 1) := by decide +kernel
theorem dX5_side_10 : decode cX5_side 10 = .ok (.tableswitch 153 0 13 #[70, 70, 70, 70, 77, 88, 88, 97, 103, 109, 123, 137, 143, 143], 70) := by decide +kernel
theorem dX5_side_80 : decode cX5_side 80 = .ok (.aload_n 0, 1) := by decide +kernel
theorem dX5_side_81 : decode cX5_side 81 = .ok (.iload_n 1, 1) := by decide +kernel
theorem dX5_side_82 : decode cX5_side 82 = .ok (.iload_n 2, 1) := by decide +kernel
theorem dX5_side_83 : decode cX5_side 83 = .ok (.invokevirtual 44, 3) := by decide +kernel
theorem dX5_side_86 : decode cX5_side 86 = .ok (.ireturn, 1) := by decide +kernel
theorem dX5_side_87 : decode cX5_side 87 = .ok (.aload_n 0, 1) := by decide +kernel
theorem dX5_side_88 : decode cX5_side 88 = .ok (.aload_n 0, 1) := by decide +kernel
theorem dX5_side_89 : decode cX5_side 89 = .ok (.iload_n 1, 1) := by decide +kernel
theorem dX5_side_90 : decode cX5_side 90 = .ok (.iconst 3, 1) := by decide +kernel
theorem dX5_side_91 : decode cX5_side 91 = .ok (.invokevirtual 44, 3) := by decide +kernel
theorem dX5_side_94 : decode cX5_side 94 = .ok (.invokevirtual 65, 3) := by decide +kernel
theorem dX5_side_97 : decode cX5_side 97 = .ok (.ireturn, 1) := by decide +kernel
theorem dX5_side_98 : decode cX5_side 98 = .ok (.aload_n 0, 1) := by decide +kernel
theorem dX5_side_99 : decode cX5_side 99 = .ok (.iload_n 1, 1) := by decide +kernel
theorem dX5_side_100 : decode cX5_side 100 = .ok (.iload_n 2, 1) := by decide +kernel
theorem dX5_side_101 : decode cX5_side 101 = .ok (.iconst 1, 1) := by decide +kernel
theorem dX5_side_102 : decode cX5_side 102 = .ok (.isub, 1) := by decide +kernel
theorem dX5_side_103 : decode cX5_side 103 = .ok (.invokevirtual 44, 3) := by decide +kernel
theorem dX5_side_106 : decode cX5_side 106 = .ok (.ireturn, 1) := by decide +kernel
theorem dX5_side_107 : decode cX5_side 107 = .ok (.aload_n 0, 1) := by decide +kernel
theorem dX5_side_108 : decode cX5_side 108 = .ok (.iload_n 1, 1) := by decide +kernel
theorem dX5_side_109 : decode cX5_side 109 = .ok (.invokevirtual 52, 3) := by decide +kernel
theorem dX5_side_112 : decode cX5_side 112 = .ok (.ireturn, 1) := by decide +kernel
theorem dX5_side_113 : decode cX5_side 113 = .ok (.aload_n 0, 1) := by decide +kernel
theorem dX5_side_114 : decode cX5_side 114 = .ok (.iload_n 1, 1) := by decide +kernel
theorem dX5_side_115 : decode cX5_side 115 = .ok (.invokevirtual 58, 3) := by decide +kernel
theorem dX5_side_118 : decode cX5_side 118 = .ok (.ireturn, 1) := by decide +kernel
theorem dX5_side_119 : decode cX5_side 119 = .ok (.aload_n 0, 1) := by decide +kernel
theorem dX5_side_120 : decode cX5_side 120 = .ok (.iload_n 1, 1) := by decide +kernel
theorem dX5_side_121 : decode cX5_side 121 = .ok (.invokevirtual 61, 3) := by decide +kernel
theorem dX5_side_124 : decode cX5_side 124 = .ok (.ifCond .eq 7, 3) := by decide +kernel
theorem dX5_side_127 : decode cX5_side 127 = .ok (.iconst 1, 1) := by decide +kernel
theorem dX5_side_128 : decode cX5_side 128 = .ok (.goto 4, 3) := by decide +kernel
theorem dX5_side_131 : decode cX5_side 131 = .ok (.iconst 0, 1) := by decide +kernel
theorem dX5_side_132 : decode cX5_side 132 = .ok (.ireturn, 1) := by decide +kernel
theorem dX5_side_133 : decode cX5_side 133 = .ok (.aload_n 0, 1) := by decide +kernel
theorem dX5_side_134 : decode cX5_side 134 = .ok (.iload_n 1, 1) := by decide +kernel
theorem dX5_side_135 : decode cX5_side 135 = .ok (.invokevirtual 174, 3) := by decide +kernel
theorem dX5_side_138 : decode cX5_side 138 = .ok (.ifCond .eq 7, 3) := by decide +kernel
theorem dX5_side_141 : decode cX5_side 141 = .ok (.iconst 1, 1) := by decide +kernel
theorem dX5_side_142 : decode cX5_side 142 = .ok (.goto 4, 3) := by decide +kernel
theorem dX5_side_145 : decode cX5_side 145 = .ok (.iconst 0, 1) := by decide +kernel
theorem dX5_side_146 : decode cX5_side 146 = .ok (.ireturn, 1) := by decide +kernel
theorem dX5_side_147 : decode cX5_side 147 = .ok (.aload_n 0, 1) := by decide +kernel
theorem dX5_side_148 : decode cX5_side 148 = .ok (.iload_n 1, 1) := by decide +kernel
theorem dX5_side_149 : decode cX5_side 149 = .ok (.invokevirtual 177, 3) := by decide +kernel
theorem dX5_side_152 : decode cX5_side 152 = .ok (.ireturn, 1) := by decide +kernel
theorem dX5_side_153 : decode cX5_side 153 = .ok (.aload_n 0, 1) := by decide +kernel
theorem dX5_side_154 : decode cX5_side 154 = .ok (.iload_n 1, 1) := by decide +kernel
theorem dX5_side_155 : decode cX5_side 155 = .ok (.iload_n 2, 1) := by decide +kernel
theorem dX5_side_156 : decode cX5_side 156 = .ok (.bipush 6, 2) := by decide +kernel
theorem dX5_side_158 : decode cX5_side 158 = .ok (.isub, 1) := by decide +kernel
theorem dX5_side_159 : decode cX5_side 159 = .ok (.invokevirtual 44, 3) := by decide +kernel
theorem dX5_side_162 : decode cX5_side 162 = .ok (.ireturn, 1) := by decide +kernel
theorem dX5_side_163 : decode cX5_side 163 = .ok (.bipush (-2), 2) := by decide +kernel
theorem dX5_side_165 : decode cX5_side 165 = .ok (.ireturn, 1) := by decide +kernel
theorem dX5_place_0 : decode cX5_place 0 = .ok (.iload_n 1, 1) := by decide +kernel
theorem dX5_place_1 : decode cX5_place 1 = .ok (.i2l, 1) := by decide +kernel
theorem dX5_place_2 : decode cX5_place 2 = .ok (.lconst 0, 1) := by decide +kernel
theorem dX5_place_3 : decode cX5_place 3 = .ok (.aload_n 0, 1) := by decide +kernel
theorem dX5_place_4 : decode cX5_place 4 = .ok (.invokevirtual 40, 3) := by decide +kernel
theorem dX5_place_7 : decode cX5_place 7 = .ok (.i2l, 1) := by decide +kernel
theorem dX5_place_8 : decode cX5_place 8 = .ok (.lconst 1, 1) := by decide +kernel
theorem dX5_place_9 : decode cX5_place 9 = .ok (.lsub, 1) := by decide +kernel
theorem dX5_place_10 : decode cX5_place 10 = .ok (.invokestatic 104, 3) := by decide +kernel
theorem dX5_place_13 : decode cX5_place 13 = .ok (.ifCond .ne 5, 3) := by decide +kernel
theorem dX5_place_16 : decode cX5_place 16 = .ok (.iconst (-1), 1) := by decide +kernel
theorem dX5_place_17 : decode cX5_place 17 = .ok (.ireturn, 1) := by decide +kernel
theorem dX5_place_18 : decode cX5_place 18 = .ok (.iload_n 2, 1) := by decide +kernel
theorem dX5_place_19 : decode cX5_place 19 = .ok (.ifCond .ne 15, 3) := by decide +kernel
theorem dX5_place_22 : decode cX5_place 22 = .ok (.aload_n 0, 1) := by decide +kernel
theorem dX5_place_23 : decode cX5_place 23 = .ok (.getfield 7, 3) := by decide +kernel
theorem dX5_place_26 : decode cX5_place 26 = .ok (.bipush 47, 2) := by decide +kernel
theorem dX5_place_28 : decode cX5_place 28 = .ok (.iload_n 1, 1) := by decide +kernel
theorem dX5_place_29 : decode cX5_place 29 = .ok (.iadd, 1) := by decide +kernel
theorem dX5_place_30 : decode cX5_place 30 = .ok (.iaload, 1) := by decide +kernel
theorem dX5_place_31 : decode cX5_place 31 = .ok (.goto 22, 3) := by decide +kernel
theorem dX5_place_34 : decode cX5_place 34 = .ok (.iload_n 2, 1) := by decide +kernel
theorem dX5_place_35 : decode cX5_place 35 = .ok (.iconst 1, 1) := by decide +kernel
theorem dX5_place_36 : decode cX5_place 36 = .ok (.if_icmp .ne 15, 3) := by decide +kernel
theorem dX5_place_39 : decode cX5_place 39 = .ok (.aload_n 0, 1) := by decide +kernel
theorem dX5_place_40 : decode cX5_place 40 = .ok (.getfield 7, 3) := by decide +kernel
theorem dX5_place_43 : decode cX5_place 43 = .ok (.bipush 63, 2) := by decide +kernel
theorem dX5_place_45 : decode cX5_place 45 = .ok (.iload_n 1, 1) := by decide +kernel
theorem dX5_place_46 : decode cX5_place 46 = .ok (.iadd, 1) := by decide +kernel
theorem dX5_place_47 : decode cX5_place 47 = .ok (.iaload, 1) := by decide +kernel
theorem dX5_place_48 : decode cX5_place 48 = .ok (.goto 5, 3) := by decide +kernel
theorem dX5_place_51 : decode cX5_place 51 = .ok (.bipush (-2), 2) := by decide +kernel
theorem dX5_place_53 : decode cX5_place 53 = .ok (.ireturn, 1) := by decide +kernel
theorem dX5_waiting_0 : decode cX5_waiting 0 = .ok (.iload_n 1, 1) := by decide +kernel
theorem dX5_waiting_1 : decode cX5_waiting 1 = .ok (.ifCond .ge 6, 3) := by decide +kernel
theorem dX5_waiting_4 : decode cX5_waiting 4 = .ok (.bipush (-2), 2) := by decide +kernel
theorem dX5_waiting_6 : decode cX5_waiting 6 = .ok (.ireturn, 1) := by decide +kernel
theorem dX5_waiting_7 : decode cX5_waiting 7 = .ok (.iload_n 1, 1) := by decide +kernel
theorem dX5_waiting_8 : decode cX5_waiting 8 = .ok (.aload_n 0, 1) := by decide +kernel
theorem dX5_waiting_9 : decode cX5_waiting 9 = .ok (.getfield 7, 3) := by decide +kernel
theorem dX5_waiting_12 : decode cX5_waiting 12 = .ok (.iconst 5, 1) := by decide +kernel
theorem dX5_waiting_13 : decode cX5_waiting 13 = .ok (.iaload, 1) := by decide +kernel
theorem dX5_waiting_14 : decode cX5_waiting 14 = .ok (.if_icmp .ge 15, 3) := by decide +kernel
theorem dX5_waiting_17 : decode cX5_waiting 17 = .ok (.aload_n 0, 1) := by decide +kernel
theorem dX5_waiting_18 : decode cX5_waiting 18 = .ok (.getfield 7, 3) := by decide +kernel
theorem dX5_waiting_21 : decode cX5_waiting 21 = .ok (.bipush 27, 2) := by decide +kernel
theorem dX5_waiting_23 : decode cX5_waiting 23 = .ok (.iload_n 1, 1) := by decide +kernel
theorem dX5_waiting_24 : decode cX5_waiting 24 = .ok (.iadd, 1) := by decide +kernel
theorem dX5_waiting_25 : decode cX5_waiting 25 = .ok (.iaload, 1) := by decide +kernel
theorem dX5_waiting_26 : decode cX5_waiting 26 = .ok (.goto 5, 3) := by decide +kernel
theorem dX5_waiting_29 : decode cX5_waiting 29 = .ok (.bipush (-5), 2) := by decide +kernel
theorem dX5_waiting_31 : decode cX5_waiting 31 = .ok (.ireturn, 1) := by decide +kernel
theorem dX5_taken_0 : decode cX5_taken 0 = .ok (.iload_n 1, 1) := by decide +kernel
theorem dX5_taken_1 : decode cX5_taken 1 = .ok (.ifCond .ge 6, 3) := by decide +kernel
theorem dX5_taken_4 : decode cX5_taken 4 = .ok (.bipush (-2), 2) := by decide +kernel
theorem dX5_taken_6 : decode cX5_taken 6 = .ok (.ireturn, 1) := by decide +kernel
theorem dX5_taken_7 : decode cX5_taken 7 = .ok (.iload_n 1, 1) := by decide +kernel
theorem dX5_taken_8 : decode cX5_taken 8 = .ok (.aload_n 0, 1) := by decide +kernel
theorem dX5_taken_9 : decode cX5_taken 9 = .ok (.getfield 7, 3) := by decide +kernel
theorem dX5_taken_12 : decode cX5_taken 12 = .ok (.bipush 10, 2) := by decide +kernel
theorem dX5_taken_14 : decode cX5_taken 14 = .ok (.iaload, 1) := by decide +kernel
theorem dX5_taken_15 : decode cX5_taken 15 = .ok (.if_icmp .ge 15, 3) := by decide +kernel
theorem dX5_taken_18 : decode cX5_taken 18 = .ok (.aload_n 0, 1) := by decide +kernel
theorem dX5_taken_19 : decode cX5_taken 19 = .ok (.getfield 7, 3) := by decide +kernel
theorem dX5_taken_22 : decode cX5_taken 22 = .ok (.bipush 79, 2) := by decide +kernel
theorem dX5_taken_24 : decode cX5_taken 24 = .ok (.iload_n 1, 1) := by decide +kernel
theorem dX5_taken_25 : decode cX5_taken 25 = .ok (.iadd, 1) := by decide +kernel
theorem dX5_taken_26 : decode cX5_taken 26 = .ok (.iaload, 1) := by decide +kernel
theorem dX5_taken_27 : decode cX5_taken 27 = .ok (.goto 5, 3) := by decide +kernel
theorem dX5_taken_30 : decode cX5_taken 30 = .ok (.bipush (-5), 2) := by decide +kernel
theorem dX5_taken_32 : decode cX5_taken 32 = .ok (.ireturn, 1) := by decide +kernel
theorem dX5_isDone_0 : decode cX5_isDone 0 = .ok (.aload_n 0, 1) := by decide +kernel
theorem dX5_isDone_1 : decode cX5_isDone 1 = .ok (.getfield 7, 3) := by decide +kernel
theorem dX5_isDone_4 : decode cX5_isDone 4 = .ok (.bipush 7, 2) := by decide +kernel
theorem dX5_isDone_6 : decode cX5_isDone 6 = .ok (.iaload, 1) := by decide +kernel
theorem dX5_isDone_7 : decode cX5_isDone 7 = .ok (.aload_n 0, 1) := by decide +kernel
theorem dX5_isDone_8 : decode cX5_isDone 8 = .ok (.getfield 7, 3) := by decide +kernel
theorem dX5_isDone_11 : decode cX5_isDone 11 = .ok (.bipush 6, 2) := by decide +kernel
theorem dX5_isDone_13 : decode cX5_isDone 13 = .ok (.iaload, 1) := by decide +kernel
theorem dX5_isDone_14 : decode cX5_isDone 14 = .ok (.if_icmp .ne 16, 3) := by decide +kernel
theorem dX5_isDone_17 : decode cX5_isDone 17 = .ok (.aload_n 0, 1) := by decide +kernel
theorem dX5_isDone_18 : decode cX5_isDone 18 = .ok (.getfield 7, 3) := by decide +kernel
theorem dX5_isDone_21 : decode cX5_isDone 21 = .ok (.iconst 5, 1) := by decide +kernel
theorem dX5_isDone_22 : decode cX5_isDone 22 = .ok (.iaload, 1) := by decide +kernel
theorem dX5_isDone_23 : decode cX5_isDone 23 = .ok (.ifCond .ne 7, 3) := by decide +kernel
theorem dX5_isDone_26 : decode cX5_isDone 26 = .ok (.iconst 1, 1) := by decide +kernel
theorem dX5_isDone_27 : decode cX5_isDone 27 = .ok (.goto 4, 3) := by decide +kernel
theorem dX5_isDone_30 : decode cX5_isDone 30 = .ok (.iconst 0, 1) := by decide +kernel
theorem dX5_isDone_31 : decode cX5_isDone 31 = .ok (.ireturn, 1) := by decide +kernel
theorem dX5_doneIn_0 : decode cX5_doneIn 0 = .ok (.aload_n 0, 1) := by decide +kernel
theorem dX5_doneIn_1 : decode cX5_doneIn 1 = .ok (.getfield 7, 3) := by decide +kernel
theorem dX5_doneIn_4 : decode cX5_doneIn 4 = .ok (.aload_n 0, 1) := by decide +kernel
theorem dX5_doneIn_5 : decode cX5_doneIn 5 = .ok (.getfield 16, 3) := by decide +kernel
theorem dX5_doneIn_8 : decode cX5_doneIn 8 = .ok (.invokestatic 32, 3) := by decide +kernel
theorem dX5_doneIn_11 : decode cX5_doneIn 11 = .ok (.iconst 0, 1) := by decide +kernel
theorem dX5_doneIn_12 : decode cX5_doneIn 12 = .ok (.istore_n 1, 1) := by decide +kernel
theorem dX5_doneIn_13 : decode cX5_doneIn 13 = .ok (.iload_n 1, 1) := by decide +kernel
theorem dX5_doneIn_14 : decode cX5_doneIn 14 = .ok (.sipush 5000, 3) := by decide +kernel
theorem dX5_doneIn_17 : decode cX5_doneIn 17 = .ok (.if_icmp .gt 21, 3) := by decide +kernel
theorem dX5_doneIn_20 : decode cX5_doneIn 20 = .ok (.aload_n 0, 1) := by decide +kernel
theorem dX5_doneIn_21 : decode cX5_doneIn 21 = .ok (.invokevirtual 180, 3) := by decide +kernel
theorem dX5_doneIn_24 : decode cX5_doneIn 24 = .ok (.ifCond .ne 14, 3) := by decide +kernel
theorem dX5_doneIn_27 : decode cX5_doneIn 27 = .ok (.aload_n 0, 1) := by decide +kernel
theorem dX5_doneIn_28 : decode cX5_doneIn 28 = .ok (.invokevirtual 98, 3) := by decide +kernel
theorem dX5_doneIn_31 : decode cX5_doneIn 31 = .ok (.pop, 1) := by decide +kernel
theorem dX5_doneIn_32 : decode cX5_doneIn 32 = .ok (.iinc 1 1, 3) := by decide +kernel
theorem dX5_doneIn_35 : decode cX5_doneIn 35 = .ok (.goto (-22), 3) := by decide +kernel
theorem dX5_doneIn_38 : decode cX5_doneIn 38 = .ok (.aload_n 0, 1) := by decide +kernel
theorem dX5_doneIn_39 : decode cX5_doneIn 39 = .ok (.getfield 16, 3) := by decide +kernel
theorem dX5_doneIn_42 : decode cX5_doneIn 42 = .ok (.aload_n 0, 1) := by decide +kernel
theorem dX5_doneIn_43 : decode cX5_doneIn 43 = .ok (.getfield 7, 3) := by decide +kernel
theorem dX5_doneIn_46 : decode cX5_doneIn 46 = .ok (.invokestatic 32, 3) := by decide +kernel
theorem dX5_doneIn_49 : decode cX5_doneIn 49 = .ok (.iload_n 1, 1) := by decide +kernel
theorem dX5_doneIn_50 : decode cX5_doneIn 50 = .ok (.sipush 5000, 3) := by decide +kernel
theorem dX5_doneIn_53 : decode cX5_doneIn 53 = .ok (.if_icmp .le 8, 3) := by decide +kernel
theorem dX5_doneIn_56 : decode cX5_doneIn 56 = .ok (.bipush (-5), 2) := by decide +kernel
theorem dX5_doneIn_58 : decode cX5_doneIn 58 = .ok (.goto 4, 3) := by decide +kernel
theorem dX5_doneIn_61 : decode cX5_doneIn 61 = .ok (.iload_n 1, 1) := by decide +kernel
theorem dX5_doneIn_62 : decode cX5_doneIn 62 = .ok (.ireturn, 1) := by decide +kernel
theorem dX5_isEnough_0 : decode cX5_isEnough 0 = .ok (.aload_n 0, 1) := by decide +kernel
theorem dX5_isEnough_1 : decode cX5_isEnough 1 = .ok (.getfield 16, 3) := by decide +kernel
theorem dX5_isEnough_4 : decode cX5_isEnough 4 = .ok (.aload_n 0, 1) := by decide +kernel
theorem dX5_isEnough_5 : decode cX5_isEnough 5 = .ok (.getfield 7, 3) := by decide +kernel
theorem dX5_isEnough_8 : decode cX5_isEnough 8 = .ok (.invokestatic 32, 3) := by decide +kernel
theorem dX5_isEnough_11 : decode cX5_isEnough 11 = .ok (.aload_n 0, 1) := by decide +kernel
theorem dX5_isEnough_12 : decode cX5_isEnough 12 = .ok (.iload_n 1, 1) := by decide +kernel
theorem dX5_isEnough_13 : decode cX5_isEnough 13 = .ok (.aload_n 0, 1) := by decide +kernel
theorem dX5_isEnough_14 : decode cX5_isEnough 14 = .ok (.getfield 16, 3) := by decide +kernel
theorem dX5_isEnough_17 : decode cX5_isEnough 17 = .ok (.iconst 1, 1) := by decide +kernel
theorem dX5_isEnough_18 : decode cX5_isEnough 18 = .ok (.iaload, 1) := by decide +kernel
theorem dX5_isEnough_19 : decode cX5_isEnough 19 = .ok (.invokevirtual 28, 3) := by decide +kernel
theorem dX5_isEnough_22 : decode cX5_isEnough 22 = .ok (.iconst 0, 1) := by decide +kernel
theorem dX5_isEnough_23 : decode cX5_isEnough 23 = .ok (.istore_n 3, 1) := by decide +kernel
theorem dX5_isEnough_24 : decode cX5_isEnough 24 = .ok (.iload_n 3, 1) := by decide +kernel
theorem dX5_isEnough_25 : decode cX5_isEnough 25 = .ok (.aload_n 0, 1) := by decide +kernel
theorem dX5_isEnough_26 : decode cX5_isEnough 26 = .ok (.getfield 16, 3) := by decide +kernel
theorem dX5_isEnough_29 : decode cX5_isEnough 29 = .ok (.iconst 5, 1) := by decide +kernel
theorem dX5_isEnough_30 : decode cX5_isEnough 30 = .ok (.iaload, 1) := by decide +kernel
theorem dX5_isEnough_31 : decode cX5_isEnough 31 = .ok (.if_icmp .ge 22, 3) := by decide +kernel
theorem dX5_isEnough_34 : decode cX5_isEnough 34 = .ok (.aload_n 0, 1) := by decide +kernel
theorem dX5_isEnough_35 : decode cX5_isEnough 35 = .ok (.aload_n 0, 1) := by decide +kernel
theorem dX5_isEnough_36 : decode cX5_isEnough 36 = .ok (.getfield 16, 3) := by decide +kernel
theorem dX5_isEnough_39 : decode cX5_isEnough 39 = .ok (.bipush 27, 2) := by decide +kernel
theorem dX5_isEnough_41 : decode cX5_isEnough 41 = .ok (.iload_n 3, 1) := by decide +kernel
theorem dX5_isEnough_42 : decode cX5_isEnough 42 = .ok (.iadd, 1) := by decide +kernel
theorem dX5_isEnough_43 : decode cX5_isEnough 43 = .ok (.iaload, 1) := by decide +kernel
theorem dX5_isEnough_44 : decode cX5_isEnough 44 = .ok (.invokevirtual 125, 3) := by decide +kernel
theorem dX5_isEnough_47 : decode cX5_isEnough 47 = .ok (.iinc 3 1, 3) := by decide +kernel
theorem dX5_isEnough_50 : decode cX5_isEnough 50 = .ok (.goto (-26), 3) := by decide +kernel
theorem dX5_isEnough_53 : decode cX5_isEnough 53 = .ok (.iconst 1, 1) := by decide +kernel
theorem dX5_isEnough_54 : decode cX5_isEnough 54 = .ok (.istore_n 3, 1) := by decide +kernel
theorem dX5_isEnough_55 : decode cX5_isEnough 55 = .ok (.iconst 0, 1) := by decide +kernel
theorem dX5_isEnough_56 : decode cX5_isEnough 56 = .ok (.istore 4, 2) := by decide +kernel
theorem dX5_isEnough_58 : decode cX5_isEnough 58 = .ok (.iload 4, 2) := by decide +kernel
theorem dX5_isEnough_60 : decode cX5_isEnough 60 = .ok (.iload_n 2, 1) := by decide +kernel
theorem dX5_isEnough_61 : decode cX5_isEnough 61 = .ok (.if_icmp .ge 26, 3) := by decide +kernel
theorem dX5_isEnough_64 : decode cX5_isEnough 64 = .ok (.iload_n 3, 1) := by decide +kernel
theorem dX5_isEnough_65 : decode cX5_isEnough 65 = .ok (.ifCond .eq 22, 3) := by decide +kernel
theorem dX5_isEnough_68 : decode cX5_isEnough 68 = .ok (.aload_n 0, 1) := by decide +kernel
theorem dX5_isEnough_69 : decode cX5_isEnough 69 = .ok (.invokevirtual 98, 3) := by decide +kernel
theorem dX5_isEnough_72 : decode cX5_isEnough 72 = .ok (.ifCond .ne 7, 3) := by decide +kernel
theorem dX5_isEnough_75 : decode cX5_isEnough 75 = .ok (.iconst 1, 1) := by decide +kernel
theorem dX5_isEnough_76 : decode cX5_isEnough 76 = .ok (.goto 4, 3) := by decide +kernel
theorem dX5_isEnough_79 : decode cX5_isEnough 79 = .ok (.iconst 0, 1) := by decide +kernel
theorem dX5_isEnough_80 : decode cX5_isEnough 80 = .ok (.istore_n 3, 1) := by decide +kernel
theorem dX5_isEnough_81 : decode cX5_isEnough 81 = .ok (.iinc 4 1, 3) := by decide +kernel
theorem dX5_isEnough_84 : decode cX5_isEnough 84 = .ok (.goto (-26), 3) := by decide +kernel
theorem dX5_isEnough_87 : decode cX5_isEnough 87 = .ok (.iload_n 3, 1) := by decide +kernel
theorem dX5_isEnough_88 : decode cX5_isEnough 88 = .ok (.ireturn, 1) := by decide +kernel
theorem dX5_leastDepth_0 : decode cX5_leastDepth 0 = .ok (.iload_n 1, 1) := by decide +kernel
theorem dX5_leastDepth_1 : decode cX5_leastDepth 1 = .ok (.i2l, 1) := by decide +kernel
theorem dX5_leastDepth_2 : decode cX5_leastDepth 2 = .ok (.lconst 1, 1) := by decide +kernel
theorem dX5_leastDepth_3 : decode cX5_leastDepth 3 = .ok (.ldc2_w 129, 3) := by decide +kernel
theorem dX5_leastDepth_6 : decode cX5_leastDepth 6 = .ok (.invokestatic 104, 3) := by decide +kernel
theorem dX5_leastDepth_9 : decode cX5_leastDepth 9 = .ok (.ifCond .ne 6, 3) := by decide +kernel
theorem dX5_leastDepth_12 : decode cX5_leastDepth 12 = .ok (.bipush (-2), 2) := by decide +kernel
theorem dX5_leastDepth_14 : decode cX5_leastDepth 14 = .ok (.ireturn, 1) := by decide +kernel
theorem dX5_leastDepth_15 : decode cX5_leastDepth 15 = .ok (.aload_n 0, 1) := by decide +kernel
theorem dX5_leastDepth_16 : decode cX5_leastDepth 16 = .ok (.getfield 7, 3) := by decide +kernel
theorem dX5_leastDepth_19 : decode cX5_leastDepth 19 = .ok (.aload_n 0, 1) := by decide +kernel
theorem dX5_leastDepth_20 : decode cX5_leastDepth 20 = .ok (.getfield 16, 3) := by decide +kernel
theorem dX5_leastDepth_23 : decode cX5_leastDepth 23 = .ok (.invokestatic 32, 3) := by decide +kernel
theorem dX5_leastDepth_26 : decode cX5_leastDepth 26 = .ok (.iconst 1, 1) := by decide +kernel
theorem dX5_leastDepth_27 : decode cX5_leastDepth 27 = .ok (.istore_n 2, 1) := by decide +kernel
theorem dX5_leastDepth_28 : decode cX5_leastDepth 28 = .ok (.iload_n 2, 1) := by decide +kernel
theorem dX5_leastDepth_29 : decode cX5_leastDepth 29 = .ok (.iconst 5, 1) := by decide +kernel
theorem dX5_leastDepth_30 : decode cX5_leastDepth 30 = .ok (.if_icmp .ge 18, 3) := by decide +kernel
theorem dX5_leastDepth_33 : decode cX5_leastDepth 33 = .ok (.aload_n 0, 1) := by decide +kernel
theorem dX5_leastDepth_34 : decode cX5_leastDepth 34 = .ok (.iload_n 2, 1) := by decide +kernel
theorem dX5_leastDepth_35 : decode cX5_leastDepth 35 = .ok (.iload_n 1, 1) := by decide +kernel
theorem dX5_leastDepth_36 : decode cX5_leastDepth 36 = .ok (.invokevirtual 183, 3) := by decide +kernel
theorem dX5_leastDepth_39 : decode cX5_leastDepth 39 = .ok (.ifCond .ne 9, 3) := by decide +kernel
theorem dX5_leastDepth_42 : decode cX5_leastDepth 42 = .ok (.iinc 2 1, 3) := by decide +kernel
theorem dX5_leastDepth_45 : decode cX5_leastDepth 45 = .ok (.goto (-17), 3) := by decide +kernel
theorem dX5_leastDepth_48 : decode cX5_leastDepth 48 = .ok (.aload_n 0, 1) := by decide +kernel
theorem dX5_leastDepth_49 : decode cX5_leastDepth 49 = .ok (.getfield 16, 3) := by decide +kernel
theorem dX5_leastDepth_52 : decode cX5_leastDepth 52 = .ok (.aload_n 0, 1) := by decide +kernel
theorem dX5_leastDepth_53 : decode cX5_leastDepth 53 = .ok (.getfield 7, 3) := by decide +kernel
theorem dX5_leastDepth_56 : decode cX5_leastDepth 56 = .ok (.invokestatic 32, 3) := by decide +kernel
theorem dX5_leastDepth_59 : decode cX5_leastDepth 59 = .ok (.iload_n 2, 1) := by decide +kernel
theorem dX5_leastDepth_60 : decode cX5_leastDepth 60 = .ok (.iconst 5, 1) := by decide +kernel
theorem dX5_leastDepth_61 : decode cX5_leastDepth 61 = .ok (.if_icmp .ge 7, 3) := by decide +kernel
theorem dX5_leastDepth_64 : decode cX5_leastDepth 64 = .ok (.iload_n 2, 1) := by decide +kernel
theorem dX5_leastDepth_65 : decode cX5_leastDepth 65 = .ok (.goto 5, 3) := by decide +kernel
theorem dX5_leastDepth_68 : decode cX5_leastDepth 68 = .ok (.bipush (-5), 2) := by decide +kernel
theorem dX5_leastDepth_70 : decode cX5_leastDepth 70 = .ok (.ireturn, 1) := by decide +kernel
theorem dX5_count_0 : decode cX5_count 0 = .ok (.iload_n 1, 1) := by decide +kernel
theorem dX5_count_1 : decode cX5_count 1 = .ok (.tableswitch 144 0 13 #[71, 78, 85, 90, 97, 115, 115, 115, 115, 115, 122, 122, 134, 139], 71) := by decide +kernel
theorem dX5_count_72 : decode cX5_count 72 = .ok (.aload_n 0, 1) := by decide +kernel
theorem dX5_count_73 : decode cX5_count 73 = .ok (.getfield 7, 3) := by decide +kernel
theorem dX5_count_76 : decode cX5_count 76 = .ok (.iconst 2, 1) := by decide +kernel
theorem dX5_count_77 : decode cX5_count 77 = .ok (.iaload, 1) := by decide +kernel
theorem dX5_count_78 : decode cX5_count 78 = .ok (.ireturn, 1) := by decide +kernel
theorem dX5_count_79 : decode cX5_count 79 = .ok (.aload_n 0, 1) := by decide +kernel
theorem dX5_count_80 : decode cX5_count 80 = .ok (.getfield 7, 3) := by decide +kernel
theorem dX5_count_83 : decode cX5_count 83 = .ok (.iconst 0, 1) := by decide +kernel
theorem dX5_count_84 : decode cX5_count 84 = .ok (.iaload, 1) := by decide +kernel
theorem dX5_count_85 : decode cX5_count 85 = .ok (.ireturn, 1) := by decide +kernel
theorem dX5_count_86 : decode cX5_count 86 = .ok (.aload_n 0, 1) := by decide +kernel
theorem dX5_count_87 : decode cX5_count 87 = .ok (.invokevirtual 40, 3) := by decide +kernel
theorem dX5_count_90 : decode cX5_count 90 = .ok (.ireturn, 1) := by decide +kernel
theorem dX5_count_91 : decode cX5_count 91 = .ok (.aload_n 0, 1) := by decide +kernel
theorem dX5_count_92 : decode cX5_count 92 = .ok (.getfield 7, 3) := by decide +kernel
theorem dX5_count_95 : decode cX5_count 95 = .ok (.iconst 1, 1) := by decide +kernel
theorem dX5_count_96 : decode cX5_count 96 = .ok (.iaload, 1) := by decide +kernel
theorem dX5_count_97 : decode cX5_count 97 = .ok (.ireturn, 1) := by decide +kernel
theorem dX5_count_98 : decode cX5_count 98 = .ok (.aload_n 0, 1) := by decide +kernel
theorem dX5_count_99 : decode cX5_count 99 = .ok (.aload_n 0, 1) := by decide +kernel
theorem dX5_count_100 : decode cX5_count 100 = .ok (.iconst 0, 1) := by decide +kernel
theorem dX5_count_101 : decode cX5_count 101 = .ok (.iconst 3, 1) := by decide +kernel
theorem dX5_count_102 : decode cX5_count 102 = .ok (.invokevirtual 44, 3) := by decide +kernel
theorem dX5_count_105 : decode cX5_count 105 = .ok (.aload_n 0, 1) := by decide +kernel
theorem dX5_count_106 : decode cX5_count 106 = .ok (.iconst 1, 1) := by decide +kernel
theorem dX5_count_107 : decode cX5_count 107 = .ok (.iconst 3, 1) := by decide +kernel
theorem dX5_count_108 : decode cX5_count 108 = .ok (.invokevirtual 44, 3) := by decide +kernel
theorem dX5_count_111 : decode cX5_count 111 = .ok (.isub, 1) := by decide +kernel
theorem dX5_count_112 : decode cX5_count 112 = .ok (.invokevirtual 55, 3) := by decide +kernel
theorem dX5_count_115 : decode cX5_count 115 = .ok (.ireturn, 1) := by decide +kernel
theorem dX5_count_116 : decode cX5_count 116 = .ok (.aload_n 0, 1) := by decide +kernel
theorem dX5_count_117 : decode cX5_count 117 = .ok (.getfield 7, 3) := by decide +kernel
theorem dX5_count_120 : decode cX5_count 120 = .ok (.iload_n 1, 1) := by decide +kernel
theorem dX5_count_121 : decode cX5_count 121 = .ok (.iaload, 1) := by decide +kernel
theorem dX5_count_122 : decode cX5_count 122 = .ok (.ireturn, 1) := by decide +kernel
theorem dX5_count_123 : decode cX5_count 123 = .ok (.aload_n 0, 1) := by decide +kernel
theorem dX5_count_124 : decode cX5_count 124 = .ok (.getfield 7, 3) := by decide +kernel
theorem dX5_count_127 : decode cX5_count 127 = .ok (.iconst 3, 1) := by decide +kernel
theorem dX5_count_128 : decode cX5_count 128 = .ok (.iload_n 1, 1) := by decide +kernel
theorem dX5_count_129 : decode cX5_count 129 = .ok (.iadd, 1) := by decide +kernel
theorem dX5_count_130 : decode cX5_count 130 = .ok (.bipush 10, 2) := by decide +kernel
theorem dX5_count_132 : decode cX5_count 132 = .ok (.isub, 1) := by decide +kernel
theorem dX5_count_133 : decode cX5_count 133 = .ok (.iaload, 1) := by decide +kernel
theorem dX5_count_134 : decode cX5_count 134 = .ok (.ireturn, 1) := by decide +kernel
theorem dX5_count_135 : decode cX5_count 135 = .ok (.aload_n 0, 1) := by decide +kernel
theorem dX5_count_136 : decode cX5_count 136 = .ok (.getfield 36, 3) := by decide +kernel
theorem dX5_count_139 : decode cX5_count 139 = .ok (.ireturn, 1) := by decide +kernel
theorem dX5_count_140 : decode cX5_count 140 = .ok (.aload_n 0, 1) := by decide +kernel
theorem dX5_count_141 : decode cX5_count 141 = .ok (.getfield 135, 3) := by decide +kernel
theorem dX5_count_144 : decode cX5_count 144 = .ok (.ireturn, 1) := by decide +kernel
theorem dX5_count_145 : decode cX5_count 145 = .ok (.bipush (-2), 2) := by decide +kernel
theorem dX5_count_147 : decode cX5_count 147 = .ok (.ireturn, 1) := by decide +kernel
end
section
theorem dL_law_0 : decode cL_law 0 = .ok (.new 7, 3) := by decide +kernel
theorem dL_law_3 : decode cL_law 3 = .ok (.dup, 1) := by decide +kernel
theorem dL_law_4 : decode cL_law 4 = .ok (.invokespecial 9, 3) := by decide +kernel
theorem dL_law_7 : decode cL_law 7 = .ok (.astore_n 1, 1) := by decide +kernel
theorem dL_law_8 : decode cL_law 8 = .ok (.new 10, 3) := by decide +kernel
theorem dL_law_11 : decode cL_law 11 = .ok (.dup, 1) := by decide +kernel
theorem dL_law_12 : decode cL_law 12 = .ok (.invokespecial 12, 3) := by decide +kernel
theorem dL_law_15 : decode cL_law 15 = .ok (.astore_n 2, 1) := by decide +kernel
theorem dL_law_16 : decode cL_law 16 = .ok (.iconst 0, 1) := by decide +kernel
theorem dL_law_17 : decode cL_law 17 = .ok (.istore_n 3, 1) := by decide +kernel
theorem dL_law_18 : decode cL_law 18 = .ok (.iload_n 3, 1) := by decide +kernel
theorem dL_law_19 : decode cL_law 19 = .ok (.aload_n 0, 1) := by decide +kernel
theorem dL_law_20 : decode cL_law 20 = .ok (.arraylength, 1) := by decide +kernel
theorem dL_law_21 : decode cL_law 21 = .ok (.iconst 4, 1) := by decide +kernel
theorem dL_law_22 : decode cL_law 22 = .ok (.isub, 1) := by decide +kernel
theorem dL_law_23 : decode cL_law 23 = .ok (.if_icmp .gt 588, 3) := by decide +kernel
theorem dL_law_26 : decode cL_law 26 = .ok (.aload_n 0, 1) := by decide +kernel
theorem dL_law_27 : decode cL_law 27 = .ok (.iload_n 3, 1) := by decide +kernel
theorem dL_law_28 : decode cL_law 28 = .ok (.iaload, 1) := by decide +kernel
theorem dL_law_29 : decode cL_law 29 = .ok (.bipush 31, 2) := by decide +kernel
theorem dL_law_31 : decode cL_law 31 = .ok (.iand, 1) := by decide +kernel
theorem dL_law_32 : decode cL_law 32 = .ok (.tableswitch 573 0 18 #[92, 141, 184, 233, 266, 289, 302, 325, 350, 363, 376, 389, 402, 435, 468, 491, 514, 527, 550], 92) := by decide +kernel
theorem dL_law_124 : decode cL_law 124 = .ok (.aload_n 1, 1) := by decide +kernel
theorem dL_law_125 : decode cL_law 125 = .ok (.aload_n 0, 1) := by decide +kernel
theorem dL_law_126 : decode cL_law 126 = .ok (.iload_n 3, 1) := by decide +kernel
theorem dL_law_127 : decode cL_law 127 = .ok (.iconst 1, 1) := by decide +kernel
theorem dL_law_128 : decode cL_law 128 = .ok (.iadd, 1) := by decide +kernel
theorem dL_law_129 : decode cL_law 129 = .ok (.iaload, 1) := by decide +kernel
theorem dL_law_130 : decode cL_law 130 = .ok (.aload_n 0, 1) := by decide +kernel
theorem dL_law_131 : decode cL_law 131 = .ok (.iload_n 3, 1) := by decide +kernel
theorem dL_law_132 : decode cL_law 132 = .ok (.iconst 2, 1) := by decide +kernel
theorem dL_law_133 : decode cL_law 133 = .ok (.iadd, 1) := by decide +kernel
theorem dL_law_134 : decode cL_law 134 = .ok (.iaload, 1) := by decide +kernel
theorem dL_law_135 : decode cL_law 135 = .ok (.ifCond .eq 7, 3) := by decide +kernel
theorem dL_law_138 : decode cL_law 138 = .ok (.iconst 1, 1) := by decide +kernel
theorem dL_law_139 : decode cL_law 139 = .ok (.goto 4, 3) := by decide +kernel
theorem dL_law_142 : decode cL_law 142 = .ok (.iconst 0, 1) := by decide +kernel
theorem dL_law_143 : decode cL_law 143 = .ok (.invokevirtual 13, 3) := by decide +kernel
theorem dL_law_146 : decode cL_law 146 = .ok (.aload_n 2, 1) := by decide +kernel
theorem dL_law_147 : decode cL_law 147 = .ok (.aload_n 0, 1) := by decide +kernel
theorem dL_law_148 : decode cL_law 148 = .ok (.iload_n 3, 1) := by decide +kernel
theorem dL_law_149 : decode cL_law 149 = .ok (.iconst 1, 1) := by decide +kernel
theorem dL_law_150 : decode cL_law 150 = .ok (.iadd, 1) := by decide +kernel
theorem dL_law_151 : decode cL_law 151 = .ok (.iaload, 1) := by decide +kernel
theorem dL_law_152 : decode cL_law 152 = .ok (.aload_n 0, 1) := by decide +kernel
theorem dL_law_153 : decode cL_law 153 = .ok (.iload_n 3, 1) := by decide +kernel
theorem dL_law_154 : decode cL_law 154 = .ok (.iconst 2, 1) := by decide +kernel
theorem dL_law_155 : decode cL_law 155 = .ok (.iadd, 1) := by decide +kernel
theorem dL_law_156 : decode cL_law 156 = .ok (.iaload, 1) := by decide +kernel
theorem dL_law_157 : decode cL_law 157 = .ok (.ifCond .eq 7, 3) := by decide +kernel
theorem dL_law_160 : decode cL_law 160 = .ok (.iconst 1, 1) := by decide +kernel
theorem dL_law_161 : decode cL_law 161 = .ok (.goto 4, 3) := by decide +kernel
theorem dL_law_164 : decode cL_law 164 = .ok (.iconst 0, 1) := by decide +kernel
theorem dL_law_165 : decode cL_law 165 = .ok (.invokevirtual 17, 3) := by decide +kernel
theorem dL_law_168 : decode cL_law 168 = .ok (.if_icmp .eq 437, 3) := by decide +kernel
theorem dL_law_171 : decode cL_law 171 = .ok (.iconst 0, 1) := by decide +kernel
theorem dL_law_172 : decode cL_law 172 = .ok (.ireturn, 1) := by decide +kernel
theorem dL_law_173 : decode cL_law 173 = .ok (.aload_n 1, 1) := by decide +kernel
theorem dL_law_174 : decode cL_law 174 = .ok (.aload_n 0, 1) := by decide +kernel
theorem dL_law_175 : decode cL_law 175 = .ok (.iload_n 3, 1) := by decide +kernel
theorem dL_law_176 : decode cL_law 176 = .ok (.iconst 1, 1) := by decide +kernel
theorem dL_law_177 : decode cL_law 177 = .ok (.iadd, 1) := by decide +kernel
theorem dL_law_178 : decode cL_law 178 = .ok (.iaload, 1) := by decide +kernel
theorem dL_law_179 : decode cL_law 179 = .ok (.aload_n 0, 1) := by decide +kernel
theorem dL_law_180 : decode cL_law 180 = .ok (.iload_n 3, 1) := by decide +kernel
theorem dL_law_181 : decode cL_law 181 = .ok (.iconst 2, 1) := by decide +kernel
theorem dL_law_182 : decode cL_law 182 = .ok (.iadd, 1) := by decide +kernel
theorem dL_law_183 : decode cL_law 183 = .ok (.iaload, 1) := by decide +kernel
theorem dL_law_184 : decode cL_law 184 = .ok (.aload_n 0, 1) := by decide +kernel
theorem dL_law_185 : decode cL_law 185 = .ok (.iload_n 3, 1) := by decide +kernel
theorem dL_law_186 : decode cL_law 186 = .ok (.iconst 3, 1) := by decide +kernel
theorem dL_law_187 : decode cL_law 187 = .ok (.iadd, 1) := by decide +kernel
theorem dL_law_188 : decode cL_law 188 = .ok (.iaload, 1) := by decide +kernel
theorem dL_law_189 : decode cL_law 189 = .ok (.invokevirtual 18, 3) := by decide +kernel
theorem dL_law_192 : decode cL_law 192 = .ok (.aload_n 2, 1) := by decide +kernel
theorem dL_law_193 : decode cL_law 193 = .ok (.aload_n 0, 1) := by decide +kernel
theorem dL_law_194 : decode cL_law 194 = .ok (.iload_n 3, 1) := by decide +kernel
theorem dL_law_195 : decode cL_law 195 = .ok (.iconst 1, 1) := by decide +kernel
theorem dL_law_196 : decode cL_law 196 = .ok (.iadd, 1) := by decide +kernel
theorem dL_law_197 : decode cL_law 197 = .ok (.iaload, 1) := by decide +kernel
theorem dL_law_198 : decode cL_law 198 = .ok (.aload_n 0, 1) := by decide +kernel
theorem dL_law_199 : decode cL_law 199 = .ok (.iload_n 3, 1) := by decide +kernel
theorem dL_law_200 : decode cL_law 200 = .ok (.iconst 2, 1) := by decide +kernel
theorem dL_law_201 : decode cL_law 201 = .ok (.iadd, 1) := by decide +kernel
theorem dL_law_202 : decode cL_law 202 = .ok (.iaload, 1) := by decide +kernel
theorem dL_law_203 : decode cL_law 203 = .ok (.aload_n 0, 1) := by decide +kernel
theorem dL_law_204 : decode cL_law 204 = .ok (.iload_n 3, 1) := by decide +kernel
theorem dL_law_205 : decode cL_law 205 = .ok (.iconst 3, 1) := by decide +kernel
theorem dL_law_206 : decode cL_law 206 = .ok (.iadd, 1) := by decide +kernel
theorem dL_law_207 : decode cL_law 207 = .ok (.iaload, 1) := by decide +kernel
theorem dL_law_208 : decode cL_law 208 = .ok (.invokevirtual 22, 3) := by decide +kernel
theorem dL_law_211 : decode cL_law 211 = .ok (.if_icmp .eq 394, 3) := by decide +kernel
theorem dL_law_214 : decode cL_law 214 = .ok (.iconst 0, 1) := by decide +kernel
theorem dL_law_215 : decode cL_law 215 = .ok (.ireturn, 1) := by decide +kernel
theorem dL_law_216 : decode cL_law 216 = .ok (.aload_n 1, 1) := by decide +kernel
theorem dL_law_217 : decode cL_law 217 = .ok (.aload_n 0, 1) := by decide +kernel
theorem dL_law_218 : decode cL_law 218 = .ok (.iload_n 3, 1) := by decide +kernel
theorem dL_law_219 : decode cL_law 219 = .ok (.iconst 1, 1) := by decide +kernel
theorem dL_law_220 : decode cL_law 220 = .ok (.iadd, 1) := by decide +kernel
theorem dL_law_221 : decode cL_law 221 = .ok (.iaload, 1) := by decide +kernel
theorem dL_law_222 : decode cL_law 222 = .ok (.aload_n 0, 1) := by decide +kernel
theorem dL_law_223 : decode cL_law 223 = .ok (.iload_n 3, 1) := by decide +kernel
theorem dL_law_224 : decode cL_law 224 = .ok (.iconst 2, 1) := by decide +kernel
theorem dL_law_225 : decode cL_law 225 = .ok (.iadd, 1) := by decide +kernel
theorem dL_law_226 : decode cL_law 226 = .ok (.iaload, 1) := by decide +kernel
theorem dL_law_227 : decode cL_law 227 = .ok (.ifCond .eq 7, 3) := by decide +kernel
theorem dL_law_230 : decode cL_law 230 = .ok (.iconst 1, 1) := by decide +kernel
theorem dL_law_231 : decode cL_law 231 = .ok (.goto 4, 3) := by decide +kernel
theorem dL_law_234 : decode cL_law 234 = .ok (.iconst 0, 1) := by decide +kernel
theorem dL_law_235 : decode cL_law 235 = .ok (.invokevirtual 23, 3) := by decide +kernel
theorem dL_law_238 : decode cL_law 238 = .ok (.aload_n 2, 1) := by decide +kernel
theorem dL_law_239 : decode cL_law 239 = .ok (.aload_n 0, 1) := by decide +kernel
theorem dL_law_240 : decode cL_law 240 = .ok (.iload_n 3, 1) := by decide +kernel
theorem dL_law_241 : decode cL_law 241 = .ok (.iconst 1, 1) := by decide +kernel
theorem dL_law_242 : decode cL_law 242 = .ok (.iadd, 1) := by decide +kernel
theorem dL_law_243 : decode cL_law 243 = .ok (.iaload, 1) := by decide +kernel
theorem dL_law_244 : decode cL_law 244 = .ok (.aload_n 0, 1) := by decide +kernel
theorem dL_law_245 : decode cL_law 245 = .ok (.iload_n 3, 1) := by decide +kernel
theorem dL_law_246 : decode cL_law 246 = .ok (.iconst 2, 1) := by decide +kernel
theorem dL_law_247 : decode cL_law 247 = .ok (.iadd, 1) := by decide +kernel
theorem dL_law_248 : decode cL_law 248 = .ok (.iaload, 1) := by decide +kernel
theorem dL_law_249 : decode cL_law 249 = .ok (.ifCond .eq 7, 3) := by decide +kernel
theorem dL_law_252 : decode cL_law 252 = .ok (.iconst 1, 1) := by decide +kernel
theorem dL_law_253 : decode cL_law 253 = .ok (.goto 4, 3) := by decide +kernel
theorem dL_law_256 : decode cL_law 256 = .ok (.iconst 0, 1) := by decide +kernel
theorem dL_law_257 : decode cL_law 257 = .ok (.invokevirtual 26, 3) := by decide +kernel
theorem dL_law_260 : decode cL_law 260 = .ok (.if_icmp .eq 345, 3) := by decide +kernel
theorem dL_law_263 : decode cL_law 263 = .ok (.iconst 0, 1) := by decide +kernel
theorem dL_law_264 : decode cL_law 264 = .ok (.ireturn, 1) := by decide +kernel
theorem dL_law_265 : decode cL_law 265 = .ok (.aload_n 1, 1) := by decide +kernel
theorem dL_law_266 : decode cL_law 266 = .ok (.aload_n 0, 1) := by decide +kernel
theorem dL_law_267 : decode cL_law 267 = .ok (.iload_n 3, 1) := by decide +kernel
theorem dL_law_268 : decode cL_law 268 = .ok (.iconst 1, 1) := by decide +kernel
theorem dL_law_269 : decode cL_law 269 = .ok (.iadd, 1) := by decide +kernel
theorem dL_law_270 : decode cL_law 270 = .ok (.iaload, 1) := by decide +kernel
theorem dL_law_271 : decode cL_law 271 = .ok (.aload_n 0, 1) := by decide +kernel
theorem dL_law_272 : decode cL_law 272 = .ok (.iload_n 3, 1) := by decide +kernel
theorem dL_law_273 : decode cL_law 273 = .ok (.iconst 2, 1) := by decide +kernel
theorem dL_law_274 : decode cL_law 274 = .ok (.iadd, 1) := by decide +kernel
theorem dL_law_275 : decode cL_law 275 = .ok (.iaload, 1) := by decide +kernel
theorem dL_law_276 : decode cL_law 276 = .ok (.invokevirtual 27, 3) := by decide +kernel
theorem dL_law_279 : decode cL_law 279 = .ok (.aload_n 2, 1) := by decide +kernel
theorem dL_law_280 : decode cL_law 280 = .ok (.aload_n 0, 1) := by decide +kernel
theorem dL_law_281 : decode cL_law 281 = .ok (.iload_n 3, 1) := by decide +kernel
theorem dL_law_282 : decode cL_law 282 = .ok (.iconst 1, 1) := by decide +kernel
theorem dL_law_283 : decode cL_law 283 = .ok (.iadd, 1) := by decide +kernel
theorem dL_law_284 : decode cL_law 284 = .ok (.iaload, 1) := by decide +kernel
theorem dL_law_285 : decode cL_law 285 = .ok (.aload_n 0, 1) := by decide +kernel
theorem dL_law_286 : decode cL_law 286 = .ok (.iload_n 3, 1) := by decide +kernel
theorem dL_law_287 : decode cL_law 287 = .ok (.iconst 2, 1) := by decide +kernel
theorem dL_law_288 : decode cL_law 288 = .ok (.iadd, 1) := by decide +kernel
theorem dL_law_289 : decode cL_law 289 = .ok (.iaload, 1) := by decide +kernel
theorem dL_law_290 : decode cL_law 290 = .ok (.invokevirtual 31, 3) := by decide +kernel
theorem dL_law_293 : decode cL_law 293 = .ok (.if_icmp .eq 312, 3) := by decide +kernel
theorem dL_law_296 : decode cL_law 296 = .ok (.iconst 0, 1) := by decide +kernel
theorem dL_law_297 : decode cL_law 297 = .ok (.ireturn, 1) := by decide +kernel
theorem dL_law_298 : decode cL_law 298 = .ok (.aload_n 1, 1) := by decide +kernel
theorem dL_law_299 : decode cL_law 299 = .ok (.aload_n 0, 1) := by decide +kernel
theorem dL_law_300 : decode cL_law 300 = .ok (.iload_n 3, 1) := by decide +kernel
theorem dL_law_301 : decode cL_law 301 = .ok (.iconst 1, 1) := by decide +kernel
theorem dL_law_302 : decode cL_law 302 = .ok (.iadd, 1) := by decide +kernel
theorem dL_law_303 : decode cL_law 303 = .ok (.iaload, 1) := by decide +kernel
theorem dL_law_304 : decode cL_law 304 = .ok (.invokevirtual 32, 3) := by decide +kernel
theorem dL_law_307 : decode cL_law 307 = .ok (.aload_n 2, 1) := by decide +kernel
theorem dL_law_308 : decode cL_law 308 = .ok (.aload_n 0, 1) := by decide +kernel
theorem dL_law_309 : decode cL_law 309 = .ok (.iload_n 3, 1) := by decide +kernel
theorem dL_law_310 : decode cL_law 310 = .ok (.iconst 1, 1) := by decide +kernel
theorem dL_law_311 : decode cL_law 311 = .ok (.iadd, 1) := by decide +kernel
theorem dL_law_312 : decode cL_law 312 = .ok (.iaload, 1) := by decide +kernel
theorem dL_law_313 : decode cL_law 313 = .ok (.invokevirtual 36, 3) := by decide +kernel
theorem dL_law_316 : decode cL_law 316 = .ok (.if_icmp .eq 289, 3) := by decide +kernel
theorem dL_law_319 : decode cL_law 319 = .ok (.iconst 0, 1) := by decide +kernel
theorem dL_law_320 : decode cL_law 320 = .ok (.ireturn, 1) := by decide +kernel
theorem dL_law_321 : decode cL_law 321 = .ok (.aload_n 1, 1) := by decide +kernel
theorem dL_law_322 : decode cL_law 322 = .ok (.invokevirtual 37, 3) := by decide +kernel
theorem dL_law_325 : decode cL_law 325 = .ok (.aload_n 2, 1) := by decide +kernel
theorem dL_law_326 : decode cL_law 326 = .ok (.invokevirtual 41, 3) := by decide +kernel
theorem dL_law_329 : decode cL_law 329 = .ok (.if_icmp .eq 276, 3) := by decide +kernel
theorem dL_law_332 : decode cL_law 332 = .ok (.iconst 0, 1) := by decide +kernel
theorem dL_law_333 : decode cL_law 333 = .ok (.ireturn, 1) := by decide +kernel
theorem dL_law_334 : decode cL_law 334 = .ok (.aload_n 1, 1) := by decide +kernel
theorem dL_law_335 : decode cL_law 335 = .ok (.aload_n 0, 1) := by decide +kernel
theorem dL_law_336 : decode cL_law 336 = .ok (.iload_n 3, 1) := by decide +kernel
theorem dL_law_337 : decode cL_law 337 = .ok (.iconst 1, 1) := by decide +kernel
theorem dL_law_338 : decode cL_law 338 = .ok (.iadd, 1) := by decide +kernel
theorem dL_law_339 : decode cL_law 339 = .ok (.iaload, 1) := by decide +kernel
theorem dL_law_340 : decode cL_law 340 = .ok (.invokevirtual 42, 3) := by decide +kernel
theorem dL_law_343 : decode cL_law 343 = .ok (.aload_n 2, 1) := by decide +kernel
theorem dL_law_344 : decode cL_law 344 = .ok (.aload_n 0, 1) := by decide +kernel
theorem dL_law_345 : decode cL_law 345 = .ok (.iload_n 3, 1) := by decide +kernel
theorem dL_law_346 : decode cL_law 346 = .ok (.iconst 1, 1) := by decide +kernel
theorem dL_law_347 : decode cL_law 347 = .ok (.iadd, 1) := by decide +kernel
theorem dL_law_348 : decode cL_law 348 = .ok (.iaload, 1) := by decide +kernel
theorem dL_law_349 : decode cL_law 349 = .ok (.invokevirtual 45, 3) := by decide +kernel
theorem dL_law_352 : decode cL_law 352 = .ok (.if_icmp .eq 253, 3) := by decide +kernel
theorem dL_law_355 : decode cL_law 355 = .ok (.iconst 0, 1) := by decide +kernel
theorem dL_law_356 : decode cL_law 356 = .ok (.ireturn, 1) := by decide +kernel
theorem dL_law_357 : decode cL_law 357 = .ok (.aload_n 1, 1) := by decide +kernel
theorem dL_law_358 : decode cL_law 358 = .ok (.aload_n 0, 1) := by decide +kernel
theorem dL_law_359 : decode cL_law 359 = .ok (.iload_n 3, 1) := by decide +kernel
theorem dL_law_360 : decode cL_law 360 = .ok (.iconst 1, 1) := by decide +kernel
theorem dL_law_361 : decode cL_law 361 = .ok (.iadd, 1) := by decide +kernel
theorem dL_law_362 : decode cL_law 362 = .ok (.iaload, 1) := by decide +kernel
theorem dL_law_363 : decode cL_law 363 = .ok (.i2c, 1) := by decide +kernel
theorem dL_law_364 : decode cL_law 364 = .ok (.invokevirtual 46, 3) := by decide +kernel
theorem dL_law_367 : decode cL_law 367 = .ok (.aload_n 2, 1) := by decide +kernel
theorem dL_law_368 : decode cL_law 368 = .ok (.aload_n 0, 1) := by decide +kernel
theorem dL_law_369 : decode cL_law 369 = .ok (.iload_n 3, 1) := by decide +kernel
theorem dL_law_370 : decode cL_law 370 = .ok (.iconst 1, 1) := by decide +kernel
theorem dL_law_371 : decode cL_law 371 = .ok (.iadd, 1) := by decide +kernel
theorem dL_law_372 : decode cL_law 372 = .ok (.iaload, 1) := by decide +kernel
theorem dL_law_373 : decode cL_law 373 = .ok (.i2c, 1) := by decide +kernel
theorem dL_law_374 : decode cL_law 374 = .ok (.invokevirtual 50, 3) := by decide +kernel
theorem dL_law_377 : decode cL_law 377 = .ok (.if_icmp .eq 228, 3) := by decide +kernel
theorem dL_law_380 : decode cL_law 380 = .ok (.iconst 0, 1) := by decide +kernel
theorem dL_law_381 : decode cL_law 381 = .ok (.ireturn, 1) := by decide +kernel
theorem dL_law_382 : decode cL_law 382 = .ok (.aload_n 1, 1) := by decide +kernel
theorem dL_law_383 : decode cL_law 383 = .ok (.invokevirtual 51, 3) := by decide +kernel
theorem dL_law_386 : decode cL_law 386 = .ok (.aload_n 2, 1) := by decide +kernel
theorem dL_law_387 : decode cL_law 387 = .ok (.invokevirtual 54, 3) := by decide +kernel
theorem dL_law_390 : decode cL_law 390 = .ok (.if_icmp .eq 215, 3) := by decide +kernel
theorem dL_law_393 : decode cL_law 393 = .ok (.iconst 0, 1) := by decide +kernel
theorem dL_law_394 : decode cL_law 394 = .ok (.ireturn, 1) := by decide +kernel
theorem dL_law_395 : decode cL_law 395 = .ok (.aload_n 1, 1) := by decide +kernel
theorem dL_law_396 : decode cL_law 396 = .ok (.invokevirtual 55, 3) := by decide +kernel
theorem dL_law_399 : decode cL_law 399 = .ok (.aload_n 2, 1) := by decide +kernel
theorem dL_law_400 : decode cL_law 400 = .ok (.invokevirtual 58, 3) := by decide +kernel
theorem dL_law_403 : decode cL_law 403 = .ok (.if_icmp .eq 202, 3) := by decide +kernel
theorem dL_law_406 : decode cL_law 406 = .ok (.iconst 0, 1) := by decide +kernel
theorem dL_law_407 : decode cL_law 407 = .ok (.ireturn, 1) := by decide +kernel
theorem dL_law_408 : decode cL_law 408 = .ok (.aload_n 1, 1) := by decide +kernel
theorem dL_law_409 : decode cL_law 409 = .ok (.invokevirtual 59, 3) := by decide +kernel
theorem dL_law_412 : decode cL_law 412 = .ok (.aload_n 2, 1) := by decide +kernel
theorem dL_law_413 : decode cL_law 413 = .ok (.invokevirtual 62, 3) := by decide +kernel
theorem dL_law_416 : decode cL_law 416 = .ok (.if_icmp .eq 189, 3) := by decide +kernel
theorem dL_law_419 : decode cL_law 419 = .ok (.iconst 0, 1) := by decide +kernel
theorem dL_law_420 : decode cL_law 420 = .ok (.ireturn, 1) := by decide +kernel
theorem dL_law_421 : decode cL_law 421 = .ok (.aload_n 1, 1) := by decide +kernel
theorem dL_law_422 : decode cL_law 422 = .ok (.invokevirtual 63, 3) := by decide +kernel
theorem dL_law_425 : decode cL_law 425 = .ok (.aload_n 2, 1) := by decide +kernel
theorem dL_law_426 : decode cL_law 426 = .ok (.invokevirtual 66, 3) := by decide +kernel
theorem dL_law_429 : decode cL_law 429 = .ok (.if_icmp .eq 176, 3) := by decide +kernel
theorem dL_law_432 : decode cL_law 432 = .ok (.iconst 0, 1) := by decide +kernel
theorem dL_law_433 : decode cL_law 433 = .ok (.ireturn, 1) := by decide +kernel
theorem dL_law_434 : decode cL_law 434 = .ok (.aload_n 1, 1) := by decide +kernel
theorem dL_law_435 : decode cL_law 435 = .ok (.aload_n 0, 1) := by decide +kernel
theorem dL_law_436 : decode cL_law 436 = .ok (.iload_n 3, 1) := by decide +kernel
theorem dL_law_437 : decode cL_law 437 = .ok (.iconst 1, 1) := by decide +kernel
theorem dL_law_438 : decode cL_law 438 = .ok (.iadd, 1) := by decide +kernel
theorem dL_law_439 : decode cL_law 439 = .ok (.iaload, 1) := by decide +kernel
theorem dL_law_440 : decode cL_law 440 = .ok (.aload_n 0, 1) := by decide +kernel
theorem dL_law_441 : decode cL_law 441 = .ok (.iload_n 3, 1) := by decide +kernel
theorem dL_law_442 : decode cL_law 442 = .ok (.iconst 2, 1) := by decide +kernel
theorem dL_law_443 : decode cL_law 443 = .ok (.iadd, 1) := by decide +kernel
theorem dL_law_444 : decode cL_law 444 = .ok (.iaload, 1) := by decide +kernel
theorem dL_law_445 : decode cL_law 445 = .ok (.invokevirtual 67, 3) := by decide +kernel
theorem dL_law_448 : decode cL_law 448 = .ok (.aload_n 2, 1) := by decide +kernel
theorem dL_law_449 : decode cL_law 449 = .ok (.aload_n 0, 1) := by decide +kernel
theorem dL_law_450 : decode cL_law 450 = .ok (.iload_n 3, 1) := by decide +kernel
theorem dL_law_451 : decode cL_law 451 = .ok (.iconst 1, 1) := by decide +kernel
theorem dL_law_452 : decode cL_law 452 = .ok (.iadd, 1) := by decide +kernel
theorem dL_law_453 : decode cL_law 453 = .ok (.iaload, 1) := by decide +kernel
theorem dL_law_454 : decode cL_law 454 = .ok (.aload_n 0, 1) := by decide +kernel
theorem dL_law_455 : decode cL_law 455 = .ok (.iload_n 3, 1) := by decide +kernel
theorem dL_law_456 : decode cL_law 456 = .ok (.iconst 2, 1) := by decide +kernel
theorem dL_law_457 : decode cL_law 457 = .ok (.iadd, 1) := by decide +kernel
theorem dL_law_458 : decode cL_law 458 = .ok (.iaload, 1) := by decide +kernel
theorem dL_law_459 : decode cL_law 459 = .ok (.invokevirtual 70, 3) := by decide +kernel
theorem dL_law_462 : decode cL_law 462 = .ok (.if_icmp .eq 143, 3) := by decide +kernel
theorem dL_law_465 : decode cL_law 465 = .ok (.iconst 0, 1) := by decide +kernel
theorem dL_law_466 : decode cL_law 466 = .ok (.ireturn, 1) := by decide +kernel
theorem dL_law_467 : decode cL_law 467 = .ok (.aload_n 1, 1) := by decide +kernel
theorem dL_law_468 : decode cL_law 468 = .ok (.aload_n 0, 1) := by decide +kernel
theorem dL_law_469 : decode cL_law 469 = .ok (.iload_n 3, 1) := by decide +kernel
theorem dL_law_470 : decode cL_law 470 = .ok (.iconst 1, 1) := by decide +kernel
theorem dL_law_471 : decode cL_law 471 = .ok (.iadd, 1) := by decide +kernel
theorem dL_law_472 : decode cL_law 472 = .ok (.iaload, 1) := by decide +kernel
theorem dL_law_473 : decode cL_law 473 = .ok (.aload_n 0, 1) := by decide +kernel
theorem dL_law_474 : decode cL_law 474 = .ok (.iload_n 3, 1) := by decide +kernel
theorem dL_law_475 : decode cL_law 475 = .ok (.iconst 2, 1) := by decide +kernel
theorem dL_law_476 : decode cL_law 476 = .ok (.iadd, 1) := by decide +kernel
theorem dL_law_477 : decode cL_law 477 = .ok (.iaload, 1) := by decide +kernel
theorem dL_law_478 : decode cL_law 478 = .ok (.invokevirtual 71, 3) := by decide +kernel
theorem dL_law_481 : decode cL_law 481 = .ok (.aload_n 2, 1) := by decide +kernel
theorem dL_law_482 : decode cL_law 482 = .ok (.aload_n 0, 1) := by decide +kernel
theorem dL_law_483 : decode cL_law 483 = .ok (.iload_n 3, 1) := by decide +kernel
theorem dL_law_484 : decode cL_law 484 = .ok (.iconst 1, 1) := by decide +kernel
theorem dL_law_485 : decode cL_law 485 = .ok (.iadd, 1) := by decide +kernel
theorem dL_law_486 : decode cL_law 486 = .ok (.iaload, 1) := by decide +kernel
theorem dL_law_487 : decode cL_law 487 = .ok (.aload_n 0, 1) := by decide +kernel
theorem dL_law_488 : decode cL_law 488 = .ok (.iload_n 3, 1) := by decide +kernel
theorem dL_law_489 : decode cL_law 489 = .ok (.iconst 2, 1) := by decide +kernel
theorem dL_law_490 : decode cL_law 490 = .ok (.iadd, 1) := by decide +kernel
theorem dL_law_491 : decode cL_law 491 = .ok (.iaload, 1) := by decide +kernel
theorem dL_law_492 : decode cL_law 492 = .ok (.invokevirtual 74, 3) := by decide +kernel
theorem dL_law_495 : decode cL_law 495 = .ok (.if_icmp .eq 110, 3) := by decide +kernel
theorem dL_law_498 : decode cL_law 498 = .ok (.iconst 0, 1) := by decide +kernel
theorem dL_law_499 : decode cL_law 499 = .ok (.ireturn, 1) := by decide +kernel
theorem dL_law_500 : decode cL_law 500 = .ok (.aload_n 1, 1) := by decide +kernel
theorem dL_law_501 : decode cL_law 501 = .ok (.aload_n 0, 1) := by decide +kernel
theorem dL_law_502 : decode cL_law 502 = .ok (.iload_n 3, 1) := by decide +kernel
theorem dL_law_503 : decode cL_law 503 = .ok (.iconst 1, 1) := by decide +kernel
theorem dL_law_504 : decode cL_law 504 = .ok (.iadd, 1) := by decide +kernel
theorem dL_law_505 : decode cL_law 505 = .ok (.iaload, 1) := by decide +kernel
theorem dL_law_506 : decode cL_law 506 = .ok (.invokevirtual 75, 3) := by decide +kernel
theorem dL_law_509 : decode cL_law 509 = .ok (.aload_n 2, 1) := by decide +kernel
theorem dL_law_510 : decode cL_law 510 = .ok (.aload_n 0, 1) := by decide +kernel
theorem dL_law_511 : decode cL_law 511 = .ok (.iload_n 3, 1) := by decide +kernel
theorem dL_law_512 : decode cL_law 512 = .ok (.iconst 1, 1) := by decide +kernel
theorem dL_law_513 : decode cL_law 513 = .ok (.iadd, 1) := by decide +kernel
theorem dL_law_514 : decode cL_law 514 = .ok (.iaload, 1) := by decide +kernel
theorem dL_law_515 : decode cL_law 515 = .ok (.invokevirtual 78, 3) := by decide +kernel
theorem dL_law_518 : decode cL_law 518 = .ok (.if_icmp .eq 87, 3) := by decide +kernel
theorem dL_law_521 : decode cL_law 521 = .ok (.iconst 0, 1) := by decide +kernel
theorem dL_law_522 : decode cL_law 522 = .ok (.ireturn, 1) := by decide +kernel
theorem dL_law_523 : decode cL_law 523 = .ok (.aload_n 1, 1) := by decide +kernel
theorem dL_law_524 : decode cL_law 524 = .ok (.aload_n 0, 1) := by decide +kernel
theorem dL_law_525 : decode cL_law 525 = .ok (.iload_n 3, 1) := by decide +kernel
theorem dL_law_526 : decode cL_law 526 = .ok (.iconst 1, 1) := by decide +kernel
theorem dL_law_527 : decode cL_law 527 = .ok (.iadd, 1) := by decide +kernel
theorem dL_law_528 : decode cL_law 528 = .ok (.iaload, 1) := by decide +kernel
theorem dL_law_529 : decode cL_law 529 = .ok (.invokevirtual 79, 3) := by decide +kernel
theorem dL_law_532 : decode cL_law 532 = .ok (.aload_n 2, 1) := by decide +kernel
theorem dL_law_533 : decode cL_law 533 = .ok (.aload_n 0, 1) := by decide +kernel
theorem dL_law_534 : decode cL_law 534 = .ok (.iload_n 3, 1) := by decide +kernel
theorem dL_law_535 : decode cL_law 535 = .ok (.iconst 1, 1) := by decide +kernel
theorem dL_law_536 : decode cL_law 536 = .ok (.iadd, 1) := by decide +kernel
theorem dL_law_537 : decode cL_law 537 = .ok (.iaload, 1) := by decide +kernel
theorem dL_law_538 : decode cL_law 538 = .ok (.invokevirtual 82, 3) := by decide +kernel
theorem dL_law_541 : decode cL_law 541 = .ok (.if_icmp .eq 64, 3) := by decide +kernel
theorem dL_law_544 : decode cL_law 544 = .ok (.iconst 0, 1) := by decide +kernel
theorem dL_law_545 : decode cL_law 545 = .ok (.ireturn, 1) := by decide +kernel
theorem dL_law_546 : decode cL_law 546 = .ok (.aload_n 1, 1) := by decide +kernel
theorem dL_law_547 : decode cL_law 547 = .ok (.invokevirtual 83, 3) := by decide +kernel
theorem dL_law_550 : decode cL_law 550 = .ok (.aload_n 2, 1) := by decide +kernel
theorem dL_law_551 : decode cL_law 551 = .ok (.invokevirtual 86, 3) := by decide +kernel
theorem dL_law_554 : decode cL_law 554 = .ok (.if_icmp .eq 51, 3) := by decide +kernel
theorem dL_law_557 : decode cL_law 557 = .ok (.iconst 0, 1) := by decide +kernel
theorem dL_law_558 : decode cL_law 558 = .ok (.ireturn, 1) := by decide +kernel
theorem dL_law_559 : decode cL_law 559 = .ok (.aload_n 1, 1) := by decide +kernel
theorem dL_law_560 : decode cL_law 560 = .ok (.aload_n 0, 1) := by decide +kernel
theorem dL_law_561 : decode cL_law 561 = .ok (.iload_n 3, 1) := by decide +kernel
theorem dL_law_562 : decode cL_law 562 = .ok (.iconst 1, 1) := by decide +kernel
theorem dL_law_563 : decode cL_law 563 = .ok (.iadd, 1) := by decide +kernel
theorem dL_law_564 : decode cL_law 564 = .ok (.iaload, 1) := by decide +kernel
theorem dL_law_565 : decode cL_law 565 = .ok (.invokevirtual 87, 3) := by decide +kernel
theorem dL_law_568 : decode cL_law 568 = .ok (.aload_n 2, 1) := by decide +kernel
theorem dL_law_569 : decode cL_law 569 = .ok (.aload_n 0, 1) := by decide +kernel
theorem dL_law_570 : decode cL_law 570 = .ok (.iload_n 3, 1) := by decide +kernel
theorem dL_law_571 : decode cL_law 571 = .ok (.iconst 1, 1) := by decide +kernel
theorem dL_law_572 : decode cL_law 572 = .ok (.iadd, 1) := by decide +kernel
theorem dL_law_573 : decode cL_law 573 = .ok (.iaload, 1) := by decide +kernel
theorem dL_law_574 : decode cL_law 574 = .ok (.invokevirtual 90, 3) := by decide +kernel
theorem dL_law_577 : decode cL_law 577 = .ok (.if_icmp .eq 28, 3) := by decide +kernel
theorem dL_law_580 : decode cL_law 580 = .ok (.iconst 0, 1) := by decide +kernel
theorem dL_law_581 : decode cL_law 581 = .ok (.ireturn, 1) := by decide +kernel
theorem dL_law_582 : decode cL_law 582 = .ok (.aload_n 1, 1) := by decide +kernel
theorem dL_law_583 : decode cL_law 583 = .ok (.aload_n 0, 1) := by decide +kernel
theorem dL_law_584 : decode cL_law 584 = .ok (.iload_n 3, 1) := by decide +kernel
theorem dL_law_585 : decode cL_law 585 = .ok (.iconst 1, 1) := by decide +kernel
theorem dL_law_586 : decode cL_law 586 = .ok (.iadd, 1) := by decide +kernel
theorem dL_law_587 : decode cL_law 587 = .ok (.iaload, 1) := by decide +kernel
theorem dL_law_588 : decode cL_law 588 = .ok (.invokevirtual 91, 3) := by decide +kernel
theorem dL_law_591 : decode cL_law 591 = .ok (.aload_n 2, 1) := by decide +kernel
theorem dL_law_592 : decode cL_law 592 = .ok (.aload_n 0, 1) := by decide +kernel
theorem dL_law_593 : decode cL_law 593 = .ok (.iload_n 3, 1) := by decide +kernel
theorem dL_law_594 : decode cL_law 594 = .ok (.iconst 1, 1) := by decide +kernel
theorem dL_law_595 : decode cL_law 595 = .ok (.iadd, 1) := by decide +kernel
theorem dL_law_596 : decode cL_law 596 = .ok (.iaload, 1) := by decide +kernel
theorem dL_law_597 : decode cL_law 597 = .ok (.invokevirtual 94, 3) := by decide +kernel
theorem dL_law_600 : decode cL_law 600 = .ok (.if_icmp .eq 5, 3) := by decide +kernel
theorem dL_law_603 : decode cL_law 603 = .ok (.iconst 0, 1) := by decide +kernel
theorem dL_law_604 : decode cL_law 604 = .ok (.ireturn, 1) := by decide +kernel
theorem dL_law_605 : decode cL_law 605 = .ok (.iinc 3 4, 3) := by decide +kernel
theorem dL_law_608 : decode cL_law 608 = .ok (.goto (-590), 3) := by decide +kernel
theorem dL_law_611 : decode cL_law 611 = .ok (.iconst 1, 1) := by decide +kernel
theorem dL_law_612 : decode cL_law 612 = .ok (.ireturn, 1) := by decide +kernel
end
