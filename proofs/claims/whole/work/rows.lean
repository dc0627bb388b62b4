section
-- ===== PART A: goes FIRST, ahead of the names: the tables' words, and 'selects' of the private methods out of them =====
/-- a private method of a class that the tables say can be made, by its rows of tables_1 -/
def lw_okq (q : MethodName × Nat) : Prop := (q.1.cls ≠ "java/lang/invoke/MethodHandle" ∧ q.1.cls ≠ "java/lang/invoke/VarHandle") ∧ Cond.instantiable q.1.cls q.2 ∈ tables_1 ∧ Cond.privateMethod q.1 ∈ tables_1 ∧ Cond.instanceMethod q.1 ∈ tables_1
theorem lw_p0 : lw_okq (⟨"PairDecoder", "isFired", "(I)Z"⟩, 6) := ⟨⟨by decide +kernel, by decide +kernel⟩, List.mem_of_getElem? (i := 15) (by decide +kernel), List.mem_of_getElem? (i := 240) (by decide +kernel), List.mem_of_getElem? (i := 241) (by decide +kernel)⟩
theorem lw_p1 : lw_okq (⟨"PairDecoder$Ways", "clearCosts", "()V"⟩, 5) := ⟨⟨by decide +kernel, by decide +kernel⟩, List.mem_of_getElem? (i := 71) (by decide +kernel), List.mem_of_getElem? (i := 268) (by decide +kernel), List.mem_of_getElem? (i := 269) (by decide +kernel)⟩
theorem lw_p2 : lw_okq (⟨"PairDecoder$Ways", "edgeCost", "(I)J"⟩, 5) := ⟨⟨by decide +kernel, by decide +kernel⟩, List.mem_of_getElem? (i := 71) (by decide +kernel), List.mem_of_getElem? (i := 276) (by decide +kernel), List.mem_of_getElem? (i := 277) (by decide +kernel)⟩
theorem lw_p3 : lw_okq (⟨"PairDecoder$Ways", "lower", "(IIJ)V"⟩, 5) := ⟨⟨by decide +kernel, by decide +kernel⟩, List.mem_of_getElem? (i := 71) (by decide +kernel), List.mem_of_getElem? (i := 285) (by decide +kernel), List.mem_of_getElem? (i := 286) (by decide +kernel)⟩
theorem lw_p4 : lw_okq (⟨"PairDecoder$Ways", "joinWaysAt", "(I)V"⟩, 5) := ⟨⟨by decide +kernel, by decide +kernel⟩, List.mem_of_getElem? (i := 71) (by decide +kernel), List.mem_of_getElem? (i := 290) (by decide +kernel), List.mem_of_getElem? (i := 291) (by decide +kernel)⟩
theorem lw_p5 : lw_okq (⟨"PairDecoder$Ways", "firstEdgeTowards", "(II)I"⟩, 5) := ⟨⟨by decide +kernel, by decide +kernel⟩, List.mem_of_getElem? (i := 71) (by decide +kernel), List.mem_of_getElem? (i := 312) (by decide +kernel), List.mem_of_getElem? (i := 313) (by decide +kernel)⟩
theorem lw_p6 : lw_okq (⟨"PairDecoder", "findPairing", "()Z"⟩, 6) := ⟨⟨by decide +kernel, by decide +kernel⟩, List.mem_of_getElem? (i := 15) (by decide +kernel), List.mem_of_getElem? (i := 378) (by decide +kernel), List.mem_of_getElem? (i := 379) (by decide +kernel)⟩
theorem lw_p7 : lw_okq (⟨"PairDecoder$Matcher", "layRow", "(I)V"⟩, 8) := ⟨⟨by decide +kernel, by decide +kernel⟩, List.mem_of_getElem? (i := 95) (by decide +kernel), List.mem_of_getElem? (i := 386) (by decide +kernel), List.mem_of_getElem? (i := 387) (by decide +kernel)⟩
theorem lw_p8 : lw_okq (⟨"PairDecoder$Matcher", "nearestBoundary", "(I)I"⟩, 8) := ⟨⟨by decide +kernel, by decide +kernel⟩, List.mem_of_getElem? (i := 95) (by decide +kernel), List.mem_of_getElem? (i := 390) (by decide +kernel), List.mem_of_getElem? (i := 391) (by decide +kernel)⟩
theorem lw_p9 : lw_okq (⟨"PairDecoder$Matcher", "weighPairs", "()V"⟩, 8) := ⟨⟨by decide +kernel, by decide +kernel⟩, List.mem_of_getElem? (i := 95) (by decide +kernel), List.mem_of_getElem? (i := 397) (by decide +kernel), List.mem_of_getElem? (i := 398) (by decide +kernel)⟩
theorem lw_p10 : lw_okq (⟨"PairDecoder$Matcher", "pointOf", "(II)I"⟩, 8) := ⟨⟨by decide +kernel, by decide +kernel⟩, List.mem_of_getElem? (i := 95) (by decide +kernel), List.mem_of_getElem? (i := 401) (by decide +kernel), List.mem_of_getElem? (i := 402) (by decide +kernel)⟩
theorem lw_p11 : lw_okq (⟨"PairDecoder$Matcher", "wholeGroup", "()I"⟩, 8) := ⟨⟨by decide +kernel, by decide +kernel⟩, List.mem_of_getElem? (i := 95) (by decide +kernel), List.mem_of_getElem? (i := 406) (by decide +kernel), List.mem_of_getElem? (i := 407) (by decide +kernel)⟩
theorem lw_p12 : lw_okq (⟨"PairDecoder$Matcher", "solveGroup", "(I)V"⟩, 8) := ⟨⟨by decide +kernel, by decide +kernel⟩, List.mem_of_getElem? (i := 95) (by decide +kernel), List.mem_of_getElem? (i := 410) (by decide +kernel), List.mem_of_getElem? (i := 411) (by decide +kernel)⟩
theorem lw_p13 : lw_okq (⟨"PairDecoder$Matcher", "leastPlace", "(I)I"⟩, 8) := ⟨⟨by decide +kernel, by decide +kernel⟩, List.mem_of_getElem? (i := 95) (by decide +kernel), List.mem_of_getElem? (i := 414) (by decide +kernel), List.mem_of_getElem? (i := 415) (by decide +kernel)⟩
theorem lw_p14 : lw_okq (⟨"PairDecoder$Matcher", "weightWith", "(III)I"⟩, 8) := ⟨⟨by decide +kernel, by decide +kernel⟩, List.mem_of_getElem? (i := 95) (by decide +kernel), List.mem_of_getElem? (i := 418) (by decide +kernel), List.mem_of_getElem? (i := 419) (by decide +kernel)⟩
theorem lw_p15 : lw_okq (⟨"PairDecoder$Matcher", "weighIn", "(III)V"⟩, 8) := ⟨⟨by decide +kernel, by decide +kernel⟩, List.mem_of_getElem? (i := 95) (by decide +kernel), List.mem_of_getElem? (i := 425) (by decide +kernel), List.mem_of_getElem? (i := 426) (by decide +kernel)⟩
def lw_privs_1 : List (MethodName × Nat) := [(⟨"PairDecoder", "isFired", "(I)Z"⟩, 6), (⟨"PairDecoder$Ways", "clearCosts", "()V"⟩, 5), (⟨"PairDecoder$Ways", "edgeCost", "(I)J"⟩, 5), (⟨"PairDecoder$Ways", "lower", "(IIJ)V"⟩, 5), (⟨"PairDecoder$Ways", "joinWaysAt", "(I)V"⟩, 5), (⟨"PairDecoder$Ways", "firstEdgeTowards", "(II)I"⟩, 5), (⟨"PairDecoder", "findPairing", "()Z"⟩, 6), (⟨"PairDecoder$Matcher", "layRow", "(I)V"⟩, 8), (⟨"PairDecoder$Matcher", "nearestBoundary", "(I)I"⟩, 8), (⟨"PairDecoder$Matcher", "weighPairs", "()V"⟩, 8), (⟨"PairDecoder$Matcher", "pointOf", "(II)I"⟩, 8), (⟨"PairDecoder$Matcher", "wholeGroup", "()I"⟩, 8), (⟨"PairDecoder$Matcher", "solveGroup", "(I)V"⟩, 8), (⟨"PairDecoder$Matcher", "leastPlace", "(I)I"⟩, 8), (⟨"PairDecoder$Matcher", "weightWith", "(III)I"⟩, 8), (⟨"PairDecoder$Matcher", "weighIn", "(III)V"⟩, 8)]
theorem lw_r1 : ∀ q ∈ lw_privs_1, lw_okq q := List.forall_mem_cons.mpr ⟨lw_p0, List.forall_mem_cons.mpr ⟨lw_p1, List.forall_mem_cons.mpr ⟨lw_p2, List.forall_mem_cons.mpr ⟨lw_p3, List.forall_mem_cons.mpr ⟨lw_p4, List.forall_mem_cons.mpr ⟨lw_p5, List.forall_mem_cons.mpr ⟨lw_p6, List.forall_mem_cons.mpr ⟨lw_p7, List.forall_mem_cons.mpr ⟨lw_p8, List.forall_mem_cons.mpr ⟨lw_p9, List.forall_mem_cons.mpr ⟨lw_p10, List.forall_mem_cons.mpr ⟨lw_p11, List.forall_mem_cons.mpr ⟨lw_p12, List.forall_mem_cons.mpr ⟨lw_p13, List.forall_mem_cons.mpr ⟨lw_p14, List.forall_mem_cons.mpr ⟨lw_p15, fun _ h => absurd h List.not_mem_nil⟩⟩⟩⟩⟩⟩⟩⟩⟩⟩⟩⟩⟩⟩⟩⟩
theorem lw_p16 : lw_okq (⟨"PairDecoder$Matcher", "firstPartner", "(II)I"⟩, 8) := ⟨⟨by decide +kernel, by decide +kernel⟩, List.mem_of_getElem? (i := 95) (by decide +kernel), List.mem_of_getElem? (i := 437) (by decide +kernel), List.mem_of_getElem? (i := 438) (by decide +kernel)⟩
theorem lw_p17 : lw_okq (⟨"java/lang/Throwable", "fillInStackTrace", "(I)Ljava/lang/Throwable;"⟩, 6) := ⟨⟨by decide +kernel, by decide +kernel⟩, List.mem_of_getElem? (i := 486) (by decide +kernel), List.mem_of_getElem? (i := 484) (by decide +kernel), List.mem_of_getElem? (i := 485) (by decide +kernel)⟩
theorem lw_p18 : lw_okq (⟨"PairDecoder", "isPairBefore", "(II)Z"⟩, 6) := ⟨⟨by decide +kernel, by decide +kernel⟩, List.mem_of_getElem? (i := 15) (by decide +kernel), List.mem_of_getElem? (i := 523) (by decide +kernel), List.mem_of_getElem? (i := 524) (by decide +kernel)⟩
theorem lw_p19 : lw_okq (⟨"PairDecoder", "commitPair", "(I)V"⟩, 6) := ⟨⟨by decide +kernel, by decide +kernel⟩, List.mem_of_getElem? (i := 15) (by decide +kernel), List.mem_of_getElem? (i := 527) (by decide +kernel), List.mem_of_getElem? (i := 528) (by decide +kernel)⟩
theorem lw_p20 : lw_okq (⟨"PairDecoderModel", "canBe", "(IIII)Z"⟩, 34) := ⟨⟨by decide +kernel, by decide +kernel⟩, List.mem_of_getElem? (i := 532) (by decide +kernel), List.mem_of_getElem? (i := 654) (by decide +kernel), List.mem_of_getElem? (i := 655) (by decide +kernel)⟩
theorem lw_p21 : lw_okq (⟨"PairDecoderModel", "isPoint", "(I)Z"⟩, 34) := ⟨⟨by decide +kernel, by decide +kernel⟩, List.mem_of_getElem? (i := 532) (by decide +kernel), List.mem_of_getElem? (i := 658) (by decide +kernel), List.mem_of_getElem? (i := 659) (by decide +kernel)⟩
theorem lw_p22 : lw_okq (⟨"PairDecoderModel", "add", "(IIII)V"⟩, 34) := ⟨⟨by decide +kernel, by decide +kernel⟩, List.mem_of_getElem? (i := 532) (by decide +kernel), List.mem_of_getElem? (i := 663) (by decide +kernel), List.mem_of_getElem? (i := 664) (by decide +kernel)⟩
theorem lw_p23 : lw_okq (⟨"PairDecoderModel", "firstBoundary", "()I"⟩, 34) := ⟨⟨by decide +kernel, by decide +kernel⟩, List.mem_of_getElem? (i := 532) (by decide +kernel), List.mem_of_getElem? (i := 677) (by decide +kernel), List.mem_of_getElem? (i := 678) (by decide +kernel)⟩
theorem lw_p24 : lw_okq (⟨"PairDecoderModel", "lay", "(II)Z"⟩, 34) := ⟨⟨by decide +kernel, by decide +kernel⟩, List.mem_of_getElem? (i := 532) (by decide +kernel), List.mem_of_getElem? (i := 693) (by decide +kernel), List.mem_of_getElem? (i := 694) (by decide +kernel)⟩
theorem lw_p25 : lw_okq (⟨"PairDecoderModel", "findTo", "(I)V"⟩, 34) := ⟨⟨by decide +kernel, by decide +kernel⟩, List.mem_of_getElem? (i := 532) (by decide +kernel), List.mem_of_getElem? (i := 697) (by decide +kernel), List.mem_of_getElem? (i := 698) (by decide +kernel)⟩
theorem lw_p26 : lw_okq (⟨"PairDecoderModel", "relax", "(IIII)Z"⟩, 34) := ⟨⟨by decide +kernel, by decide +kernel⟩, List.mem_of_getElem? (i := 532) (by decide +kernel), List.mem_of_getElem? (i := 701) (by decide +kernel), List.mem_of_getElem? (i := 702) (by decide +kernel)⟩
theorem lw_p27 : lw_okq (⟨"PairDecoderModel", "goesOn", "(II)Z"⟩, 34) := ⟨⟨by decide +kernel, by decide +kernel⟩, List.mem_of_getElem? (i := 532) (by decide +kernel), List.mem_of_getElem? (i := 705) (by decide +kernel), List.mem_of_getElem? (i := 706) (by decide +kernel)⟩
theorem lw_p28 : lw_okq (⟨"PairDecoderModel", "heavy", "(I)I"⟩, 34) := ⟨⟨by decide +kernel, by decide +kernel⟩, List.mem_of_getElem? (i := 532) (by decide +kernel), List.mem_of_getElem? (i := 709) (by decide +kernel), List.mem_of_getElem? (i := 710) (by decide +kernel)⟩
theorem lw_p29 : lw_okq (⟨"PairDecoderModel", "nextEdge", "(II)I"⟩, 34) := ⟨⟨by decide +kernel, by decide +kernel⟩, List.mem_of_getElem? (i := 532) (by decide +kernel), List.mem_of_getElem? (i := 713) (by decide +kernel), List.mem_of_getElem? (i := 714) (by decide +kernel)⟩
theorem lw_p30 : lw_okq (⟨"PairDecoderModel", "find", "()Z"⟩, 34) := ⟨⟨by decide +kernel, by decide +kernel⟩, List.mem_of_getElem? (i := 532) (by decide +kernel), List.mem_of_getElem? (i := 721) (by decide +kernel), List.mem_of_getElem? (i := 722) (by decide +kernel)⟩
theorem lw_p31 : lw_okq (⟨"PairDecoderModel", "findCosts", "()V"⟩, 34) := ⟨⟨by decide +kernel, by decide +kernel⟩, List.mem_of_getElem? (i := 532) (by decide +kernel), List.mem_of_getElem? (i := 725) (by decide +kernel), List.mem_of_getElem? (i := 726) (by decide +kernel)⟩
def lw_privs_2 : List (MethodName × Nat) := [(⟨"PairDecoder$Matcher", "firstPartner", "(II)I"⟩, 8), (⟨"java/lang/Throwable", "fillInStackTrace", "(I)Ljava/lang/Throwable;"⟩, 6), (⟨"PairDecoder", "isPairBefore", "(II)Z"⟩, 6), (⟨"PairDecoder", "commitPair", "(I)V"⟩, 6), (⟨"PairDecoderModel", "canBe", "(IIII)Z"⟩, 34), (⟨"PairDecoderModel", "isPoint", "(I)Z"⟩, 34), (⟨"PairDecoderModel", "add", "(IIII)V"⟩, 34), (⟨"PairDecoderModel", "firstBoundary", "()I"⟩, 34), (⟨"PairDecoderModel", "lay", "(II)Z"⟩, 34), (⟨"PairDecoderModel", "findTo", "(I)V"⟩, 34), (⟨"PairDecoderModel", "relax", "(IIII)Z"⟩, 34), (⟨"PairDecoderModel", "goesOn", "(II)Z"⟩, 34), (⟨"PairDecoderModel", "heavy", "(I)I"⟩, 34), (⟨"PairDecoderModel", "nextEdge", "(II)I"⟩, 34), (⟨"PairDecoderModel", "find", "()Z"⟩, 34), (⟨"PairDecoderModel", "findCosts", "()V"⟩, 34)]
theorem lw_r2 : ∀ q ∈ lw_privs_2, lw_okq q := List.forall_mem_cons.mpr ⟨lw_p16, List.forall_mem_cons.mpr ⟨lw_p17, List.forall_mem_cons.mpr ⟨lw_p18, List.forall_mem_cons.mpr ⟨lw_p19, List.forall_mem_cons.mpr ⟨lw_p20, List.forall_mem_cons.mpr ⟨lw_p21, List.forall_mem_cons.mpr ⟨lw_p22, List.forall_mem_cons.mpr ⟨lw_p23, List.forall_mem_cons.mpr ⟨lw_p24, List.forall_mem_cons.mpr ⟨lw_p25, List.forall_mem_cons.mpr ⟨lw_p26, List.forall_mem_cons.mpr ⟨lw_p27, List.forall_mem_cons.mpr ⟨lw_p28, List.forall_mem_cons.mpr ⟨lw_p29, List.forall_mem_cons.mpr ⟨lw_p30, List.forall_mem_cons.mpr ⟨lw_p31, fun _ h => absurd h List.not_mem_nil⟩⟩⟩⟩⟩⟩⟩⟩⟩⟩⟩⟩⟩⟩⟩⟩
theorem lw_p32 : lw_okq (⟨"PairDecoderModel", "goThrough", "()V"⟩, 34) := ⟨⟨by decide +kernel, by decide +kernel⟩, List.mem_of_getElem? (i := 532) (by decide +kernel), List.mem_of_getElem? (i := 729) (by decide +kernel), List.mem_of_getElem? (i := 730) (by decide +kernel)⟩
theorem lw_p33 : lw_okq (⟨"PairDecoderModel", "hold", "()V"⟩, 34) := ⟨⟨by decide +kernel, by decide +kernel⟩, List.mem_of_getElem? (i := 532) (by decide +kernel), List.mem_of_getElem? (i := 733) (by decide +kernel), List.mem_of_getElem? (i := 734) (by decide +kernel)⟩
theorem lw_p34 : lw_okq (⟨"PairDecoderModel", "tryNext", "(I)Z"⟩, 34) := ⟨⟨by decide +kernel, by decide +kernel⟩, List.mem_of_getElem? (i := 532) (by decide +kernel), List.mem_of_getElem? (i := 737) (by decide +kernel), List.mem_of_getElem? (i := 738) (by decide +kernel)⟩
theorem lw_p35 : lw_okq (⟨"PairDecoderModel", "unpair", "(I)V"⟩, 34) := ⟨⟨by decide +kernel, by decide +kernel⟩, List.mem_of_getElem? (i := 532) (by decide +kernel), List.mem_of_getElem? (i := 741) (by decide +kernel), List.mem_of_getElem? (i := 742) (by decide +kernel)⟩
theorem lw_p36 : lw_okq (⟨"PairDecoderModel", "may", "(II)Z"⟩, 34) := ⟨⟨by decide +kernel, by decide +kernel⟩, List.mem_of_getElem? (i := 532) (by decide +kernel), List.mem_of_getElem? (i := 745) (by decide +kernel), List.mem_of_getElem? (i := 746) (by decide +kernel)⟩
theorem lw_p37 : lw_okq (⟨"PairDecoderModel", "firstFree", "()I"⟩, 34) := ⟨⟨by decide +kernel, by decide +kernel⟩, List.mem_of_getElem? (i := 532) (by decide +kernel), List.mem_of_getElem? (i := 749) (by decide +kernel), List.mem_of_getElem? (i := 750) (by decide +kernel)⟩
theorem lw_p38 : lw_okq (⟨"PairDecoderModel", "laidSet", "()J"⟩, 34) := ⟨⟨by decide +kernel, by decide +kernel⟩, List.mem_of_getElem? (i := 532) (by decide +kernel), List.mem_of_getElem? (i := 753) (by decide +kernel), List.mem_of_getElem? (i := 754) (by decide +kernel)⟩
theorem lw_p39 : lw_okq (⟨"PairDecoderModel", "areEdges", "(J)Z"⟩, 34) := ⟨⟨by decide +kernel, by decide +kernel⟩, List.mem_of_getElem? (i := 532) (by decide +kernel), List.mem_of_getElem? (i := 773) (by decide +kernel), List.mem_of_getElem? (i := 774) (by decide +kernel)⟩
def lw_privs_3 : List (MethodName × Nat) := [(⟨"PairDecoderModel", "goThrough", "()V"⟩, 34), (⟨"PairDecoderModel", "hold", "()V"⟩, 34), (⟨"PairDecoderModel", "tryNext", "(I)Z"⟩, 34), (⟨"PairDecoderModel", "unpair", "(I)V"⟩, 34), (⟨"PairDecoderModel", "may", "(II)Z"⟩, 34), (⟨"PairDecoderModel", "firstFree", "()I"⟩, 34), (⟨"PairDecoderModel", "laidSet", "()J"⟩, 34), (⟨"PairDecoderModel", "areEdges", "(J)Z"⟩, 34)]
theorem lw_r3 : ∀ q ∈ lw_privs_3, lw_okq q := List.forall_mem_cons.mpr ⟨lw_p32, List.forall_mem_cons.mpr ⟨lw_p33, List.forall_mem_cons.mpr ⟨lw_p34, List.forall_mem_cons.mpr ⟨lw_p35, List.forall_mem_cons.mpr ⟨lw_p36, List.forall_mem_cons.mpr ⟨lw_p37, List.forall_mem_cons.mpr ⟨lw_p38, List.forall_mem_cons.mpr ⟨lw_p39, fun _ h => absurd h List.not_mem_nil⟩⟩⟩⟩⟩⟩⟩⟩
def lw_privs : List (MethodName × Nat) := lw_privs_1 ++ (lw_privs_2 ++ (lw_privs_3))
def lw_tbl : List Cond := k2_sels lw_privs ++ tables_1
theorem lw_privs_ok : ∀ q ∈ lw_privs, lw_okq q := by
  show ∀ q ∈ lw_privs_1 ++ (lw_privs_2 ++ (lw_privs_3)), lw_okq q
  exact List.forall_mem_append.mpr ⟨lw_r1, List.forall_mem_append.mpr ⟨lw_r2, lw_r3⟩⟩
end
section
def nb_i (b : Bool) : Int32 := if b then nI 1 else nI 0
def nb_l (b : Bool) : Int64 := if b then lN 1 else lN 0
def nb_t (x : Int32) (i : Nat) : Bool := x.toBitVec.getLsbD i
def nb_u (x : Int64) (i : Nat) : Bool := x.toBitVec.getLsbD i
def nb_o (k : Nat) : Int32 := nI 1 <<< (nI k &&& 31)
def nb_p (k : Nat) : Int64 := lN 1 <<< ((nI k).toInt64 &&& 63)
def nb_in (n : Nat) (x : Int32) : Bool := !decide (x < 0) && !decide (nI n ≤ x)
theorem nb_bI_inj {a b : Bool} (h : nb_i a = nb_i b) : a = b := by revert h; cases a <;> cases b <;> decide
theorem nb_bI_0 {b : Bool} (h : nb_i b = 0) : b = false := by revert h; cases b <;> decide
theorem nb_bI_n0 {b : Bool} (h : ¬ nb_i b = 0) : b = true := by revert h; cases b <;> decide
theorem nr_decI {k : Nat} (h : 0 < k) : nI k + (-1) = nI (k - 1) := sb_m1 h
theorem nb_bI_nar (b : Bool) : narrow .boolean (.int (nb_i b)) = .int (nb_i b) := by cases b <;> decide
theorem nb_inI_t {n : Nat} {x : Int32} (h1 : ¬ x < 0) (h2 : ¬ nI n ≤ x) : nb_in n x = true := by simp [nb_in, h1, h2]
theorem nb_inI_f1 {n : Nat} {x : Int32} (h1 : x < 0) : nb_in n x = false := by simp [nb_in, h1]
theorem nb_inI_f2 {n : Nat} {x : Int32} (h2 : nI n ≤ x) : nb_in n x = false := by simp [nb_in, h2]
theorem nb_inI_of {n : Nat} {x : Int32} (hn : n < 2 ^ 31) (h : nb_in n x = true) : ∃ j : Nat, j < n ∧ x = nI j := by
  simp only [nb_in, Bool.and_eq_true, Bool.not_eq_true', decide_eq_false_iff_not] at h
  rcases pk_ix x hn with q | q | q
  · exact absurd q h.1
  · exact absurd q h.2
  · exact q
theorem nb_inI_nI {n k : Nat} (hn : n < 2 ^ 31) (hk : k < 2 ^ 31) : nb_in n (nI k) = decide (k < n) := by
  unfold nb_in
  rw [decide_eq_false (nI_pos hk)]
  by_cases h : k < n
  · rw [decide_eq_true h, decide_eq_false (fun q => Nat.not_le.mpr h ((nI_leI hn hk).mp q))]; rfl
  · rw [decide_eq_false h, decide_eq_true ((nI_leI hn hk).mpr (Nat.not_lt.mp h))]; rfl
theorem nb_bt_sl : ∀ n, n < 32 → ((nI n &&& 31).toBitVec.smod 32).toNat = n := by decide +kernel
theorem nb_lbt_sl : ∀ n, n < 64 → (((nI n).toInt64 &&& 63).toBitVec.smod 64).toNat = n := by decide +kernel
theorem nb_bt_and1 {x : Int32} {k : Nat} (hk : k < 32) : (x >>> (nI k &&& 31)) &&& nI 1 = nb_i (nb_t x k) := by
  apply Int32.toBitVec_inj.mp
  have e : (x >>> (nI k &&& 31)).toBitVec = x.toBitVec.sshiftRight k := by
    rw [Int32.toBitVec_shiftRight]
    show x.toBitVec.sshiftRight ((nI k &&& 31).toBitVec.smod 32).toNat = _
    rw [nb_bt_sl k hk]
  rw [Int32.toBitVec_and, e]
  show _ &&& 1#32 = _
  apply BitVec.eq_of_getLsbD_eq
  intro i hi
  have g : (x.toBitVec.sshiftRight k).getLsbD 0 = x.toBitVec.getLsbD k := by
    rw [BitVec.getLsbD_sshiftRight]; simp [hk]
  rw [BitVec.getLsbD_and]
  by_cases h0 : i = 0
  · subst h0
    rw [g]
    unfold nb_i nb_t
    cases x.toBitVec.getLsbD k <;> decide
  · have h1 : (1#32).getLsbD i = false := by simp [h0]
    rw [h1, Bool.and_false]
    unfold nb_i nb_t
    cases x.toBitVec.getLsbD k
    · show false = (0#32).getLsbD i
      simp
    · show false = (1#32).getLsbD i
      rw [h1]
theorem nb_lbt_and1 {x : Int64} {k : Nat} (hk : k < 64) : (x >>> ((nI k).toInt64 &&& 63)) &&& lN 1 = nb_l (nb_u x k) := by
  apply Int64.toBitVec_inj.mp
  have e : (x >>> ((nI k).toInt64 &&& 63)).toBitVec = x.toBitVec.sshiftRight k := by
    rw [Int64.toBitVec_shiftRight]
    show x.toBitVec.sshiftRight (((nI k).toInt64 &&& 63).toBitVec.smod 64).toNat = _
    rw [nb_lbt_sl k hk]
  rw [Int64.toBitVec_and, e]
  show _ &&& 1#64 = _
  apply BitVec.eq_of_getLsbD_eq
  intro i hi
  have g : (x.toBitVec.sshiftRight k).getLsbD 0 = x.toBitVec.getLsbD k := by
    rw [BitVec.getLsbD_sshiftRight]; simp [hk]
  rw [BitVec.getLsbD_and]
  by_cases h0 : i = 0
  · subst h0
    rw [g]
    unfold nb_l nb_u
    cases x.toBitVec.getLsbD k <;> decide
  · have h1 : (1#64).getLsbD i = false := by simp [h0]
    rw [h1, Bool.and_false]
    unfold nb_l nb_u
    cases x.toBitVec.getLsbD k
    · show false = (0#64).getLsbD i
      simp
    · show false = (1#64).getLsbD i
      rw [h1]
theorem nb_b1_bv {k : Nat} (hk : k < 32) : (nb_o k).toBitVec = BitVec.twoPow 32 k := (by decide +kernel : ∀ k, k < 32 → (nb_o k).toBitVec = BitVec.twoPow 32 k) k hk
theorem nb_lb1_bv {k : Nat} (hk : k < 64) : (nb_p k).toBitVec = BitVec.twoPow 64 k := (by decide +kernel : ∀ k, k < 64 → (nb_p k).toBitVec = BitVec.twoPow 64 k) k hk
theorem nb_bt_ext {x y : Int32} (h : ∀ i, i < 32 → nb_t x i = nb_t y i) : x = y := Int32.toBitVec_inj.mp (BitVec.eq_of_getLsbD_eq (fun i hi => h i hi))
theorem nb_lbt_ext {x y : Int64} (h : ∀ i, i < 64 → nb_u x i = nb_u y i) : x = y := Int64.toBitVec_inj.mp (BitVec.eq_of_getLsbD_eq (fun i hi => h i hi))
theorem nb_bt_or (x y : Int32) (i : Nat) : nb_t (x ||| y) i = (nb_t x i || nb_t y i) := by unfold nb_t; rw [Int32.toBitVec_or, BitVec.getLsbD_or]
theorem nb_bt_and (x y : Int32) (i : Nat) : nb_t (x &&& y) i = (nb_t x i && nb_t y i) := by unfold nb_t; rw [Int32.toBitVec_and, BitVec.getLsbD_and]
theorem nb_bt_xor (x y : Int32) (i : Nat) : nb_t (x ^^^ y) i = (nb_t x i ^^ nb_t y i) := by unfold nb_t; rw [Int32.toBitVec_xor, BitVec.getLsbD_xor]
theorem nb_lbt_or (x y : Int64) (i : Nat) : nb_u (x ||| y) i = (nb_u x i || nb_u y i) := by unfold nb_u; rw [Int64.toBitVec_or, BitVec.getLsbD_or]
theorem nb_lbt_and (x y : Int64) (i : Nat) : nb_u (x &&& y) i = (nb_u x i && nb_u y i) := by unfold nb_u; rw [Int64.toBitVec_and, BitVec.getLsbD_and]
theorem nb_lbt_xor (x y : Int64) (i : Nat) : nb_u (x ^^^ y) i = (nb_u x i ^^ nb_u y i) := by unfold nb_u; rw [Int64.toBitVec_xor, BitVec.getLsbD_xor]
theorem nb_bt_b1 {k i : Nat} (hk : k < 32) : nb_t (nb_o k) i = decide (i = k) := by
  unfold nb_t
  rw [nb_b1_bv hk, BitVec.getLsbD_twoPow]
  by_cases h : i = k
  · subst h; simp [hk]
  · have : k ≠ i := fun q => h q.symm
    simp [h, this]
theorem nb_lbt_lb1 {k i : Nat} (hk : k < 64) : nb_u (nb_p k) i = decide (i = k) := by
  unfold nb_u
  rw [nb_lb1_bv hk, BitVec.getLsbD_twoPow]
  by_cases h : i = k
  · subst h; simp [hk]
  · have : k ≠ i := fun q => h q.symm
    simp [h, this]
theorem nb_bt_0 (i : Nat) : nb_t (nI 0) i = false := BitVec.getLsbD_zero
theorem nb_lbt_0 (i : Nat) : nb_u (lN 0) i = false := BitVec.getLsbD_zero
theorem nb_bt_big {x : Int32} {i : Nat} (h : 32 ≤ i) : nb_t x i = false := BitVec.getLsbD_of_ge _ _ h
theorem nb_lbt_big {x : Int64} {i : Nat} (h : 64 ≤ i) : nb_u x i = false := BitVec.getLsbD_of_ge _ _ h
theorem nb_bt_m1 : ∀ i, i < 32 → nb_t (-1) i = true := by decide +kernel
theorem nb_lbt_m1 : ∀ i, i < 64 → nb_u (-1) i = true := by decide +kernel
section NR
variable {p : Program} {l : Launch} {e : Env} {R : Room} {s : State} {m : MethodId} {args : Array Value} {below : List Frame} {meth : Method} {c : Code} {H : Heap} {locs : List Loc} {cells slots : Nat} {Q : State → Prop} {cc : ByteArray} {pc : Nat} {ls : Array Slot} {rest : List Value}
theorem nr_as {x v : Int32} (h : x = v) (k : W p l e R s m args below meth c H locs cells slots Q (F0 m pc ls (.int v :: rest))) : W p l e R s m args below meth c H locs cells slots Q (F0 m pc ls (.int x :: rest)) := by subst h; exact k
theorem nr_asL {x v : Int64} (h : x = v) (k : W p l e R s m args below meth c H locs cells slots Q (F0 m pc ls (.long v :: rest))) : W p l e R s m args below meth c H locs cells slots Q (F0 m pc ls (.long x :: rest)) := by subst h; exact k
theorem nr_dec {k : Nat} (h : 0 < k) : nI k + Int32.ofInt (-1) = nI (k - 1) := sb_m1 h
theorem nr_iadd (hx : p.tables.exec = Jvm.exec) (hb : c.code = cc) {x y : Nat} (hd : decode cc pc = .ok (.iadd, 1)) (k : W p l e R s m args below meth c H locs cells slots Q (F0 m (pc + 1) ls (.int (nI (x + y)) :: rest))) : W p l e R s m args below meth c H locs cells slots Q (F0 m pc ls (.int (nI y) :: .int (nI x) :: rest)) := lv_iadd hx hb hd (by rw [nI_add]; exact k)
theorem nr_imul (hx : p.tables.exec = Jvm.exec) (hb : c.code = cc) {x y : Nat} (hd : decode cc pc = .ok (.imul, 1)) (k : W p l e R s m args below meth c H locs cells slots Q (F0 m (pc + 1) ls (.int (nI (x * y)) :: rest))) : W p l e R s m args below meth c H locs cells slots Q (F0 m pc ls (.int (nI y) :: .int (nI x) :: rest)) := lv_imul hx hb hd (by rw [pk_mul]; exact k)
theorem nr_ladd (hx : p.tables.exec = Jvm.exec) (hb : c.code = cc) {x y : Nat} (hd : decode cc pc = .ok (.ladd, 1)) (k : W p l e R s m args below meth c H locs cells slots Q (F0 m (pc + 1) ls (.long (lN (x + y)) :: rest))) : W p l e R s m args below meth c H locs cells slots Q (F0 m pc ls (.long (lN y) :: .long (lN x) :: rest)) := lv_ladd hx hb hd (by rw [lN_add]; exact k)
theorem nr_lmul (hx : p.tables.exec = Jvm.exec) (hb : c.code = cc) {x y : Nat} (hd : decode cc pc = .ok (.lmul, 1)) (k : W p l e R s m args below meth c H locs cells slots Q (F0 m (pc + 1) ls (.long (lN (x * y)) :: rest))) : W p l e R s m args below meth c H locs cells slots Q (F0 m pc ls (.long (lN y) :: .long (lN x) :: rest)) := lv_lmul hx hb hd (by rw [lN_mul]; exact k)
theorem nr_isub {x y : Nat} (h : y ≤ x) (hx : p.tables.exec = Jvm.exec) (hb : c.code = cc) (hd : decode cc pc = .ok (.isub, 1)) (k : W p l e R s m args below meth c H locs cells slots Q (F0 m (pc + 1) ls (.int (nI (x - y)) :: rest))) : W p l e R s m args below meth c H locs cells slots Q (F0 m pc ls (.int (nI y) :: .int (nI x) :: rest)) := lv_isub hx hb hd (by rw [pk_sub h]; exact k)
theorem nr_lsub {x y : Nat} (h : y ≤ x) (hx : p.tables.exec = Jvm.exec) (hb : c.code = cc) (hd : decode cc pc = .ok (.lsub, 1)) (k : W p l e R s m args below meth c H locs cells slots Q (F0 m (pc + 1) ls (.long (lN (x - y)) :: rest))) : W p l e R s m args below meth c H locs cells slots Q (F0 m pc ls (.long (lN y) :: .long (lN x) :: rest)) := lv_lsub hx hb hd (by rw [lN_sub h]; exact k)
theorem nr_ldiv {x y : Nat} (h1 : x < 2 ^ 63) (h2 : 0 < y) (h3 : y < 2 ^ 63) (hx : p.tables.exec = Jvm.exec) (hb : c.code = cc) (hd : decode cc pc = .ok (.ldiv, 1)) (k : W p l e R s m args below meth c H locs cells slots Q (F0 m (pc + 1) ls (.long (lN (x / y)) :: rest))) : W p l e R s m args below meth c H locs cells slots Q (F0 m pc ls (.long (lN y) :: .long (lN x) :: rest)) := lv_ldiv hx hb hd (fun q => absurd ((pk_lEQ h3 (by decide)).mp (show lN y = lN 0 from q)) (by omega)) (by rw [pk_lDiv h1 h2 h3]; exact k)
theorem nr_icmp_eq {x y : Nat} (v1 : x < 2 ^ 31) (v2 : y < 2 ^ 31) {off : Int} {tgt : Nat} (hx : p.tables.exec = Jvm.exec) (hb : c.code = cc) (hd : decode cc pc = .ok (.if_icmp .eq off, 3)) (ht : (pc : Int) + off = (tgt : Int)) (kt : x = y → W p l e R s m args below meth c H locs cells slots Q (F0 m tgt ls rest)) (kf : x ≠ y → W p l e R s m args below meth c H locs cells slots Q (F0 m (pc + 3) ls rest)) : W p l e R s m args below meth c H locs cells slots Q (F0 m pc ls (.int (nI y) :: .int (nI x) :: rest)) := lv_icmp_eq hx hb hd ht (fun h => kt ((nI_eq v1 v2).mp h)) (fun h => kf (fun q => h ((nI_eq v1 v2).mpr q)))
theorem nr_icmp_ne {x y : Nat} (v1 : x < 2 ^ 31) (v2 : y < 2 ^ 31) {off : Int} {tgt : Nat} (hx : p.tables.exec = Jvm.exec) (hb : c.code = cc) (hd : decode cc pc = .ok (.if_icmp .ne off, 3)) (ht : (pc : Int) + off = (tgt : Int)) (kt : x ≠ y → W p l e R s m args below meth c H locs cells slots Q (F0 m tgt ls rest)) (kf : x = y → W p l e R s m args below meth c H locs cells slots Q (F0 m (pc + 3) ls rest)) : W p l e R s m args below meth c H locs cells slots Q (F0 m pc ls (.int (nI y) :: .int (nI x) :: rest)) := lv_icmp_ne hx hb hd ht (fun h => kt (fun q => h ((nI_eq v1 v2).mpr q))) (fun h => kf ((nI_eq v1 v2).mp h))
theorem nr_icmp_lt {x y : Nat} (v1 : x < 2 ^ 31) (v2 : y < 2 ^ 31) {off : Int} {tgt : Nat} (hx : p.tables.exec = Jvm.exec) (hb : c.code = cc) (hd : decode cc pc = .ok (.if_icmp .lt off, 3)) (ht : (pc : Int) + off = (tgt : Int)) (kt : x < y → W p l e R s m args below meth c H locs cells slots Q (F0 m tgt ls rest)) (kf : y ≤ x → W p l e R s m args below meth c H locs cells slots Q (F0 m (pc + 3) ls rest)) : W p l e R s m args below meth c H locs cells slots Q (F0 m pc ls (.int (nI y) :: .int (nI x) :: rest)) := lv_icmp_lt hx hb hd ht (fun h => kt ((nI_ltI v1 v2).mp h)) (fun h => kf (Nat.not_lt.mp (fun q => h ((nI_ltI v1 v2).mpr q))))
theorem nr_icmp_ge {x y : Nat} (v1 : x < 2 ^ 31) (v2 : y < 2 ^ 31) {off : Int} {tgt : Nat} (hx : p.tables.exec = Jvm.exec) (hb : c.code = cc) (hd : decode cc pc = .ok (.if_icmp .ge off, 3)) (ht : (pc : Int) + off = (tgt : Int)) (kt : y ≤ x → W p l e R s m args below meth c H locs cells slots Q (F0 m tgt ls rest)) (kf : x < y → W p l e R s m args below meth c H locs cells slots Q (F0 m (pc + 3) ls rest)) : W p l e R s m args below meth c H locs cells slots Q (F0 m pc ls (.int (nI y) :: .int (nI x) :: rest)) := lv_icmp_ge hx hb hd ht (fun h => kt ((nI_leI v2 v1).mp h)) (fun h => kf (Nat.not_le.mp (fun q => h ((nI_leI v2 v1).mpr q))))
theorem nr_icmp_gt {x y : Nat} (v1 : x < 2 ^ 31) (v2 : y < 2 ^ 31) {off : Int} {tgt : Nat} (hx : p.tables.exec = Jvm.exec) (hb : c.code = cc) (hd : decode cc pc = .ok (.if_icmp .gt off, 3)) (ht : (pc : Int) + off = (tgt : Int)) (kt : y < x → W p l e R s m args below meth c H locs cells slots Q (F0 m tgt ls rest)) (kf : x ≤ y → W p l e R s m args below meth c H locs cells slots Q (F0 m (pc + 3) ls rest)) : W p l e R s m args below meth c H locs cells slots Q (F0 m pc ls (.int (nI y) :: .int (nI x) :: rest)) := lv_icmp_gt hx hb hd ht (fun h => kt ((nI_ltI v2 v1).mp h)) (fun h => kf (Nat.not_lt.mp (fun q => h ((nI_ltI v2 v1).mpr q))))
theorem nr_icmp_le {x y : Nat} (v1 : x < 2 ^ 31) (v2 : y < 2 ^ 31) {off : Int} {tgt : Nat} (hx : p.tables.exec = Jvm.exec) (hb : c.code = cc) (hd : decode cc pc = .ok (.if_icmp .le off, 3)) (ht : (pc : Int) + off = (tgt : Int)) (kt : x ≤ y → W p l e R s m args below meth c H locs cells slots Q (F0 m tgt ls rest)) (kf : y < x → W p l e R s m args below meth c H locs cells slots Q (F0 m (pc + 3) ls rest)) : W p l e R s m args below meth c H locs cells slots Q (F0 m pc ls (.int (nI y) :: .int (nI x) :: rest)) := lv_icmp_le hx hb hd ht (fun h => kt ((nI_leI v1 v2).mp h)) (fun h => kf (Nat.not_le.mp (fun q => h ((nI_leI v1 v2).mpr q))))
theorem nr_if_eq {x : Nat} (v1 : x < 2 ^ 31) {off : Int} {tgt : Nat} (hx : p.tables.exec = Jvm.exec) (hb : c.code = cc) (hd : decode cc pc = .ok (.ifCond .eq off, 3)) (ht : (pc : Int) + off = (tgt : Int)) (kt : x = 0 → W p l e R s m args below meth c H locs cells slots Q (F0 m tgt ls rest)) (kf : 0 < x → W p l e R s m args below meth c H locs cells slots Q (F0 m (pc + 3) ls rest)) : W p l e R s m args below meth c H locs cells slots Q (F0 m pc ls (.int (nI x) :: rest)) := lv_if_eq hx hb hd ht (fun h => kt ((nI_eq v1 (by decide)).mp (show nI x = nI 0 from h))) (fun h => kf (Nat.pos_of_ne_zero (fun q => h (show nI x = nI 0 by rw [q]))))
theorem nr_if_ne {x : Nat} (v1 : x < 2 ^ 31) {off : Int} {tgt : Nat} (hx : p.tables.exec = Jvm.exec) (hb : c.code = cc) (hd : decode cc pc = .ok (.ifCond .ne off, 3)) (ht : (pc : Int) + off = (tgt : Int)) (kt : 0 < x → W p l e R s m args below meth c H locs cells slots Q (F0 m tgt ls rest)) (kf : x = 0 → W p l e R s m args below meth c H locs cells slots Q (F0 m (pc + 3) ls rest)) : W p l e R s m args below meth c H locs cells slots Q (F0 m pc ls (.int (nI x) :: rest)) := lv_if_ne hx hb hd ht (fun h => kt (Nat.pos_of_ne_zero (fun q => h (show nI x = nI 0 by rw [q])))) (fun h => kf ((nI_eq v1 (by decide)).mp (show nI x = nI 0 from h)))
theorem nr_if_lt {x : Nat} (v1 : x < 2 ^ 31) {off : Int} {tgt : Nat} (hx : p.tables.exec = Jvm.exec) (hb : c.code = cc) (hd : decode cc pc = .ok (.ifCond .lt off, 3)) (ht : (pc : Int) + off = (tgt : Int)) (kt : False → W p l e R s m args below meth c H locs cells slots Q (F0 m tgt ls rest)) (kf : True → W p l e R s m args below meth c H locs cells slots Q (F0 m (pc + 3) ls rest)) : W p l e R s m args below meth c H locs cells slots Q (F0 m pc ls (.int (nI x) :: rest)) := lv_if_lt hx hb hd ht (fun h => absurd h (nI_pos v1)) (fun _ => kf trivial)
theorem nr_if_ge {x : Nat} (v1 : x < 2 ^ 31) {off : Int} {tgt : Nat} (hx : p.tables.exec = Jvm.exec) (hb : c.code = cc) (hd : decode cc pc = .ok (.ifCond .ge off, 3)) (ht : (pc : Int) + off = (tgt : Int)) (kt : True → W p l e R s m args below meth c H locs cells slots Q (F0 m tgt ls rest)) (kf : False → W p l e R s m args below meth c H locs cells slots Q (F0 m (pc + 3) ls rest)) : W p l e R s m args below meth c H locs cells slots Q (F0 m pc ls (.int (nI x) :: rest)) := lv_if_ge hx hb hd ht (fun _ => kt trivial) (fun h => absurd (nI_pos' v1) h)
theorem nr_if_gt {x : Nat} (v1 : x < 2 ^ 31) {off : Int} {tgt : Nat} (hx : p.tables.exec = Jvm.exec) (hb : c.code = cc) (hd : decode cc pc = .ok (.ifCond .gt off, 3)) (ht : (pc : Int) + off = (tgt : Int)) (kt : 0 < x → W p l e R s m args below meth c H locs cells slots Q (F0 m tgt ls rest)) (kf : x = 0 → W p l e R s m args below meth c H locs cells slots Q (F0 m (pc + 3) ls rest)) : W p l e R s m args below meth c H locs cells slots Q (F0 m pc ls (.int (nI x) :: rest)) := lv_if_gt hx hb hd ht (fun h => kt ((nI_ltI (by decide) v1).mp (show nI 0 < nI x from h))) (fun h => kf (Nat.eq_zero_of_not_pos (fun q => h (show nI 0 < nI x from (nI_ltI (by decide) v1).mpr q))))
theorem nr_if_le {x : Nat} (v1 : x < 2 ^ 31) {off : Int} {tgt : Nat} (hx : p.tables.exec = Jvm.exec) (hb : c.code = cc) (hd : decode cc pc = .ok (.ifCond .le off, 3)) (ht : (pc : Int) + off = (tgt : Int)) (kt : x = 0 → W p l e R s m args below meth c H locs cells slots Q (F0 m tgt ls rest)) (kf : 0 < x → W p l e R s m args below meth c H locs cells slots Q (F0 m (pc + 3) ls rest)) : W p l e R s m args below meth c H locs cells slots Q (F0 m pc ls (.int (nI x) :: rest)) := lv_if_le hx hb hd ht (fun h => kt (Nat.le_zero.mp ((nI_leI v1 (by decide)).mp (show nI x ≤ nI 0 from h)))) (fun h => kf (Nat.pos_of_ne_zero (fun q => h (show nI x ≤ nI 0 from (nI_leI v1 (by decide)).mpr (Nat.le_of_eq q)))))
theorem nr_ifeqB {b : Bool} {off : Int} {tgt : Nat} (hx : p.tables.exec = Jvm.exec) (hb : c.code = cc) (hd : decode cc pc = .ok (.ifCond .eq off, 3)) (ht : (pc : Int) + off = (tgt : Int)) (kt : b = false → W p l e R s m args below meth c H locs cells slots Q (F0 m tgt ls rest)) (kf : b = true → W p l e R s m args below meth c H locs cells slots Q (F0 m (pc + 3) ls rest)) : W p l e R s m args below meth c H locs cells slots Q (F0 m pc ls (.int (nb_i b) :: rest)) := lv_if_eq hx hb hd ht (fun h => kt (nb_bI_0 h)) (fun h => kf (nb_bI_n0 h))
theorem nr_ifneB {b : Bool} {off : Int} {tgt : Nat} (hx : p.tables.exec = Jvm.exec) (hb : c.code = cc) (hd : decode cc pc = .ok (.ifCond .ne off, 3)) (ht : (pc : Int) + off = (tgt : Int)) (kt : b = true → W p l e R s m args below meth c H locs cells slots Q (F0 m tgt ls rest)) (kf : b = false → W p l e R s m args below meth c H locs cells slots Q (F0 m (pc + 3) ls rest)) : W p l e R s m args below meth c H locs cells slots Q (F0 m pc ls (.int (nb_i b) :: rest)) := lv_if_ne hx hb hd ht (fun h => kt (nb_bI_n0 h)) (fun h => kf (nb_bI_0 h))
theorem nr_icmpeqB1 {b : Bool} {off : Int} {tgt : Nat} (hx : p.tables.exec = Jvm.exec) (hb : c.code = cc) (hd : decode cc pc = .ok (.if_icmp .eq off, 3)) (ht : (pc : Int) + off = (tgt : Int)) (kt : b = true → W p l e R s m args below meth c H locs cells slots Q (F0 m tgt ls rest)) (kf : b = false → W p l e R s m args below meth c H locs cells slots Q (F0 m (pc + 3) ls rest)) : W p l e R s m args below meth c H locs cells slots Q (F0 m pc ls (.int (nI 1) :: .int (nb_i b) :: rest)) := lv_icmp_eq hx hb hd ht (fun h => kt (by revert h; cases b <;> decide)) (fun h => kf (by revert h; cases b <;> decide))
theorem nr_icmpneB1 {b : Bool} {off : Int} {tgt : Nat} (hx : p.tables.exec = Jvm.exec) (hb : c.code = cc) (hd : decode cc pc = .ok (.if_icmp .ne off, 3)) (ht : (pc : Int) + off = (tgt : Int)) (kt : b = false → W p l e R s m args below meth c H locs cells slots Q (F0 m tgt ls rest)) (kf : b = true → W p l e R s m args below meth c H locs cells slots Q (F0 m (pc + 3) ls rest)) : W p l e R s m args below meth c H locs cells slots Q (F0 m pc ls (.int (nI 1) :: .int (nb_i b) :: rest)) := lv_icmp_ne hx hb hd ht (fun h => kt (by revert h; cases b <;> decide)) (fun h => kf (by revert h; cases b <;> decide))
theorem nr_icmpeqB0 {b : Bool} {off : Int} {tgt : Nat} (hx : p.tables.exec = Jvm.exec) (hb : c.code = cc) (hd : decode cc pc = .ok (.if_icmp .eq off, 3)) (ht : (pc : Int) + off = (tgt : Int)) (kt : b = false → W p l e R s m args below meth c H locs cells slots Q (F0 m tgt ls rest)) (kf : b = true → W p l e R s m args below meth c H locs cells slots Q (F0 m (pc + 3) ls rest)) : W p l e R s m args below meth c H locs cells slots Q (F0 m pc ls (.int (nI 0) :: .int (nb_i b) :: rest)) := lv_icmp_eq hx hb hd ht (fun h => kt (by revert h; cases b <;> decide)) (fun h => kf (by revert h; cases b <;> decide))
theorem nr_icmpneB0 {b : Bool} {off : Int} {tgt : Nat} (hx : p.tables.exec = Jvm.exec) (hb : c.code = cc) (hd : decode cc pc = .ok (.if_icmp .ne off, 3)) (ht : (pc : Int) + off = (tgt : Int)) (kt : b = true → W p l e R s m args below meth c H locs cells slots Q (F0 m tgt ls rest)) (kf : b = false → W p l e R s m args below meth c H locs cells slots Q (F0 m (pc + 3) ls rest)) : W p l e R s m args below meth c H locs cells slots Q (F0 m pc ls (.int (nI 0) :: .int (nb_i b) :: rest)) := lv_icmp_ne hx hb hd ht (fun h => kt (by revert h; cases b <;> decide)) (fun h => kf (by revert h; cases b <;> decide))
theorem nr_lifeqB {b : Bool} {off : Int} {tgt : Nat} (hx : p.tables.exec = Jvm.exec) (hb : c.code = cc) (hd : decode cc pc = .ok (.ifCond .eq off, 3)) (ht : (pc : Int) + off = (tgt : Int)) (kt : b = true → W p l e R s m args below meth c H locs cells slots Q (F0 m tgt ls rest)) (kf : b = false → W p l e R s m args below meth c H locs cells slots Q (F0 m (pc + 3) ls rest)) : W p l e R s m args below meth c H locs cells slots Q (F0 m pc ls (.int (lg_cmp (nb_l b) (lN 1)) :: rest)) := lv_if_eq hx hb hd ht (fun h => kt (by revert h; cases b <;> decide)) (fun h => kf (by revert h; cases b <;> decide))
theorem nr_lifneB {b : Bool} {off : Int} {tgt : Nat} (hx : p.tables.exec = Jvm.exec) (hb : c.code = cc) (hd : decode cc pc = .ok (.ifCond .ne off, 3)) (ht : (pc : Int) + off = (tgt : Int)) (kt : b = false → W p l e R s m args below meth c H locs cells slots Q (F0 m tgt ls rest)) (kf : b = true → W p l e R s m args below meth c H locs cells slots Q (F0 m (pc + 3) ls rest)) : W p l e R s m args below meth c H locs cells slots Q (F0 m pc ls (.int (lg_cmp (nb_l b) (lN 1)) :: rest)) := lv_if_ne hx hb hd ht (fun h => kt (by revert h; cases b <;> decide)) (fun h => kf (by revert h; cases b <;> decide))
theorem nr_lraw_eq {x y : Int64} {off : Int} {tgt : Nat} (hx : p.tables.exec = Jvm.exec) (hb : c.code = cc) (hd : decode cc pc = .ok (.ifCond .eq off, 3)) (ht : (pc : Int) + off = (tgt : Int)) (kt : x = y → W p l e R s m args below meth c H locs cells slots Q (F0 m tgt ls rest)) (kf : x ≠ y → W p l e R s m args below meth c H locs cells slots Q (F0 m (pc + 3) ls rest)) : W p l e R s m args below meth c H locs cells slots Q (F0 m pc ls (.int (lg_cmp x y) :: rest)) := lv_if_eq hx hb hd ht (fun h => kt ((lg_cmp_eq x y).mp h)) (fun h => kf (fun q => h ((lg_cmp_eq x y).mpr q)))
theorem nr_lraw_ne {x y : Int64} {off : Int} {tgt : Nat} (hx : p.tables.exec = Jvm.exec) (hb : c.code = cc) (hd : decode cc pc = .ok (.ifCond .ne off, 3)) (ht : (pc : Int) + off = (tgt : Int)) (kt : x ≠ y → W p l e R s m args below meth c H locs cells slots Q (F0 m tgt ls rest)) (kf : x = y → W p l e R s m args below meth c H locs cells slots Q (F0 m (pc + 3) ls rest)) : W p l e R s m args below meth c H locs cells slots Q (F0 m pc ls (.int (lg_cmp x y) :: rest)) := lv_if_ne hx hb hd ht (fun h => kt (fun q => h ((lg_cmp_eq x y).mpr q))) (fun h => kf ((lg_cmp_eq x y).mp h))
theorem nr_lraw_lt {x y : Int64} {off : Int} {tgt : Nat} (hx : p.tables.exec = Jvm.exec) (hb : c.code = cc) (hd : decode cc pc = .ok (.ifCond .lt off, 3)) (ht : (pc : Int) + off = (tgt : Int)) (kt : x < y → W p l e R s m args below meth c H locs cells slots Q (F0 m tgt ls rest)) (kf : ¬ x < y → W p l e R s m args below meth c H locs cells slots Q (F0 m (pc + 3) ls rest)) : W p l e R s m args below meth c H locs cells slots Q (F0 m pc ls (.int (lg_cmp x y) :: rest)) := lv_if_lt hx hb hd ht (fun h => kt ((lg_cmp_lt x y).mp h)) (fun h => kf (fun q => h ((lg_cmp_lt x y).mpr q)))
theorem nr_lraw_ge {x y : Int64} {off : Int} {tgt : Nat} (hx : p.tables.exec = Jvm.exec) (hb : c.code = cc) (hd : decode cc pc = .ok (.ifCond .ge off, 3)) (ht : (pc : Int) + off = (tgt : Int)) (kt : y ≤ x → W p l e R s m args below meth c H locs cells slots Q (F0 m tgt ls rest)) (kf : ¬ y ≤ x → W p l e R s m args below meth c H locs cells slots Q (F0 m (pc + 3) ls rest)) : W p l e R s m args below meth c H locs cells slots Q (F0 m pc ls (.int (lg_cmp x y) :: rest)) := lv_if_ge hx hb hd ht (fun h => kt ((lg_cmp_ge x y).mp h)) (fun h => kf (fun q => h ((lg_cmp_ge x y).mpr q)))
theorem nr_lraw_gt {x y : Int64} {off : Int} {tgt : Nat} (hx : p.tables.exec = Jvm.exec) (hb : c.code = cc) (hd : decode cc pc = .ok (.ifCond .gt off, 3)) (ht : (pc : Int) + off = (tgt : Int)) (kt : y < x → W p l e R s m args below meth c H locs cells slots Q (F0 m tgt ls rest)) (kf : ¬ y < x → W p l e R s m args below meth c H locs cells slots Q (F0 m (pc + 3) ls rest)) : W p l e R s m args below meth c H locs cells slots Q (F0 m pc ls (.int (lg_cmp x y) :: rest)) := lv_if_gt hx hb hd ht (fun h => kt ((lg_cmp_gt x y).mp h)) (fun h => kf (fun q => h ((lg_cmp_gt x y).mpr q)))
theorem nr_lraw_le {x y : Int64} {off : Int} {tgt : Nat} (hx : p.tables.exec = Jvm.exec) (hb : c.code = cc) (hd : decode cc pc = .ok (.ifCond .le off, 3)) (ht : (pc : Int) + off = (tgt : Int)) (kt : x ≤ y → W p l e R s m args below meth c H locs cells slots Q (F0 m tgt ls rest)) (kf : ¬ x ≤ y → W p l e R s m args below meth c H locs cells slots Q (F0 m (pc + 3) ls rest)) : W p l e R s m args below meth c H locs cells slots Q (F0 m pc ls (.int (lg_cmp x y) :: rest)) := lv_if_le hx hb hd ht (fun h => kt ((lg_cmp_le x y).mp h)) (fun h => kf (fun q => h ((lg_cmp_le x y).mpr q)))
theorem nr_lif_eq {x y : Nat} (v1 : x < 2 ^ 63) (v2 : y < 2 ^ 63) {off : Int} {tgt : Nat} (hx : p.tables.exec = Jvm.exec) (hb : c.code = cc) (hd : decode cc pc = .ok (.ifCond .eq off, 3)) (ht : (pc : Int) + off = (tgt : Int)) (kt : x = y → W p l e R s m args below meth c H locs cells slots Q (F0 m tgt ls rest)) (kf : x ≠ y → W p l e R s m args below meth c H locs cells slots Q (F0 m (pc + 3) ls rest)) : W p l e R s m args below meth c H locs cells slots Q (F0 m pc ls (.int (lg_cmp (lN x) (lN y)) :: rest)) := nr_lraw_eq hx hb hd ht (fun h => kt ((pk_lEQ v1 v2).mp h)) (fun h => kf (fun q => h ((pk_lEQ v1 v2).mpr q)))
theorem nr_lif_ne {x y : Nat} (v1 : x < 2 ^ 63) (v2 : y < 2 ^ 63) {off : Int} {tgt : Nat} (hx : p.tables.exec = Jvm.exec) (hb : c.code = cc) (hd : decode cc pc = .ok (.ifCond .ne off, 3)) (ht : (pc : Int) + off = (tgt : Int)) (kt : x ≠ y → W p l e R s m args below meth c H locs cells slots Q (F0 m tgt ls rest)) (kf : x = y → W p l e R s m args below meth c H locs cells slots Q (F0 m (pc + 3) ls rest)) : W p l e R s m args below meth c H locs cells slots Q (F0 m pc ls (.int (lg_cmp (lN x) (lN y)) :: rest)) := nr_lraw_ne hx hb hd ht (fun h => kt (fun q => h ((pk_lEQ v1 v2).mpr q))) (fun h => kf ((pk_lEQ v1 v2).mp h))
theorem nr_lif_lt {x y : Nat} (v1 : x < 2 ^ 63) (v2 : y < 2 ^ 63) {off : Int} {tgt : Nat} (hx : p.tables.exec = Jvm.exec) (hb : c.code = cc) (hd : decode cc pc = .ok (.ifCond .lt off, 3)) (ht : (pc : Int) + off = (tgt : Int)) (kt : x < y → W p l e R s m args below meth c H locs cells slots Q (F0 m tgt ls rest)) (kf : y ≤ x → W p l e R s m args below meth c H locs cells slots Q (F0 m (pc + 3) ls rest)) : W p l e R s m args below meth c H locs cells slots Q (F0 m pc ls (.int (lg_cmp (lN x) (lN y)) :: rest)) := nr_lraw_lt hx hb hd ht (fun h => kt ((pk_lLT v1 v2).mp h)) (fun h => kf (Nat.not_lt.mp (fun q => h ((pk_lLT v1 v2).mpr q))))
theorem nr_lif_ge {x y : Nat} (v1 : x < 2 ^ 63) (v2 : y < 2 ^ 63) {off : Int} {tgt : Nat} (hx : p.tables.exec = Jvm.exec) (hb : c.code = cc) (hd : decode cc pc = .ok (.ifCond .ge off, 3)) (ht : (pc : Int) + off = (tgt : Int)) (kt : y ≤ x → W p l e R s m args below meth c H locs cells slots Q (F0 m tgt ls rest)) (kf : x < y → W p l e R s m args below meth c H locs cells slots Q (F0 m (pc + 3) ls rest)) : W p l e R s m args below meth c H locs cells slots Q (F0 m pc ls (.int (lg_cmp (lN x) (lN y)) :: rest)) := nr_lraw_ge hx hb hd ht (fun h => kt ((pk_lLE v2 v1).mp h)) (fun h => kf (Nat.not_le.mp (fun q => h ((pk_lLE v2 v1).mpr q))))
theorem nr_lif_gt {x y : Nat} (v1 : x < 2 ^ 63) (v2 : y < 2 ^ 63) {off : Int} {tgt : Nat} (hx : p.tables.exec = Jvm.exec) (hb : c.code = cc) (hd : decode cc pc = .ok (.ifCond .gt off, 3)) (ht : (pc : Int) + off = (tgt : Int)) (kt : y < x → W p l e R s m args below meth c H locs cells slots Q (F0 m tgt ls rest)) (kf : x ≤ y → W p l e R s m args below meth c H locs cells slots Q (F0 m (pc + 3) ls rest)) : W p l e R s m args below meth c H locs cells slots Q (F0 m pc ls (.int (lg_cmp (lN x) (lN y)) :: rest)) := nr_lraw_gt hx hb hd ht (fun h => kt ((pk_lLT v2 v1).mp h)) (fun h => kf (Nat.not_lt.mp (fun q => h ((pk_lLT v2 v1).mpr q))))
theorem nr_lif_le {x y : Nat} (v1 : x < 2 ^ 63) (v2 : y < 2 ^ 63) {off : Int} {tgt : Nat} (hx : p.tables.exec = Jvm.exec) (hb : c.code = cc) (hd : decode cc pc = .ok (.ifCond .le off, 3)) (ht : (pc : Int) + off = (tgt : Int)) (kt : x ≤ y → W p l e R s m args below meth c H locs cells slots Q (F0 m tgt ls rest)) (kf : y < x → W p l e R s m args below meth c H locs cells slots Q (F0 m (pc + 3) ls rest)) : W p l e R s m args below meth c H locs cells slots Q (F0 m pc ls (.int (lg_cmp (lN x) (lN y)) :: rest)) := nr_lraw_le hx hb hd ht (fun h => kt ((pk_lLE v1 v2).mp h)) (fun h => kf (Nat.not_le.mp (fun q => h ((pk_lLE v1 v2).mpr q))))
variable {D : va_G} {cl : List vw_C} {A : Nat → Prop} {a : Nat} {tys : List (ClassId × FieldType)} {ws : va_W} {H0 : Heap}
theorem nr_iald (hx : p.tables.exec = Jvm.exec) (hb : c.code = cc) (hK : va_K D cl tys s) (hP : va_P D cl ws H) (q0 t0 : Nat) {cA : ClassId} {n : Nat} {f : Nat → Nat} (ha : ws[q0]? = some (a, .inl (cA, n, .inl (fun k => nI (f k))))) (ht : tys[t0]? = some (cA, .int)) {i : Nat} (hi : i < n) (hn : n < 2 ^ 31) (hd : decode cc pc = .ok (.iaload, 1)) (k : W p l e R s m args below meth c H locs cells slots Q (F0 m (pc + 1) ls (.int (nI (f i)) :: rest))) : W p l e R s m args below meth c H locs cells slots Q (F0 m pc ls (.int (nI i) :: .ref a :: rest)) := va_iald hx hb hK hP q0 t0 ha ht (vp_in_nI hi hn) hd (by rw [nI_clamp (Nat.lt_trans hi hn)]; exact k)
theorem nr_iraw (hx : p.tables.exec = Jvm.exec) (hb : c.code = cc) (hK : va_K D cl tys s) (hP : va_P D cl ws H) (q0 t0 : Nat) {cA : ClassId} {n : Nat} {f : Nat → Int32} (ha : ws[q0]? = some (a, .inl (cA, n, .inl f))) (ht : tys[t0]? = some (cA, .int)) {i : Nat} (hi : i < n) (hn : n < 2 ^ 31) (hd : decode cc pc = .ok (.iaload, 1)) (k : W p l e R s m args below meth c H locs cells slots Q (F0 m (pc + 1) ls (.int (f i) :: rest))) : W p l e R s m args below meth c H locs cells slots Q (F0 m pc ls (.int (nI i) :: .ref a :: rest)) := va_iald hx hb hK hP q0 t0 ha ht (vp_in_nI hi hn) hd (by rw [nI_clamp (Nat.lt_trans hi hn)]; exact k)
theorem nr_lald (hx : p.tables.exec = Jvm.exec) (hb : c.code = cc) (hK : va_K D cl tys s) (hP : va_P D cl ws H) (q0 t0 : Nat) {cA : ClassId} {n : Nat} {f : Nat → Nat} (ha : ws[q0]? = some (a, .inl (cA, n, .inr (.inl (fun k => lN (f k)))))) (ht : tys[t0]? = some (cA, .long)) {i : Nat} (hi : i < n) (hn : n < 2 ^ 31) (hd : decode cc pc = .ok (.laload, 1)) (k : W p l e R s m args below meth c H locs cells slots Q (F0 m (pc + 1) ls (.long (lN (f i)) :: rest))) : W p l e R s m args below meth c H locs cells slots Q (F0 m pc ls (.int (nI i) :: .ref a :: rest)) := va_lald hx hb hK hP q0 t0 ha ht (vp_in_nI hi hn) hd (by rw [nI_clamp (Nat.lt_trans hi hn)]; exact k)
theorem nr_lrawA (hx : p.tables.exec = Jvm.exec) (hb : c.code = cc) (hK : va_K D cl tys s) (hP : va_P D cl ws H) (q0 t0 : Nat) {cA : ClassId} {n : Nat} {f : Nat → Int64} (ha : ws[q0]? = some (a, .inl (cA, n, .inr (.inl f)))) (ht : tys[t0]? = some (cA, .long)) {i : Nat} (hi : i < n) (hn : n < 2 ^ 31) (hd : decode cc pc = .ok (.laload, 1)) (k : W p l e R s m args below meth c H locs cells slots Q (F0 m (pc + 1) ls (.long (f i) :: rest))) : W p l e R s m args below meth c H locs cells slots Q (F0 m pc ls (.int (nI i) :: .ref a :: rest)) := va_lald hx hb hK hP q0 t0 ha ht (vp_in_nI hi hn) hd (by rw [nI_clamp (Nat.lt_trans hi hn)]; exact k)
theorem nr_upN (f : Nat → Nat) (i x : Nat) : upd (fun k => nI (f k)) i (nI x) = fun k => nI (va_up f i x k) := by funext j; unfold upd va_up; by_cases h : j = i <;> simp [h]
theorem nr_upI (f : Nat → Int32) (i : Nat) (x : Int32) : upd f i x = va_up f i x := rfl
theorem nr_upL (f : Nat → Nat) (i x : Nat) : vp_updL (fun k => lN (f k)) i (lN x) = fun k => lN (va_up f i x k) := by funext j; unfold vp_updL va_up; by_cases h : j = i <;> simp [h]
theorem nr_iast (hx : p.tables.exec = Jvm.exec) (hb : c.code = cc) (hK : va_K D cl tys s) (hP : va_P D cl ws H) (hD : va_D A ws) (hS : va_S A H0 H locs) (q0 t0 : Nat) {cA : ClassId} {n : Nat} {f : Nat → Nat} (ha : ws[q0]? = some (a, .inl (cA, n, .inl (fun k => nI (f k))))) (ht : tys[t0]? = some (cA, .int)) {i : Nat} {x : Nat} (hi : i < n) (hn : n < 2 ^ 31) (hd : decode cc pc = .ok (.iastore, 1)) (kk : ∀ (H1 : Heap) (locs1 : List Loc), va_P D cl (ws.set q0 (a, .inl (cA, n, .inl (fun k => nI (va_up f i x k))))) H1 → va_D A (ws.set q0 (a, .inl (cA, n, .inl (fun k => nI (va_up f i x k))))) → va_S A H0 H1 locs1 → W p l e R s m args below meth c H1 locs1 cells slots Q (F0 m (pc + 1) ls rest)) : W p l e R s m args below meth c H locs cells slots Q (F0 m pc ls (.int (nI x) :: .int (nI i) :: .ref a :: rest)) := va_iast hx hb hK hP hD hS q0 t0 ha ht (vp_in_nI hi hn) hd (fun H1 locs1 h1 h2 h3 => by rw [nI_clamp (Nat.lt_trans hi hn), nr_upN] at h1 h2; exact kk H1 locs1 h1 h2 h3)
theorem nr_iastR (hx : p.tables.exec = Jvm.exec) (hb : c.code = cc) (hK : va_K D cl tys s) (hP : va_P D cl ws H) (hD : va_D A ws) (hS : va_S A H0 H locs) (q0 t0 : Nat) {cA : ClassId} {n : Nat} {f : Nat → Int32} (ha : ws[q0]? = some (a, .inl (cA, n, .inl f))) (ht : tys[t0]? = some (cA, .int)) {i : Nat} {x : Int32} (hi : i < n) (hn : n < 2 ^ 31) (hd : decode cc pc = .ok (.iastore, 1)) (kk : ∀ (H1 : Heap) (locs1 : List Loc), va_P D cl (ws.set q0 (a, .inl (cA, n, .inl (va_up f i x)))) H1 → va_D A (ws.set q0 (a, .inl (cA, n, .inl (va_up f i x)))) → va_S A H0 H1 locs1 → W p l e R s m args below meth c H1 locs1 cells slots Q (F0 m (pc + 1) ls rest)) : W p l e R s m args below meth c H locs cells slots Q (F0 m pc ls (.int (x) :: .int (nI i) :: .ref a :: rest)) := va_iast hx hb hK hP hD hS q0 t0 ha ht (vp_in_nI hi hn) hd (fun H1 locs1 h1 h2 h3 => by rw [nI_clamp (Nat.lt_trans hi hn), nr_upI] at h1 h2; exact kk H1 locs1 h1 h2 h3)
theorem nr_last (hx : p.tables.exec = Jvm.exec) (hb : c.code = cc) (hK : va_K D cl tys s) (hP : va_P D cl ws H) (hD : va_D A ws) (hS : va_S A H0 H locs) (q0 t0 : Nat) {cA : ClassId} {n : Nat} {f : Nat → Nat} (ha : ws[q0]? = some (a, .inl (cA, n, .inr (.inl (fun k => lN (f k)))))) (ht : tys[t0]? = some (cA, .long)) {i : Nat} {x : Nat} (hi : i < n) (hn : n < 2 ^ 31) (hd : decode cc pc = .ok (.lastore, 1)) (kk : ∀ (H1 : Heap) (locs1 : List Loc), va_P D cl (ws.set q0 (a, .inl (cA, n, .inr (.inl (fun k => lN (va_up f i x k)))))) H1 → va_D A (ws.set q0 (a, .inl (cA, n, .inr (.inl (fun k => lN (va_up f i x k)))))) → va_S A H0 H1 locs1 → W p l e R s m args below meth c H1 locs1 cells slots Q (F0 m (pc + 1) ls rest)) : W p l e R s m args below meth c H locs cells slots Q (F0 m pc ls (.long (lN x) :: .int (nI i) :: .ref a :: rest)) := va_last hx hb hK hP hD hS q0 t0 ha ht (vp_in_nI hi hn) hd (fun H1 locs1 h1 h2 h3 => by rw [nI_clamp (Nat.lt_trans hi hn), nr_upL] at h1 h2; exact kk H1 locs1 h1 h2 h3)
end NR
end
section
/-- a method that changes no cell: its start, its end -/
def ro_A : Nat → Prop := fun _ => False
def ro_B (D : va_G) (cl : List vw_C) (tys : List (ClassId × FieldType)) (ws : va_W) (U : State) : Prop := va_P D cl ws U.heap ∧ va_K D cl tys U
def ro_Qi (v : Int32) : Array Value → State → Outcome → State → Prop := va_Qi (fun r (_ : Unit) => r = v) (fun _ _ => True) ro_A
def ro_Ql (v : Int64) : Array Value → State → Outcome → State → Prop := va_Ql (fun r (_ : Unit) => r = v) (fun _ _ => True) ro_A
theorem ro_blind {D : va_G} {cl : List vw_C} {tys : List (ClassId × FieldType)} {ws : va_W} {av : List Value} : FrameBlind (va_Pc av (ro_B D cl tys ws)) := fun a U g mk q => ⟨q.1, q.2.1, va_K.moved (u := U) (U := U.calling g mk a) (Vm.Alike.refl U.vm) q.2.2⟩
/-- a method that changes its own cells alone, and makes none -/
def rw_A (ws : va_W) : Nat → Prop := fun q => ∃ (k : Nat) (e : va_E), ws[k]? = some (q, e)
def rw_B (D : va_G) (cl : List vw_C) (tys : List (ClassId × FieldType)) (ws : va_W) (U : State) : Prop := va_P D cl ws U.heap ∧ va_K D cl tys U ∧ va_D (fun _ => True) ws
def rw_Qv {S : Type} (D : va_G) (cl : List vw_C) (A : Nat → Prop) (post : S → Prop) (W1 : S → va_W) : Array Value → State → Outcome → State → Prop := va_Qv post (fun u t => va_P D cl (W1 u) t.heap) A
def rw_Qi {S : Type} (D : va_G) (cl : List vw_C) (A : Nat → Prop) (post : Int32 → S → Prop) (W1 : S → va_W) : Array Value → State → Outcome → State → Prop := va_Qi post (fun u t => va_P D cl (W1 u) t.heap) A
def rw_Ql {S : Type} (D : va_G) (cl : List vw_C) (A : Nat → Prop) (post : Int64 → S → Prop) (W1 : S → va_W) : Array Value → State → Outcome → State → Prop := va_Ql post (fun u t => va_P D cl (W1 u) t.heap) A
theorem rw_blind {D : va_G} {cl : List vw_C} {tys : List (ClassId × FieldType)} {ws : va_W} {av : List Value} : FrameBlind (va_Pc av (rw_B D cl tys ws)) := fun a U g mk q => ⟨q.1, q.2.1, va_K.moved (u := U) (U := U.calling g mk a) (Vm.Alike.refl U.vm) q.2.2.1, q.2.2.2⟩
theorem rw_own {A : Nat → Prop} {ws : va_W} (h : va_D A ws) : va_D (rw_A ws) ws := ⟨h.1, fun k q hk => ⟨k, q.2, hk⟩⟩
theorem rw_re {A : Nat → Prop} {ws ws' : va_W} (h : va_D A ws) (e : ws'.map (fun q => q.1) = ws.map (fun q => q.1)) : va_D A ws' := by
  have at' : ∀ (k : Nat) (q : Nat × va_E), ws'[k]? = some q → ∃ q2, ws[k]? = some q2 ∧ q2.1 = q.1 := by
    intro k q hk
    have h1 : (ws'.map (fun q => q.1))[k]? = some q.1 := by rw [List.getElem?_map, hk]; rfl
    rw [e, List.getElem?_map] at h1
    cases h2 : ws[k]? with
    | none => rw [h2] at h1; cases h1
    | some q2 => rw [h2] at h1; exact ⟨q2, rfl, Option.some.inj h1⟩
  refine ⟨fun i j p q hi hj hpq => ?_, fun k q hk => ?_⟩
  · obtain ⟨p2, h1, h2⟩ := at' i p hi
    obtain ⟨q2, h3, h4⟩ := at' j q hj
    exact h.1 i j p2 q2 h1 h3 (by rw [h2, h4]; exact hpq)
  · obtain ⟨q2, h1, h2⟩ := at' k q hk
    rw [← h2]
    exact h.2 k q2 h1
theorem rw_at {ws w : va_W} {is : List Nat} (hs : is.map (fun i => ws[i]?) = w.map some) (k : Nat) (q : Nat × va_E) (hq : w[k]? = some q) : ∃ i, is[k]? = some i ∧ ws[i]? = some q := by
  have h1 : (is.map (fun i => ws[i]?))[k]? = some (some q) := by rw [hs, List.getElem?_map, hq]; rfl
  rw [List.getElem?_map] at h1
  cases hi : is[k]? with
  | none => rw [hi] at h1; cases h1
  | some i => rw [hi] at h1; exact ⟨i, rfl, Option.some.inj h1⟩
theorem rw_free {A0 : Nat → Prop} {ws wc : va_W} (hD : va_D A0 ws) {isC : List Nat} (hC : isC.map (fun i => ws[i]?) = wc.map some) : ∀ q, rw_A wc q → A0 q := by
  intro q h
  obtain ⟨k, e, h⟩ := h
  obtain ⟨i, -, h2⟩ := rw_at hC k (q, e) h
  exact hD.2 i (q, e) h2
theorem rw_join {A0 : Nat → Prop} {D : va_G} {cl : List vw_C} {ws wc wr w1 : va_W} {H H1 : Heap} (hP : va_P D cl ws H) (hD : va_D A0 ws) {isC isR : List Nat} (hC : isC.map (fun i => ws[i]?) = wc.map some) (hR : isR.map (fun i => ws[i]?) = wr.map some) (hdis : ∀ i ∈ isR, i ∉ isC)
    (hk : ∀ q : Nat, q < H.size → ¬ rw_A wc q → H1[q]? = H[q]?) (hP1 : va_P D cl w1 H1) : va_P D cl (wr ++ w1) H1 := by
  refine va_P.app (fun k q hq => ?_) hP1
  obtain ⟨i, h1, h2⟩ := rw_at hR k q hq
  refine (hP i q h2).kept (hk q.1 (hP i q h2).lt (fun h => ?_))
  obtain ⟨k2, e2, h3⟩ := h
  obtain ⟨j, h4, h5⟩ := rw_at hC k2 (q.1, e2) h3
  have hij := hD.1 i j q (q.1, e2) h2 h5 rfl
  subst hij
  exact hdis i (List.mem_of_getElem? h1) (List.mem_of_getElem? h4)
theorem ro_keep {D : va_G} {cl : List vw_C} {ws : va_W} {H H1 : Heap} (hP : va_P D cl ws H) (hk : ∀ q : Nat, q < H.size → ¬ ro_A q → H1[q]? = H[q]?) : va_P D cl ws H1 := hP.kept (fun k q h => hk q.1 (hP k q h).lt (fun z => z))
section CR
variable {p : Program} {l : Launch} {e : Env} {R : Room} {s : State} {m : MethodId} {args : Array Value} {below : List Frame} {meth : Method} {c : Code} {H : Heap} {locs : List Loc} {cells slots : Nat} {Q : State → Prop} {cc : ByteArray} {pc : Nat} {ls : Array Slot} {rest : List Value}
variable {D : va_G} {cl : List vw_C} {tys : List (ClassId × FieldType)} {wc ws0 : va_W} {A0 : Nat → Prop} {H0 : Heap} {y : MethodName} {bytes : ByteArray} {maxL nL n index : Nat} {ret : Option FieldType} {ws : List Cond} {rm : Room} {Ts : List Cond} {own C host : String} {b : Addr} {As st0 : List Value}
theorem ro_Vi {v : Int32} (S : CallFix p m c cc nL s args Ts own) (hM : Met l y ws rm (va_Pc (.ref b :: As) (ro_B D cl tys wc)) (ro_Qi v) 0 0 ro_A) (cw : CallW R s args own C index y bytes maxL ret ws rm 0 0 n) (hK : va_K D cl tys s) (hPc : va_P D cl wc H) {q0 ci : Nat} {fs : List Value} {q : vw_C} (he : wc[q0]? = some (b, .inr (ci, fs))) (hc : cl[ci]? = some q) (hq : q.1 = C) (hn : As.length = n) (hsize : ls.size = nL) (hst : st0 = As.reverse ++ .ref b :: rest) (hW : 2 * (F0 m pc ls st0).monitorRoom + (rest.map fun v => v.category).sum ≤ 8) (hdg : decode cc pc = .ok (.invokevirtual index, 3)) (hf : cells ≤ R.cells ∧ slots ≤ R.slots) (hS : va_S A0 H0 H locs) (hP : va_P D cl ws0 H) (kk : ∀ (H1 : Heap) (locs1 : List Loc), va_P D cl ws0 H1 → va_S A0 H0 H1 locs1 → W p l e R s m args below meth c H1 locs1 cells slots Q (F0 m (pc + 3) ls (.int v :: rest))) : W p l e R s m args below meth c H locs cells slots Q (F0 m pc ls st0) := by
  refine va_calli (va_runV S hM cw ⟨ro_blind, hq ▸ va_recv hK hPc hc he, fun U hU hW => ⟨rfl, by rw [hU]; exact hPc, va_K.moved hW.alike hK⟩⟩ rfl hn hsize hst hW hdg hf) hS (fun q _ h => False.elim h) (fun q h => False.elim h) (fun r u t H1 locs1 ht hvm hw hB hz hk hS1 => ?_)
  subst hw
  exact kk H1 locs1 (ro_keep hP hk) hS1
theorem rw_Vi {S0 : Type} {post : Int32 → S0 → Prop} {W1 : S0 → va_W} {wr : va_W} (isC isR : List Nat) (hC : isC.map (fun i => ws0[i]?) = wc.map some) (hR : isR.map (fun i => ws0[i]?) = wr.map some) (hdis : ∀ i ∈ isR, i ∉ isC) (S : CallFix p m c cc nL s args Ts own) (hM : Met l y ws rm (va_Pc (.ref b :: As) (rw_B D cl tys wc)) (rw_Qi D cl (rw_A wc) post W1) 0 0 (rw_A wc)) (cw : CallW R s args own C index y bytes maxL ret ws rm 0 0 n) (hK : va_K D cl tys s) (hPc : va_P D cl wc H) (hDc : va_D (fun _ => True) wc) {q0 ci : Nat} {fs : List Value} {q : vw_C} (he : wc[q0]? = some (b, .inr (ci, fs))) (hc : cl[ci]? = some q) (hq : q.1 = C) (hn : As.length = n) (hsize : ls.size = nL) (hst : st0 = As.reverse ++ .ref b :: rest) (hW : 2 * (F0 m pc ls st0).monitorRoom + (rest.map fun v => v.category).sum ≤ 8) (hdg : decode cc pc = .ok (.invokevirtual index, 3)) (hf : cells ≤ R.cells ∧ slots ≤ R.slots) (hS : va_S A0 H0 H locs) (hP : va_P D cl ws0 H) (hD : va_D A0 ws0) (kk : ∀ (r : Int32) (u : S0) (H1 : Heap) (locs1 : List Loc), post r u → va_P D cl (wr ++ W1 u) H1 → va_S A0 H0 H1 locs1 → W p l e R s m args below meth c H1 locs1 cells slots Q (F0 m (pc + 3) ls (.int r :: rest))) : W p l e R s m args below meth c H locs cells slots Q (F0 m pc ls st0) := by
  refine va_calli (va_runV S hM cw ⟨rw_blind, hq ▸ va_recv hK hPc hc he, fun U hU hW => ⟨rfl, by rw [hU]; exact hPc, va_K.moved hW.alike hK, hDc⟩⟩ rfl hn hsize hst hW hdg hf) hS (fun q _ h => rw_free hD hC q h) (rw_free hD hC) (fun r u t H1 locs1 ht hvm hw hB hz hk hS1 => ?_)
  rw [ht] at hB
  exact kk r u H1 locs1 hw (rw_join hP hD hC hR hdis hk hB) hS1
theorem ro_Vl {v : Int64} (S : CallFix p m c cc nL s args Ts own) (hM : Met l y ws rm (va_Pc (.ref b :: As) (ro_B D cl tys wc)) (ro_Ql v) 0 0 ro_A) (cw : CallW R s args own C index y bytes maxL ret ws rm 0 0 n) (hK : va_K D cl tys s) (hPc : va_P D cl wc H) {q0 ci : Nat} {fs : List Value} {q : vw_C} (he : wc[q0]? = some (b, .inr (ci, fs))) (hc : cl[ci]? = some q) (hq : q.1 = C) (hn : As.length = n) (hsize : ls.size = nL) (hst : st0 = As.reverse ++ .ref b :: rest) (hW : 2 * (F0 m pc ls st0).monitorRoom + (rest.map fun v => v.category).sum ≤ 8) (hdg : decode cc pc = .ok (.invokevirtual index, 3)) (hf : cells ≤ R.cells ∧ slots ≤ R.slots) (hS : va_S A0 H0 H locs) (hP : va_P D cl ws0 H) (kk : ∀ (H1 : Heap) (locs1 : List Loc), va_P D cl ws0 H1 → va_S A0 H0 H1 locs1 → W p l e R s m args below meth c H1 locs1 cells slots Q (F0 m (pc + 3) ls (.long v :: rest))) : W p l e R s m args below meth c H locs cells slots Q (F0 m pc ls st0) := by
  refine va_calll (va_runV S hM cw ⟨ro_blind, hq ▸ va_recv hK hPc hc he, fun U hU hW => ⟨rfl, by rw [hU]; exact hPc, va_K.moved hW.alike hK⟩⟩ rfl hn hsize hst hW hdg hf) hS (fun q _ h => False.elim h) (fun q h => False.elim h) (fun r u t H1 locs1 ht hvm hw hB hz hk hS1 => ?_)
  subst hw
  exact kk H1 locs1 (ro_keep hP hk) hS1
theorem rw_Vl {S0 : Type} {post : Int64 → S0 → Prop} {W1 : S0 → va_W} {wr : va_W} (isC isR : List Nat) (hC : isC.map (fun i => ws0[i]?) = wc.map some) (hR : isR.map (fun i => ws0[i]?) = wr.map some) (hdis : ∀ i ∈ isR, i ∉ isC) (S : CallFix p m c cc nL s args Ts own) (hM : Met l y ws rm (va_Pc (.ref b :: As) (rw_B D cl tys wc)) (rw_Ql D cl (rw_A wc) post W1) 0 0 (rw_A wc)) (cw : CallW R s args own C index y bytes maxL ret ws rm 0 0 n) (hK : va_K D cl tys s) (hPc : va_P D cl wc H) (hDc : va_D (fun _ => True) wc) {q0 ci : Nat} {fs : List Value} {q : vw_C} (he : wc[q0]? = some (b, .inr (ci, fs))) (hc : cl[ci]? = some q) (hq : q.1 = C) (hn : As.length = n) (hsize : ls.size = nL) (hst : st0 = As.reverse ++ .ref b :: rest) (hW : 2 * (F0 m pc ls st0).monitorRoom + (rest.map fun v => v.category).sum ≤ 8) (hdg : decode cc pc = .ok (.invokevirtual index, 3)) (hf : cells ≤ R.cells ∧ slots ≤ R.slots) (hS : va_S A0 H0 H locs) (hP : va_P D cl ws0 H) (hD : va_D A0 ws0) (kk : ∀ (r : Int64) (u : S0) (H1 : Heap) (locs1 : List Loc), post r u → va_P D cl (wr ++ W1 u) H1 → va_S A0 H0 H1 locs1 → W p l e R s m args below meth c H1 locs1 cells slots Q (F0 m (pc + 3) ls (.long r :: rest))) : W p l e R s m args below meth c H locs cells slots Q (F0 m pc ls st0) := by
  refine va_calll (va_runV S hM cw ⟨rw_blind, hq ▸ va_recv hK hPc hc he, fun U hU hW => ⟨rfl, by rw [hU]; exact hPc, va_K.moved hW.alike hK, hDc⟩⟩ rfl hn hsize hst hW hdg hf) hS (fun q _ h => rw_free hD hC q h) (rw_free hD hC) (fun r u t H1 locs1 ht hvm hw hB hz hk hS1 => ?_)
  rw [ht] at hB
  exact kk r u H1 locs1 hw (rw_join hP hD hC hR hdis hk hB) hS1
theorem rw_Vv {S0 : Type} {post : S0 → Prop} {W1 : S0 → va_W} {wr : va_W} (isC isR : List Nat) (hC : isC.map (fun i => ws0[i]?) = wc.map some) (hR : isR.map (fun i => ws0[i]?) = wr.map some) (hdis : ∀ i ∈ isR, i ∉ isC) (S : CallFix p m c cc nL s args Ts own) (hM : Met l y ws rm (va_Pc (.ref b :: As) (rw_B D cl tys wc)) (rw_Qv D cl (rw_A wc) post W1) 0 0 (rw_A wc)) (cw : CallW R s args own C index y bytes maxL ret ws rm 0 0 n) (hK : va_K D cl tys s) (hPc : va_P D cl wc H) (hDc : va_D (fun _ => True) wc) {q0 ci : Nat} {fs : List Value} {q : vw_C} (he : wc[q0]? = some (b, .inr (ci, fs))) (hc : cl[ci]? = some q) (hq : q.1 = C) (hn : As.length = n) (hsize : ls.size = nL) (hst : st0 = As.reverse ++ .ref b :: rest) (hW : 2 * (F0 m pc ls st0).monitorRoom + (rest.map fun v => v.category).sum ≤ 8) (hdg : decode cc pc = .ok (.invokevirtual index, 3)) (hf : cells ≤ R.cells ∧ slots ≤ R.slots) (hS : va_S A0 H0 H locs) (hP : va_P D cl ws0 H) (hD : va_D A0 ws0) (kk : ∀ (u : S0) (H1 : Heap) (locs1 : List Loc), post u → va_P D cl (wr ++ W1 u) H1 → va_S A0 H0 H1 locs1 → W p l e R s m args below meth c H1 locs1 cells slots Q (F0 m (pc + 3) ls rest)) : W p l e R s m args below meth c H locs cells slots Q (F0 m pc ls st0) := by
  refine va_callv (va_runV S hM cw ⟨rw_blind, hq ▸ va_recv hK hPc hc he, fun U hU hW => ⟨rfl, by rw [hU]; exact hPc, va_K.moved hW.alike hK, hDc⟩⟩ rfl hn hsize hst hW hdg hf) hS (fun q _ h => rw_free hD hC q h) (rw_free hD hC) (fun u t H1 locs1 ht hvm hw hB hz hk hS1 => ?_)
  rw [ht] at hB
  exact kk u H1 locs1 hw (rw_join hP hD hC hR hdis hk hB) hS1
theorem ro_VNi {v : Int32} (S : CallFix p m c cc nL s args Ts own) (hM : Met l y ws rm (va_Pc (.ref b :: As) (ro_B D cl tys wc)) (ro_Qi v) 0 0 ro_A) (cw : va_CN R s args own index y host bytes maxL ret ws rm 0 0 n ∧ (Cond.instanceMethod y).before args s = true ∧ (Cond.selects C y y).before args s = true) (hK : va_K D cl tys s) (hPc : va_P D cl wc H) {q0 ci : Nat} {fs : List Value} {q : vw_C} (he : wc[q0]? = some (b, .inr (ci, fs))) (hc : cl[ci]? = some q) (hq : q.1 = C) (hn : As.length = n) (hsize : ls.size = nL) (hst : st0 = As.reverse ++ .ref b :: rest) (hW : 2 * (F0 m pc ls st0).monitorRoom + (rest.map fun v => v.category).sum ≤ 8) (hdg : decode cc pc = .ok (.invokevirtual index, 3)) (hf : cells ≤ R.cells ∧ slots ≤ R.slots) (hS : va_S A0 H0 H locs) (hP : va_P D cl ws0 H) (kk : ∀ (H1 : Heap) (locs1 : List Loc), va_P D cl ws0 H1 → va_S A0 H0 H1 locs1 → W p l e R s m args below meth c H1 locs1 cells slots Q (F0 m (pc + 3) ls (.int v :: rest))) : W p l e R s m args below meth c H locs cells slots Q (F0 m pc ls st0) := by
  refine va_calli (va_runVN S hM cw ⟨ro_blind, hq ▸ va_recv hK hPc hc he, fun U hU hW => ⟨rfl, by rw [hU]; exact hPc, va_K.moved hW.alike hK⟩⟩ rfl hn hsize hst hW hdg hf) hS (fun q _ h => False.elim h) (fun q h => False.elim h) (fun r u t H1 locs1 ht hvm hw hB hz hk hS1 => ?_)
  subst hw
  exact kk H1 locs1 (ro_keep hP hk) hS1
theorem rw_VNi {S0 : Type} {post : Int32 → S0 → Prop} {W1 : S0 → va_W} {wr : va_W} (isC isR : List Nat) (hC : isC.map (fun i => ws0[i]?) = wc.map some) (hR : isR.map (fun i => ws0[i]?) = wr.map some) (hdis : ∀ i ∈ isR, i ∉ isC) (S : CallFix p m c cc nL s args Ts own) (hM : Met l y ws rm (va_Pc (.ref b :: As) (rw_B D cl tys wc)) (rw_Qi D cl (rw_A wc) post W1) 0 0 (rw_A wc)) (cw : va_CN R s args own index y host bytes maxL ret ws rm 0 0 n ∧ (Cond.instanceMethod y).before args s = true ∧ (Cond.selects C y y).before args s = true) (hK : va_K D cl tys s) (hPc : va_P D cl wc H) (hDc : va_D (fun _ => True) wc) {q0 ci : Nat} {fs : List Value} {q : vw_C} (he : wc[q0]? = some (b, .inr (ci, fs))) (hc : cl[ci]? = some q) (hq : q.1 = C) (hn : As.length = n) (hsize : ls.size = nL) (hst : st0 = As.reverse ++ .ref b :: rest) (hW : 2 * (F0 m pc ls st0).monitorRoom + (rest.map fun v => v.category).sum ≤ 8) (hdg : decode cc pc = .ok (.invokevirtual index, 3)) (hf : cells ≤ R.cells ∧ slots ≤ R.slots) (hS : va_S A0 H0 H locs) (hP : va_P D cl ws0 H) (hD : va_D A0 ws0) (kk : ∀ (r : Int32) (u : S0) (H1 : Heap) (locs1 : List Loc), post r u → va_P D cl (wr ++ W1 u) H1 → va_S A0 H0 H1 locs1 → W p l e R s m args below meth c H1 locs1 cells slots Q (F0 m (pc + 3) ls (.int r :: rest))) : W p l e R s m args below meth c H locs cells slots Q (F0 m pc ls st0) := by
  refine va_calli (va_runVN S hM cw ⟨rw_blind, hq ▸ va_recv hK hPc hc he, fun U hU hW => ⟨rfl, by rw [hU]; exact hPc, va_K.moved hW.alike hK, hDc⟩⟩ rfl hn hsize hst hW hdg hf) hS (fun q _ h => rw_free hD hC q h) (rw_free hD hC) (fun r u t H1 locs1 ht hvm hw hB hz hk hS1 => ?_)
  rw [ht] at hB
  exact kk r u H1 locs1 hw (rw_join hP hD hC hR hdis hk hB) hS1
theorem ro_VNl {v : Int64} (S : CallFix p m c cc nL s args Ts own) (hM : Met l y ws rm (va_Pc (.ref b :: As) (ro_B D cl tys wc)) (ro_Ql v) 0 0 ro_A) (cw : va_CN R s args own index y host bytes maxL ret ws rm 0 0 n ∧ (Cond.instanceMethod y).before args s = true ∧ (Cond.selects C y y).before args s = true) (hK : va_K D cl tys s) (hPc : va_P D cl wc H) {q0 ci : Nat} {fs : List Value} {q : vw_C} (he : wc[q0]? = some (b, .inr (ci, fs))) (hc : cl[ci]? = some q) (hq : q.1 = C) (hn : As.length = n) (hsize : ls.size = nL) (hst : st0 = As.reverse ++ .ref b :: rest) (hW : 2 * (F0 m pc ls st0).monitorRoom + (rest.map fun v => v.category).sum ≤ 8) (hdg : decode cc pc = .ok (.invokevirtual index, 3)) (hf : cells ≤ R.cells ∧ slots ≤ R.slots) (hS : va_S A0 H0 H locs) (hP : va_P D cl ws0 H) (kk : ∀ (H1 : Heap) (locs1 : List Loc), va_P D cl ws0 H1 → va_S A0 H0 H1 locs1 → W p l e R s m args below meth c H1 locs1 cells slots Q (F0 m (pc + 3) ls (.long v :: rest))) : W p l e R s m args below meth c H locs cells slots Q (F0 m pc ls st0) := by
  refine va_calll (va_runVN S hM cw ⟨ro_blind, hq ▸ va_recv hK hPc hc he, fun U hU hW => ⟨rfl, by rw [hU]; exact hPc, va_K.moved hW.alike hK⟩⟩ rfl hn hsize hst hW hdg hf) hS (fun q _ h => False.elim h) (fun q h => False.elim h) (fun r u t H1 locs1 ht hvm hw hB hz hk hS1 => ?_)
  subst hw
  exact kk H1 locs1 (ro_keep hP hk) hS1
theorem rw_VNl {S0 : Type} {post : Int64 → S0 → Prop} {W1 : S0 → va_W} {wr : va_W} (isC isR : List Nat) (hC : isC.map (fun i => ws0[i]?) = wc.map some) (hR : isR.map (fun i => ws0[i]?) = wr.map some) (hdis : ∀ i ∈ isR, i ∉ isC) (S : CallFix p m c cc nL s args Ts own) (hM : Met l y ws rm (va_Pc (.ref b :: As) (rw_B D cl tys wc)) (rw_Ql D cl (rw_A wc) post W1) 0 0 (rw_A wc)) (cw : va_CN R s args own index y host bytes maxL ret ws rm 0 0 n ∧ (Cond.instanceMethod y).before args s = true ∧ (Cond.selects C y y).before args s = true) (hK : va_K D cl tys s) (hPc : va_P D cl wc H) (hDc : va_D (fun _ => True) wc) {q0 ci : Nat} {fs : List Value} {q : vw_C} (he : wc[q0]? = some (b, .inr (ci, fs))) (hc : cl[ci]? = some q) (hq : q.1 = C) (hn : As.length = n) (hsize : ls.size = nL) (hst : st0 = As.reverse ++ .ref b :: rest) (hW : 2 * (F0 m pc ls st0).monitorRoom + (rest.map fun v => v.category).sum ≤ 8) (hdg : decode cc pc = .ok (.invokevirtual index, 3)) (hf : cells ≤ R.cells ∧ slots ≤ R.slots) (hS : va_S A0 H0 H locs) (hP : va_P D cl ws0 H) (hD : va_D A0 ws0) (kk : ∀ (r : Int64) (u : S0) (H1 : Heap) (locs1 : List Loc), post r u → va_P D cl (wr ++ W1 u) H1 → va_S A0 H0 H1 locs1 → W p l e R s m args below meth c H1 locs1 cells slots Q (F0 m (pc + 3) ls (.long r :: rest))) : W p l e R s m args below meth c H locs cells slots Q (F0 m pc ls st0) := by
  refine va_calll (va_runVN S hM cw ⟨rw_blind, hq ▸ va_recv hK hPc hc he, fun U hU hW => ⟨rfl, by rw [hU]; exact hPc, va_K.moved hW.alike hK, hDc⟩⟩ rfl hn hsize hst hW hdg hf) hS (fun q _ h => rw_free hD hC q h) (rw_free hD hC) (fun r u t H1 locs1 ht hvm hw hB hz hk hS1 => ?_)
  rw [ht] at hB
  exact kk r u H1 locs1 hw (rw_join hP hD hC hR hdis hk hB) hS1
theorem rw_VNv {S0 : Type} {post : S0 → Prop} {W1 : S0 → va_W} {wr : va_W} (isC isR : List Nat) (hC : isC.map (fun i => ws0[i]?) = wc.map some) (hR : isR.map (fun i => ws0[i]?) = wr.map some) (hdis : ∀ i ∈ isR, i ∉ isC) (S : CallFix p m c cc nL s args Ts own) (hM : Met l y ws rm (va_Pc (.ref b :: As) (rw_B D cl tys wc)) (rw_Qv D cl (rw_A wc) post W1) 0 0 (rw_A wc)) (cw : va_CN R s args own index y host bytes maxL ret ws rm 0 0 n ∧ (Cond.instanceMethod y).before args s = true ∧ (Cond.selects C y y).before args s = true) (hK : va_K D cl tys s) (hPc : va_P D cl wc H) (hDc : va_D (fun _ => True) wc) {q0 ci : Nat} {fs : List Value} {q : vw_C} (he : wc[q0]? = some (b, .inr (ci, fs))) (hc : cl[ci]? = some q) (hq : q.1 = C) (hn : As.length = n) (hsize : ls.size = nL) (hst : st0 = As.reverse ++ .ref b :: rest) (hW : 2 * (F0 m pc ls st0).monitorRoom + (rest.map fun v => v.category).sum ≤ 8) (hdg : decode cc pc = .ok (.invokevirtual index, 3)) (hf : cells ≤ R.cells ∧ slots ≤ R.slots) (hS : va_S A0 H0 H locs) (hP : va_P D cl ws0 H) (hD : va_D A0 ws0) (kk : ∀ (u : S0) (H1 : Heap) (locs1 : List Loc), post u → va_P D cl (wr ++ W1 u) H1 → va_S A0 H0 H1 locs1 → W p l e R s m args below meth c H1 locs1 cells slots Q (F0 m (pc + 3) ls rest)) : W p l e R s m args below meth c H locs cells slots Q (F0 m pc ls st0) := by
  refine va_callv (va_runVN S hM cw ⟨rw_blind, hq ▸ va_recv hK hPc hc he, fun U hU hW => ⟨rfl, by rw [hU]; exact hPc, va_K.moved hW.alike hK, hDc⟩⟩ rfl hn hsize hst hW hdg hf) hS (fun q _ h => rw_free hD hC q h) (rw_free hD hC) (fun u t H1 locs1 ht hvm hw hB hz hk hS1 => ?_)
  rw [ht] at hB
  exact kk u H1 locs1 hw (rw_join hP hD hC hR hdis hk hB) hS1
theorem ro_Si {v : Int32} (S : CallFix p m c cc nL s args Ts own) (hM : Met l y ws rm (va_Pc As (ro_B D cl tys wc)) (ro_Qi v) 0 0 ro_A) (cw : CallB R s args own index y bytes maxL ret ws rm 0 0 n ∧ (Cond.static y).before args s = true) (hK : va_K D cl tys s) (hPc : va_P D cl wc H) (hn : As.length = n) (hsize : ls.size = nL) (hst : st0 = As.reverse ++ rest) (hW : 2 * (F0 m pc ls st0).monitorRoom + (rest.map fun v => v.category).sum ≤ 8) (hdg : decode cc pc = .ok (.invokestatic index, 3)) (hf : cells ≤ R.cells ∧ slots ≤ R.slots) (hS : va_S A0 H0 H locs) (hP : va_P D cl ws0 H) (kk : ∀ (H1 : Heap) (locs1 : List Loc), va_P D cl ws0 H1 → va_S A0 H0 H1 locs1 → W p l e R s m args below meth c H1 locs1 cells slots Q (F0 m (pc + 3) ls (.int v :: rest))) : W p l e R s m args below meth c H locs cells slots Q (F0 m pc ls st0) := by
  refine va_calli (va_runS S hM cw ⟨ro_blind, fun U hU hW => ⟨rfl, by rw [hU]; exact hPc, va_K.moved hW.alike hK⟩⟩ rfl hn hsize hst hW hdg hf) hS (fun q _ h => False.elim h) (fun q h => False.elim h) (fun r u t H1 locs1 ht hvm hw hB hz hk hS1 => ?_)
  subst hw
  exact kk H1 locs1 (ro_keep hP hk) hS1
theorem rw_Si {S0 : Type} {post : Int32 → S0 → Prop} {W1 : S0 → va_W} {wr : va_W} (isC isR : List Nat) (hC : isC.map (fun i => ws0[i]?) = wc.map some) (hR : isR.map (fun i => ws0[i]?) = wr.map some) (hdis : ∀ i ∈ isR, i ∉ isC) (S : CallFix p m c cc nL s args Ts own) (hM : Met l y ws rm (va_Pc As (rw_B D cl tys wc)) (rw_Qi D cl (rw_A wc) post W1) 0 0 (rw_A wc)) (cw : CallB R s args own index y bytes maxL ret ws rm 0 0 n ∧ (Cond.static y).before args s = true) (hK : va_K D cl tys s) (hPc : va_P D cl wc H) (hDc : va_D (fun _ => True) wc) (hn : As.length = n) (hsize : ls.size = nL) (hst : st0 = As.reverse ++ rest) (hW : 2 * (F0 m pc ls st0).monitorRoom + (rest.map fun v => v.category).sum ≤ 8) (hdg : decode cc pc = .ok (.invokestatic index, 3)) (hf : cells ≤ R.cells ∧ slots ≤ R.slots) (hS : va_S A0 H0 H locs) (hP : va_P D cl ws0 H) (hD : va_D A0 ws0) (kk : ∀ (r : Int32) (u : S0) (H1 : Heap) (locs1 : List Loc), post r u → va_P D cl (wr ++ W1 u) H1 → va_S A0 H0 H1 locs1 → W p l e R s m args below meth c H1 locs1 cells slots Q (F0 m (pc + 3) ls (.int r :: rest))) : W p l e R s m args below meth c H locs cells slots Q (F0 m pc ls st0) := by
  refine va_calli (va_runS S hM cw ⟨rw_blind, fun U hU hW => ⟨rfl, by rw [hU]; exact hPc, va_K.moved hW.alike hK, hDc⟩⟩ rfl hn hsize hst hW hdg hf) hS (fun q _ h => rw_free hD hC q h) (rw_free hD hC) (fun r u t H1 locs1 ht hvm hw hB hz hk hS1 => ?_)
  rw [ht] at hB
  exact kk r u H1 locs1 hw (rw_join hP hD hC hR hdis hk hB) hS1
theorem ro_Sl {v : Int64} (S : CallFix p m c cc nL s args Ts own) (hM : Met l y ws rm (va_Pc As (ro_B D cl tys wc)) (ro_Ql v) 0 0 ro_A) (cw : CallB R s args own index y bytes maxL ret ws rm 0 0 n ∧ (Cond.static y).before args s = true) (hK : va_K D cl tys s) (hPc : va_P D cl wc H) (hn : As.length = n) (hsize : ls.size = nL) (hst : st0 = As.reverse ++ rest) (hW : 2 * (F0 m pc ls st0).monitorRoom + (rest.map fun v => v.category).sum ≤ 8) (hdg : decode cc pc = .ok (.invokestatic index, 3)) (hf : cells ≤ R.cells ∧ slots ≤ R.slots) (hS : va_S A0 H0 H locs) (hP : va_P D cl ws0 H) (kk : ∀ (H1 : Heap) (locs1 : List Loc), va_P D cl ws0 H1 → va_S A0 H0 H1 locs1 → W p l e R s m args below meth c H1 locs1 cells slots Q (F0 m (pc + 3) ls (.long v :: rest))) : W p l e R s m args below meth c H locs cells slots Q (F0 m pc ls st0) := by
  refine va_calll (va_runS S hM cw ⟨ro_blind, fun U hU hW => ⟨rfl, by rw [hU]; exact hPc, va_K.moved hW.alike hK⟩⟩ rfl hn hsize hst hW hdg hf) hS (fun q _ h => False.elim h) (fun q h => False.elim h) (fun r u t H1 locs1 ht hvm hw hB hz hk hS1 => ?_)
  subst hw
  exact kk H1 locs1 (ro_keep hP hk) hS1
theorem rw_Sl {S0 : Type} {post : Int64 → S0 → Prop} {W1 : S0 → va_W} {wr : va_W} (isC isR : List Nat) (hC : isC.map (fun i => ws0[i]?) = wc.map some) (hR : isR.map (fun i => ws0[i]?) = wr.map some) (hdis : ∀ i ∈ isR, i ∉ isC) (S : CallFix p m c cc nL s args Ts own) (hM : Met l y ws rm (va_Pc As (rw_B D cl tys wc)) (rw_Ql D cl (rw_A wc) post W1) 0 0 (rw_A wc)) (cw : CallB R s args own index y bytes maxL ret ws rm 0 0 n ∧ (Cond.static y).before args s = true) (hK : va_K D cl tys s) (hPc : va_P D cl wc H) (hDc : va_D (fun _ => True) wc) (hn : As.length = n) (hsize : ls.size = nL) (hst : st0 = As.reverse ++ rest) (hW : 2 * (F0 m pc ls st0).monitorRoom + (rest.map fun v => v.category).sum ≤ 8) (hdg : decode cc pc = .ok (.invokestatic index, 3)) (hf : cells ≤ R.cells ∧ slots ≤ R.slots) (hS : va_S A0 H0 H locs) (hP : va_P D cl ws0 H) (hD : va_D A0 ws0) (kk : ∀ (r : Int64) (u : S0) (H1 : Heap) (locs1 : List Loc), post r u → va_P D cl (wr ++ W1 u) H1 → va_S A0 H0 H1 locs1 → W p l e R s m args below meth c H1 locs1 cells slots Q (F0 m (pc + 3) ls (.long r :: rest))) : W p l e R s m args below meth c H locs cells slots Q (F0 m pc ls st0) := by
  refine va_calll (va_runS S hM cw ⟨rw_blind, fun U hU hW => ⟨rfl, by rw [hU]; exact hPc, va_K.moved hW.alike hK, hDc⟩⟩ rfl hn hsize hst hW hdg hf) hS (fun q _ h => rw_free hD hC q h) (rw_free hD hC) (fun r u t H1 locs1 ht hvm hw hB hz hk hS1 => ?_)
  rw [ht] at hB
  exact kk r u H1 locs1 hw (rw_join hP hD hC hR hdis hk hB) hS1
theorem rw_Sv {S0 : Type} {post : S0 → Prop} {W1 : S0 → va_W} {wr : va_W} (isC isR : List Nat) (hC : isC.map (fun i => ws0[i]?) = wc.map some) (hR : isR.map (fun i => ws0[i]?) = wr.map some) (hdis : ∀ i ∈ isR, i ∉ isC) (S : CallFix p m c cc nL s args Ts own) (hM : Met l y ws rm (va_Pc As (rw_B D cl tys wc)) (rw_Qv D cl (rw_A wc) post W1) 0 0 (rw_A wc)) (cw : CallB R s args own index y bytes maxL ret ws rm 0 0 n ∧ (Cond.static y).before args s = true) (hK : va_K D cl tys s) (hPc : va_P D cl wc H) (hDc : va_D (fun _ => True) wc) (hn : As.length = n) (hsize : ls.size = nL) (hst : st0 = As.reverse ++ rest) (hW : 2 * (F0 m pc ls st0).monitorRoom + (rest.map fun v => v.category).sum ≤ 8) (hdg : decode cc pc = .ok (.invokestatic index, 3)) (hf : cells ≤ R.cells ∧ slots ≤ R.slots) (hS : va_S A0 H0 H locs) (hP : va_P D cl ws0 H) (hD : va_D A0 ws0) (kk : ∀ (u : S0) (H1 : Heap) (locs1 : List Loc), post u → va_P D cl (wr ++ W1 u) H1 → va_S A0 H0 H1 locs1 → W p l e R s m args below meth c H1 locs1 cells slots Q (F0 m (pc + 3) ls rest)) : W p l e R s m args below meth c H locs cells slots Q (F0 m pc ls st0) := by
  refine va_callv (va_runS S hM cw ⟨rw_blind, fun U hU hW => ⟨rfl, by rw [hU]; exact hPc, va_K.moved hW.alike hK, hDc⟩⟩ rfl hn hsize hst hW hdg hf) hS (fun q _ h => rw_free hD hC q h) (rw_free hD hC) (fun u t H1 locs1 ht hvm hw hB hz hk hS1 => ?_)
  rw [ht] at hB
  exact kk u H1 locs1 hw (rw_join hP hD hC hR hdis hk hB) hS1
theorem ro_SNi {v : Int32} (S : CallFix p m c cc nL s args Ts own) (hM : Met l y ws rm (va_Pc As (ro_B D cl tys wc)) (ro_Qi v) 0 0 ro_A) (cw : va_CN R s args own index y host bytes maxL ret ws rm 0 0 n ∧ (Cond.static y).before args s = true ∧ True) (hK : va_K D cl tys s) (hPc : va_P D cl wc H) (hn : As.length = n) (hsize : ls.size = nL) (hst : st0 = As.reverse ++ rest) (hW : 2 * (F0 m pc ls st0).monitorRoom + (rest.map fun v => v.category).sum ≤ 8) (hdg : decode cc pc = .ok (.invokestatic index, 3)) (hf : cells ≤ R.cells ∧ slots ≤ R.slots) (hS : va_S A0 H0 H locs) (hP : va_P D cl ws0 H) (kk : ∀ (H1 : Heap) (locs1 : List Loc), va_P D cl ws0 H1 → va_S A0 H0 H1 locs1 → W p l e R s m args below meth c H1 locs1 cells slots Q (F0 m (pc + 3) ls (.int v :: rest))) : W p l e R s m args below meth c H locs cells slots Q (F0 m pc ls st0) := by
  refine va_calli (va_runSN S hM cw ⟨ro_blind, fun U hU hW => ⟨rfl, by rw [hU]; exact hPc, va_K.moved hW.alike hK⟩⟩ rfl hn hsize hst hW hdg hf) hS (fun q _ h => False.elim h) (fun q h => False.elim h) (fun r u t H1 locs1 ht hvm hw hB hz hk hS1 => ?_)
  subst hw
  exact kk H1 locs1 (ro_keep hP hk) hS1
theorem rw_SNi {S0 : Type} {post : Int32 → S0 → Prop} {W1 : S0 → va_W} {wr : va_W} (isC isR : List Nat) (hC : isC.map (fun i => ws0[i]?) = wc.map some) (hR : isR.map (fun i => ws0[i]?) = wr.map some) (hdis : ∀ i ∈ isR, i ∉ isC) (S : CallFix p m c cc nL s args Ts own) (hM : Met l y ws rm (va_Pc As (rw_B D cl tys wc)) (rw_Qi D cl (rw_A wc) post W1) 0 0 (rw_A wc)) (cw : va_CN R s args own index y host bytes maxL ret ws rm 0 0 n ∧ (Cond.static y).before args s = true ∧ True) (hK : va_K D cl tys s) (hPc : va_P D cl wc H) (hDc : va_D (fun _ => True) wc) (hn : As.length = n) (hsize : ls.size = nL) (hst : st0 = As.reverse ++ rest) (hW : 2 * (F0 m pc ls st0).monitorRoom + (rest.map fun v => v.category).sum ≤ 8) (hdg : decode cc pc = .ok (.invokestatic index, 3)) (hf : cells ≤ R.cells ∧ slots ≤ R.slots) (hS : va_S A0 H0 H locs) (hP : va_P D cl ws0 H) (hD : va_D A0 ws0) (kk : ∀ (r : Int32) (u : S0) (H1 : Heap) (locs1 : List Loc), post r u → va_P D cl (wr ++ W1 u) H1 → va_S A0 H0 H1 locs1 → W p l e R s m args below meth c H1 locs1 cells slots Q (F0 m (pc + 3) ls (.int r :: rest))) : W p l e R s m args below meth c H locs cells slots Q (F0 m pc ls st0) := by
  refine va_calli (va_runSN S hM cw ⟨rw_blind, fun U hU hW => ⟨rfl, by rw [hU]; exact hPc, va_K.moved hW.alike hK, hDc⟩⟩ rfl hn hsize hst hW hdg hf) hS (fun q _ h => rw_free hD hC q h) (rw_free hD hC) (fun r u t H1 locs1 ht hvm hw hB hz hk hS1 => ?_)
  rw [ht] at hB
  exact kk r u H1 locs1 hw (rw_join hP hD hC hR hdis hk hB) hS1
theorem ro_SNl {v : Int64} (S : CallFix p m c cc nL s args Ts own) (hM : Met l y ws rm (va_Pc As (ro_B D cl tys wc)) (ro_Ql v) 0 0 ro_A) (cw : va_CN R s args own index y host bytes maxL ret ws rm 0 0 n ∧ (Cond.static y).before args s = true ∧ True) (hK : va_K D cl tys s) (hPc : va_P D cl wc H) (hn : As.length = n) (hsize : ls.size = nL) (hst : st0 = As.reverse ++ rest) (hW : 2 * (F0 m pc ls st0).monitorRoom + (rest.map fun v => v.category).sum ≤ 8) (hdg : decode cc pc = .ok (.invokestatic index, 3)) (hf : cells ≤ R.cells ∧ slots ≤ R.slots) (hS : va_S A0 H0 H locs) (hP : va_P D cl ws0 H) (kk : ∀ (H1 : Heap) (locs1 : List Loc), va_P D cl ws0 H1 → va_S A0 H0 H1 locs1 → W p l e R s m args below meth c H1 locs1 cells slots Q (F0 m (pc + 3) ls (.long v :: rest))) : W p l e R s m args below meth c H locs cells slots Q (F0 m pc ls st0) := by
  refine va_calll (va_runSN S hM cw ⟨ro_blind, fun U hU hW => ⟨rfl, by rw [hU]; exact hPc, va_K.moved hW.alike hK⟩⟩ rfl hn hsize hst hW hdg hf) hS (fun q _ h => False.elim h) (fun q h => False.elim h) (fun r u t H1 locs1 ht hvm hw hB hz hk hS1 => ?_)
  subst hw
  exact kk H1 locs1 (ro_keep hP hk) hS1
theorem rw_SNl {S0 : Type} {post : Int64 → S0 → Prop} {W1 : S0 → va_W} {wr : va_W} (isC isR : List Nat) (hC : isC.map (fun i => ws0[i]?) = wc.map some) (hR : isR.map (fun i => ws0[i]?) = wr.map some) (hdis : ∀ i ∈ isR, i ∉ isC) (S : CallFix p m c cc nL s args Ts own) (hM : Met l y ws rm (va_Pc As (rw_B D cl tys wc)) (rw_Ql D cl (rw_A wc) post W1) 0 0 (rw_A wc)) (cw : va_CN R s args own index y host bytes maxL ret ws rm 0 0 n ∧ (Cond.static y).before args s = true ∧ True) (hK : va_K D cl tys s) (hPc : va_P D cl wc H) (hDc : va_D (fun _ => True) wc) (hn : As.length = n) (hsize : ls.size = nL) (hst : st0 = As.reverse ++ rest) (hW : 2 * (F0 m pc ls st0).monitorRoom + (rest.map fun v => v.category).sum ≤ 8) (hdg : decode cc pc = .ok (.invokestatic index, 3)) (hf : cells ≤ R.cells ∧ slots ≤ R.slots) (hS : va_S A0 H0 H locs) (hP : va_P D cl ws0 H) (hD : va_D A0 ws0) (kk : ∀ (r : Int64) (u : S0) (H1 : Heap) (locs1 : List Loc), post r u → va_P D cl (wr ++ W1 u) H1 → va_S A0 H0 H1 locs1 → W p l e R s m args below meth c H1 locs1 cells slots Q (F0 m (pc + 3) ls (.long r :: rest))) : W p l e R s m args below meth c H locs cells slots Q (F0 m pc ls st0) := by
  refine va_calll (va_runSN S hM cw ⟨rw_blind, fun U hU hW => ⟨rfl, by rw [hU]; exact hPc, va_K.moved hW.alike hK, hDc⟩⟩ rfl hn hsize hst hW hdg hf) hS (fun q _ h => rw_free hD hC q h) (rw_free hD hC) (fun r u t H1 locs1 ht hvm hw hB hz hk hS1 => ?_)
  rw [ht] at hB
  exact kk r u H1 locs1 hw (rw_join hP hD hC hR hdis hk hB) hS1
theorem rw_SNv {S0 : Type} {post : S0 → Prop} {W1 : S0 → va_W} {wr : va_W} (isC isR : List Nat) (hC : isC.map (fun i => ws0[i]?) = wc.map some) (hR : isR.map (fun i => ws0[i]?) = wr.map some) (hdis : ∀ i ∈ isR, i ∉ isC) (S : CallFix p m c cc nL s args Ts own) (hM : Met l y ws rm (va_Pc As (rw_B D cl tys wc)) (rw_Qv D cl (rw_A wc) post W1) 0 0 (rw_A wc)) (cw : va_CN R s args own index y host bytes maxL ret ws rm 0 0 n ∧ (Cond.static y).before args s = true ∧ True) (hK : va_K D cl tys s) (hPc : va_P D cl wc H) (hDc : va_D (fun _ => True) wc) (hn : As.length = n) (hsize : ls.size = nL) (hst : st0 = As.reverse ++ rest) (hW : 2 * (F0 m pc ls st0).monitorRoom + (rest.map fun v => v.category).sum ≤ 8) (hdg : decode cc pc = .ok (.invokestatic index, 3)) (hf : cells ≤ R.cells ∧ slots ≤ R.slots) (hS : va_S A0 H0 H locs) (hP : va_P D cl ws0 H) (hD : va_D A0 ws0) (kk : ∀ (u : S0) (H1 : Heap) (locs1 : List Loc), post u → va_P D cl (wr ++ W1 u) H1 → va_S A0 H0 H1 locs1 → W p l e R s m args below meth c H1 locs1 cells slots Q (F0 m (pc + 3) ls rest)) : W p l e R s m args below meth c H locs cells slots Q (F0 m pc ls st0) := by
  refine va_callv (va_runSN S hM cw ⟨rw_blind, fun U hU hW => ⟨rfl, by rw [hU]; exact hPc, va_K.moved hW.alike hK, hDc⟩⟩ rfl hn hsize hst hW hdg hf) hS (fun q _ h => rw_free hD hC q h) (rw_free hD hC) (fun u t H1 locs1 ht hvm hw hB hz hk hS1 => ?_)
  rw [ht] at hB
  exact kk u H1 locs1 hw (rw_join hP hD hC hR hdis hk hB) hS1
theorem ro_iret {v v0 : Int32} (hx : p.tables.exec = Jvm.exec) (hb : c.code = cc) (hr : meth.sig.returnType = some .int) (hlocks : meth.locks = false) (hS : va_S ro_A s.heap H locs) (h : v = v0) (hd : decode cc pc = .ok (.ireturn, 1)) : W p l e R s m args below meth c H locs cells slots (MQ below (ro_Qi v0) args s cells slots ro_A) (F0 m pc ls [.int v]) := W.iret (v := v) hx hb hr (fun t ht hW => ⟨⟨v, (), rfl, h, trivial⟩, hS.F ht⟩) hS.2.2 hd hlocks
theorem ro_lret {v v0 : Int64} (hx : p.tables.exec = Jvm.exec) (hb : c.code = cc) (hr : meth.sig.returnType = some .long) (hlocks : meth.locks = false) (hS : va_S ro_A s.heap H locs) (h : v = v0) (hd : decode cc pc = .ok (.lreturn, 1)) : W p l e R s m args below meth c H locs cells slots (MQ below (ro_Ql v0) args s cells slots ro_A) (F0 m pc ls [.long v]) := W.lret (v := v) hx hb hr (fun t ht hW => ⟨⟨v, (), rfl, h, trivial⟩, hS.F ht⟩) hS.2.2 hd hlocks
theorem ro_zret {v v0 : Int32} {b : Bool} (hx : p.tables.exec = Jvm.exec) (hb : c.code = cc) (hr : meth.sig.returnType = some .boolean) (hlocks : meth.locks = false) (hS : va_S ro_A s.heap H locs) (hv : v0 = nb_i b) (h : v = v0) (hd : decode cc pc = .ok (.ireturn, 1)) : W p l e R s m args below meth c H locs cells slots (MQ below (ro_Qi v0) args s cells slots ro_A) (F0 m pc ls [.int v]) := W.zret (v := v) hx hb hr (by rw [h, hv]; exact nb_bI_nar b) (fun t ht hW => ⟨⟨v, (), rfl, h, trivial⟩, hS.F ht⟩) hS.2.2 hd hlocks
variable {S0 : Type} {A : Nat → Prop}
theorem rw_iret {post : Int32 → S0 → Prop} {W1 : S0 → va_W} (u : S0) {v : Int32} (hx : p.tables.exec = Jvm.exec) (hb : c.code = cc) (hr : meth.sig.returnType = some .int) (hlocks : meth.locks = false) (hS : va_S A s.heap H locs) (hP : va_P D cl (W1 u) H) (h : post v u) (hd : decode cc pc = .ok (.ireturn, 1)) : W p l e R s m args below meth c H locs cells slots (MQ below (rw_Qi D cl A post W1) args s cells slots A) (F0 m pc ls [.int v]) := W.iret (v := v) hx hb hr (fun t ht hW => ⟨⟨v, u, rfl, h, by show va_P D cl (W1 u) t.heap; rw [ht]; exact hP⟩, hS.F ht⟩) hS.2.2 hd hlocks
theorem rw_lret {post : Int64 → S0 → Prop} {W1 : S0 → va_W} (u : S0) {v : Int64} (hx : p.tables.exec = Jvm.exec) (hb : c.code = cc) (hr : meth.sig.returnType = some .long) (hlocks : meth.locks = false) (hS : va_S A s.heap H locs) (hP : va_P D cl (W1 u) H) (h : post v u) (hd : decode cc pc = .ok (.lreturn, 1)) : W p l e R s m args below meth c H locs cells slots (MQ below (rw_Ql D cl A post W1) args s cells slots A) (F0 m pc ls [.long v]) := W.lret (v := v) hx hb hr (fun t ht hW => ⟨⟨v, u, rfl, h, by show va_P D cl (W1 u) t.heap; rw [ht]; exact hP⟩, hS.F ht⟩) hS.2.2 hd hlocks
theorem rw_zret {post : Int32 → S0 → Prop} {W1 : S0 → va_W} (u : S0) {v : Int32} {b : Bool} (hx : p.tables.exec = Jvm.exec) (hb : c.code = cc) (hr : meth.sig.returnType = some .boolean) (hlocks : meth.locks = false) (hS : va_S A s.heap H locs) (hP : va_P D cl (W1 u) H) (hv : v = nb_i b) (h : post v u) (hd : decode cc pc = .ok (.ireturn, 1)) : W p l e R s m args below meth c H locs cells slots (MQ below (rw_Qi D cl A post W1) args s cells slots A) (F0 m pc ls [.int v]) := W.zret (v := v) hx hb hr (by rw [hv]; exact nb_bI_nar b) (fun t ht hW => ⟨⟨v, u, rfl, h, by show va_P D cl (W1 u) t.heap; rw [ht]; exact hP⟩, hS.F ht⟩) hS.2.2 hd hlocks
theorem rw_vret {post : S0 → Prop} {W1 : S0 → va_W} (u : S0) (hx : p.tables.exec = Jvm.exec) (hb : c.code = cc) (hr : meth.sig.returnType = none) (hlocks : meth.locks = false) (hS : va_S A s.heap H locs) (hP : va_P D cl (W1 u) H) (h : post u) (hd : decode cc pc = .ok (.return_, 1)) : W p l e R s m args below meth c H locs cells slots (MQ below (rw_Qv D cl A post W1) args s cells slots A) (F0 m pc ls []) := W.vret hx hb hr (fun t ht hW => ⟨⟨u, rfl, h, by show va_P D cl (W1 u) t.heap; rw [ht]; exact hP⟩, hS.F ht⟩) hS.2.2 hd hlocks
end CR
end
section
/-! names, fields, words; printed by wip/whole/mknames.py out of the Statement's tables -/
def R_G : String := "PairDecoder$Graph"
def F_G : u_T := fun k => match k with
  | 0 => ("PairDecoder$Graph", "times", "[I", true)
  | 1 => ("PairDecoder$Graph", "oneEnd", "[I", true)
  | 2 => ("PairDecoder$Graph", "otherEnd", "[I", true)
  | 3 => ("PairDecoder$Graph", "weights", "[I", true)
  | 4 => ("PairDecoder$Graph", "signSets", "[I", true)
  | 5 => ("PairDecoder$Graph", "pointCount", "I", false)
  | 6 => ("PairDecoder$Graph", "edgeCount", "I", false)
  | 7 => ("PairDecoder$Graph", "boundaries", "I", false)
  | 8 => ("PairDecoder$Graph", "erased", "J", false)
  | _ => ("PairDecoder$Graph", "version", "I", false)
def t_G : Nat → FieldType := fun k => match k with
  | 0 => .array .int
  | 1 => .array .int
  | 2 => .array .int
  | 3 => .array .int
  | 4 => .array .int
  | 5 => .int
  | 6 => .int
  | 7 => .int
  | 8 => .long
  | _ => .int
abbrev w_G : List Cond := u_ws R_G F_G 10
theorem n_G : ∀ a, a < 10 → ∀ b, b < 10 → a ≠ b → (F_G a).2.1 ≠ (F_G b).2.1 := by decide +kernel
theorem t_G_ok : ∀ k, k < 10 → parseFieldDescriptor (F_G k).2.2.1 = some (t_G k) := by decide +kernel
def R_W : String := "PairDecoder$Ways"
def F_W : u_T := fun k => match k with
  | 0 => ("PairDecoder$Ways", "graph", "LPairDecoder$Graph;", true)
  | 1 => ("PairDecoder$Ways", "costs", "[J", true)
  | 2 => ("PairDecoder$Ways", "trail", "[I", true)
  | 3 => ("PairDecoder$Ways", "measuredVersion", "I", false)
  | _ => ("PairDecoder$Ways", "trailLength", "I", false)
def t_W : Nat → FieldType := fun k => match k with
  | 0 => .object "PairDecoder$Graph"
  | 1 => .array .long
  | 2 => .array .int
  | 3 => .int
  | _ => .int
abbrev w_W : List Cond := u_ws R_W F_W 5
theorem n_W : ∀ a, a < 5 → ∀ b, b < 5 → a ≠ b → (F_W a).2.1 ≠ (F_W b).2.1 := by decide +kernel
theorem t_W_ok : ∀ k, k < 5 → parseFieldDescriptor (F_W k).2.2.1 = some (t_W k) := by decide +kernel
def R_F : String := "PairDecoder$Pairing"
def F_F : u_T := fun k => match k with
  | 0 => ("PairDecoder$Pairing", "lesser", "[I", true)
  | 1 => ("PairDecoder$Pairing", "other", "[I", true)
  | 2 => ("PairDecoder$Pairing", "size", "I", false)
  | 3 => ("PairDecoder$Pairing", "weight", "I", false)
  | 4 => ("PairDecoder$Pairing", "leastCount", "I", false)
  | _ => ("PairDecoder$Pairing", "oddEdges", "J", false)
def t_F : Nat → FieldType := fun k => match k with
  | 0 => .array .int
  | 1 => .array .int
  | 2 => .int
  | 3 => .int
  | 4 => .int
  | _ => .long
abbrev w_F : List Cond := u_ws R_F F_F 6
theorem n_F : ∀ a, a < 6 → ∀ b, b < 6 → a ≠ b → (F_F a).2.1 ≠ (F_F b).2.1 := by decide +kernel
theorem t_F_ok : ∀ k, k < 6 → parseFieldDescriptor (F_F k).2.2.1 = some (t_F k) := by decide +kernel
def R_M : String := "PairDecoder$Matcher"
def F_M : u_T := fun k => match k with
  | 0 => ("PairDecoder$Matcher", "graph", "LPairDecoder$Graph;", true)
  | 1 => ("PairDecoder$Matcher", "ways", "LPairDecoder$Ways;", true)
  | 2 => ("PairDecoder$Matcher", "row", "[I", true)
  | 3 => ("PairDecoder$Matcher", "nearest", "[I", true)
  | 4 => ("PairDecoder$Matcher", "pairWeights", "[I", true)
  | 5 => ("PairDecoder$Matcher", "leastWeights", "[I", true)
  | 6 => ("PairDecoder$Matcher", "leastCounts", "[I", true)
  | _ => ("PairDecoder$Matcher", "rowLength", "I", false)
def t_M : Nat → FieldType := fun k => match k with
  | 0 => .object "PairDecoder$Graph"
  | 1 => .object "PairDecoder$Ways"
  | 2 => .array .int
  | 3 => .array .int
  | 4 => .array .int
  | 5 => .array .int
  | 6 => .array .int
  | _ => .int
abbrev w_M : List Cond := u_ws R_M F_M 8
theorem n_M : ∀ a, a < 8 → ∀ b, b < 8 → a ≠ b → (F_M a).2.1 ≠ (F_M b).2.1 := by decide +kernel
theorem t_M_ok : ∀ k, k < 8 → parseFieldDescriptor (F_M k).2.2.1 = some (t_M k) := by decide +kernel
def R_P : String := "PairDecoder"
def F_P : u_T := fun k => match k with
  | 0 => ("PairDecoder", "graph", "LPairDecoder$Graph;", true)
  | 1 => ("PairDecoder", "ways", "LPairDecoder$Ways;", true)
  | 2 => ("PairDecoder", "matcher", "LPairDecoder$Matcher;", true)
  | 3 => ("PairDecoder", "found", "LPairDecoder$Pairing;", true)
  | 4 => ("PairDecoder", "fired", "I", false)
  | _ => ("PairDecoder", "keptEdges", "J", false)
def t_P : Nat → FieldType := fun k => match k with
  | 0 => .object "PairDecoder$Graph"
  | 1 => .object "PairDecoder$Ways"
  | 2 => .object "PairDecoder$Matcher"
  | 3 => .object "PairDecoder$Pairing"
  | 4 => .int
  | _ => .long
abbrev w_P : List Cond := u_ws R_P F_P 6
theorem n_P : ∀ a, a < 6 → ∀ b, b < 6 → a ≠ b → (F_P a).2.1 ≠ (F_P b).2.1 := by decide +kernel
theorem t_P_ok : ∀ k, k < 6 → parseFieldDescriptor (F_P k).2.2.1 = some (t_P k) := by decide +kernel
def R_D : String := "PairDecoderModel"
def F_D : u_T := fun k => match k with
  | 0 => ("PairDecoderModel", "thrown", "I", false)
  | 1 => ("PairDecoderModel", "points", "I", false)
  | 2 => ("PairDecoderModel", "edges", "I", false)
  | 3 => ("PairDecoderModel", "fired", "I", false)
  | 4 => ("PairDecoderModel", "kept", "J", false)
  | 5 => ("PairDecoderModel", "isBoundary", "[Z", true)
  | 6 => ("PairDecoderModel", "timeOf", "[I", true)
  | 7 => ("PairDecoderModel", "oneEnd", "[I", true)
  | 8 => ("PairDecoderModel", "otherEnd", "[I", true)
  | 9 => ("PairDecoderModel", "weightOf", "[I", true)
  | 10 => ("PairDecoderModel", "signsOf", "[I", true)
  | 11 => ("PairDecoderModel", "isErased", "[Z", true)
  | 12 => ("PairDecoderModel", "weightTo", "[I", true)
  | 13 => ("PairDecoderModel", "edgesTo", "[I", true)
  | 14 => ("PairDecoderModel", "laid", "[I", true)
  | 15 => ("PairDecoderModel", "laidLong", "I", false)
  | 16 => ("PairDecoderModel", "many", "I", false)
  | 17 => ("PairDecoderModel", "list", "[I", true)
  | 18 => ("PairDecoderModel", "cost", "[I", true)
  | 19 => ("PairDecoderModel", "boundaryOf", "[I", true)
  | 20 => ("PairDecoderModel", "partner", "[I", true)
  | 21 => ("PairDecoderModel", "best", "[I", true)
  | 22 => ("PairDecoderModel", "first", "[I", true)
  | 23 => ("PairDecoderModel", "tried", "[I", true)
  | 24 => ("PairDecoderModel", "bestWeight", "I", false)
  | 25 => ("PairDecoderModel", "bests", "I", false)
  | 26 => ("PairDecoderModel", "pairs", "I", false)
  | 27 => ("PairDecoderModel", "pairOne", "[I", true)
  | 28 => ("PairDecoderModel", "pairOther", "[I", true)
  | 29 => ("PairDecoderModel", "isAlone", "[Z", true)
  | 30 => ("PairDecoderModel", "wayOf", "[J", true)
  | 31 => ("PairDecoderModel", "least", "I", false)
  | 32 => ("PairDecoderModel", "weight", "I", false)
  | _ => ("PairDecoderModel", "fix", "J", false)
def t_D : Nat → FieldType := fun k => match k with
  | 0 => .int
  | 1 => .int
  | 2 => .int
  | 3 => .int
  | 4 => .long
  | 5 => .array .boolean
  | 6 => .array .int
  | 7 => .array .int
  | 8 => .array .int
  | 9 => .array .int
  | 10 => .array .int
  | 11 => .array .boolean
  | 12 => .array .int
  | 13 => .array .int
  | 14 => .array .int
  | 15 => .int
  | 16 => .int
  | 17 => .array .int
  | 18 => .array .int
  | 19 => .array .int
  | 20 => .array .int
  | 21 => .array .int
  | 22 => .array .int
  | 23 => .array .int
  | 24 => .int
  | 25 => .int
  | 26 => .int
  | 27 => .array .int
  | 28 => .array .int
  | 29 => .array .boolean
  | 30 => .array .long
  | 31 => .int
  | 32 => .int
  | _ => .long
abbrev w_D : List Cond := u_ws R_D F_D 34
theorem n_D : ∀ a, a < 34 → ∀ b, b < 34 → a ≠ b → (F_D a).2.1 ≠ (F_D b).2.1 := by decide +kernel
theorem t_D_ok : ∀ k, k < 34 → parseFieldDescriptor (F_D k).2.2.1 = some (t_D k) := by decide +kernel
def R_L : String := "PairDecoderLaw"
def R_JI : String := "java/lang/Integer"
def R_JL : String := "java/lang/Long"
abbrev classes : List vw_C := [(R_G, F_G, 10), (R_W, F_W, 5), (R_F, F_F, 6), (R_M, F_M, 8), (R_P, F_P, 6), (R_D, F_D, 34)]
def wg_all : List Cond := lw_tbl.filter goodWord
theorem wg_in {w : Cond} (i : Nat) (h : lw_tbl[i]? = some w ∧ goodWord w = true) : w ∈ wg_all := List.mem_filter.mpr ⟨List.mem_of_getElem? h.1, h.2⟩
theorem wg_tbl {w : Cond} (h : w ∈ wg_all) : w ∈ lw_tbl := (List.mem_filter.mp h).1
theorem wg_good {w : Cond} (h : w ∈ wg_all) : (w.onTables && w.keeps) = true ∨ ∃ ty, w = .arrayClass ty := good_of_word (List.mem_filter.mp h).2
theorem wg_V {cm cy : Cond} {own C : String} {idx : Nat} {y : MethodName} (h1 : Cond.methodLink own idx y ∈ wg_all) (h2 : Cond.instanceMethod y ∈ wg_all) (h3 : Cond.selects C y y ∈ wg_all) (h4 : Cond.initialized C ∈ wg_all) (h5 : cy ∈ wg_all) : GoodIn (cm :: wg_all) (wsV own idx C y (cy :: wg_all)) := by
  intro w hw
  have h : w ∈ wg_all := by
    unfold wsV at hw
    rcases List.mem_append.mp hw with h | h
    · simp only [List.mem_cons, List.not_mem_nil, or_false] at h
      rcases h with rfl | rfl | rfl | rfl <;> assumption
    · rcases List.mem_cons.mp h with rfl | h
      · exact h5
      · exact h
  exact ⟨List.mem_cons_of_mem _ h, wg_good h⟩
theorem wg_S {cm cy : Cond} {own : String} {idx : Nat} {y : MethodName} (h1 : Cond.methodLink own idx y ∈ wg_all) (h2 : Cond.static y ∈ wg_all) (h4 : Cond.initialized own ∈ wg_all) (h5 : cy ∈ wg_all) : GoodIn (cm :: wg_all) (wsS own idx y (cy :: wg_all)) := by
  intro w hw
  have h : w ∈ wg_all := by
    unfold wsS at hw
    rcases List.mem_append.mp hw with h | h
    · simp only [List.mem_cons, List.not_mem_nil, or_false] at h
      rcases h with rfl | rfl | rfl <;> assumption
    · rcases List.mem_cons.mp h with rfl | h
      · exact h5
      · exact h
  exact ⟨List.mem_cons_of_mem _ h, wg_good h⟩
theorem wg_I {cm cy : Cond} (h5 : cy ∈ wg_all) : GoodIn (cm :: wg_all) (cy :: wg_all) := by
  intro w hw
  have h : w ∈ wg_all := by
    rcases List.mem_cons.mp hw with rfl | h
    · exact h5
    · exact h
  exact ⟨List.mem_cons_of_mem _ h, wg_good h⟩
abbrev b_P_init : ByteArray := prog_1_method_1_code
def y_P_init : MethodName := ⟨"PairDecoder", "<init>", "()V"⟩
abbrev w_P_init : List Cond := Cond.code y_P_init b_P_init 1 none :: wg_all
abbrev b_G_init : ByteArray := prog_2_method_1_code
def y_G_init : MethodName := ⟨"PairDecoder$Graph", "<init>", "()V"⟩
abbrev w_G_init : List Cond := Cond.code y_G_init b_G_init 1 none :: wg_all
abbrev b_W_init : ByteArray := prog_5_method_1_code
def y_W_init : MethodName := ⟨"PairDecoder$Ways", "<init>", "(LPairDecoder$Graph;)V"⟩
abbrev w_W_init : List Cond := Cond.code y_W_init b_W_init 2 none :: wg_all
abbrev b_M_init : ByteArray := prog_3_method_1_code
def y_M_init : MethodName := ⟨"PairDecoder$Matcher", "<init>", "(LPairDecoder$Graph;LPairDecoder$Ways;)V"⟩
abbrev w_M_init : List Cond := Cond.code y_M_init b_M_init 3 none :: wg_all
abbrev b_F_init : ByteArray := prog_4_method_1_code
def y_F_init : MethodName := ⟨"PairDecoder$Pairing", "<init>", "()V"⟩
abbrev w_F_init : List Cond := Cond.code y_F_init b_F_init 1 none :: wg_all
abbrev b_P_point : ByteArray := prog_1_method_2_code
def y_P_point : MethodName := ⟨"PairDecoder", "point", "(ZI)I"⟩
abbrev w_P_point : List Cond := Cond.code y_P_point b_P_point 3 (some .int) :: wg_all
abbrev b_G_addPoint : ByteArray := prog_2_method_13_code
def y_G_addPoint : MethodName := ⟨"PairDecoder$Graph", "addPoint", "(ZI)I"⟩
abbrev w_G_addPoint : List Cond := Cond.code y_G_addPoint b_G_addPoint 4 (some .int) :: wg_all
abbrev b_P_edge : ByteArray := prog_1_method_3_code
def y_P_edge : MethodName := ⟨"PairDecoder", "edge", "(IIII)I"⟩
abbrev w_P_edge : List Cond := Cond.code y_P_edge b_P_edge 5 (some .int) :: wg_all
abbrev b_G_canJoin : ByteArray := prog_2_method_6_code
def y_G_canJoin : MethodName := ⟨"PairDecoder$Graph", "canJoin", "(II)Z"⟩
abbrev w_G_canJoin : List Cond := Cond.code y_G_canJoin b_G_canJoin 3 (some .boolean) :: wg_all
abbrev b_G_hasPoint : ByteArray := prog_2_method_2_code
def y_G_hasPoint : MethodName := ⟨"PairDecoder$Graph", "hasPoint", "(I)Z"⟩
abbrev w_G_hasPoint : List Cond := Cond.code y_G_hasPoint b_G_hasPoint 2 (some .boolean) :: wg_all
abbrev b_G_isBoundary : ByteArray := prog_2_method_4_code
def y_G_isBoundary : MethodName := ⟨"PairDecoder$Graph", "isBoundary", "(I)Z"⟩
abbrev w_G_isBoundary : List Cond := Cond.code y_G_isBoundary b_G_isBoundary 2 (some .boolean) :: wg_all
abbrev b_P_areEdgeValues : ByteArray := prog_1_method_17_code
def y_P_areEdgeValues : MethodName := ⟨"PairDecoder", "areEdgeValues", "(II)Z"⟩
abbrev w_P_areEdgeValues : List Cond := Cond.code y_P_areEdgeValues b_P_areEdgeValues 2 (some .boolean) :: wg_all
abbrev b_G_hasRoomFor : ByteArray := prog_2_method_9_code
def y_G_hasRoomFor : MethodName := ⟨"PairDecoder$Graph", "hasRoomFor", "(I)Z"⟩
abbrev w_G_hasRoomFor : List Cond := Cond.code y_G_hasRoomFor b_G_hasRoomFor 2 (some .boolean) :: wg_all
abbrev b_G_addEdge : ByteArray := prog_2_method_14_code
def y_G_addEdge : MethodName := ⟨"PairDecoder$Graph", "addEdge", "(IIII)I"⟩
abbrev w_G_addEdge : List Cond := Cond.code y_G_addEdge b_G_addEdge 6 (some .int) :: wg_all
abbrev b_P_fault : ByteArray := prog_1_method_4_code
def y_P_fault : MethodName := ⟨"PairDecoder", "fault", "(III)I"⟩
abbrev w_P_fault : List Cond := Cond.code y_P_fault b_P_fault 10 (some .int) :: wg_all
abbrev b_G_hasPoints : ByteArray := prog_2_method_3_code
def y_G_hasPoints : MethodName := ⟨"PairDecoder$Graph", "hasPoints", "(I)Z"⟩
abbrev w_G_hasPoints : List Cond := Cond.code y_G_hasPoints b_G_hasPoints 2 (some .boolean) :: wg_all
abbrev b_JI_bitCount : ByteArray := prog_10_method_49_code
def y_JI_bitCount : MethodName := ⟨"java/lang/Integer", "bitCount", "(I)I"⟩
abbrev w_JI_bitCount : List Cond := Cond.code y_JI_bitCount b_JI_bitCount 1 (some .int) :: wg_all
abbrev b_P_memberOf : ByteArray := prog_1_method_18_code
def y_P_memberOf : MethodName := ⟨"PairDecoder", "memberOf", "(II)I"⟩
abbrev w_P_memberOf : List Cond := Cond.code y_P_memberOf b_P_memberOf 4 (some .int) :: wg_all
abbrev b_G_leastBoundary : ByteArray := prog_2_method_5_code
def y_G_leastBoundary : MethodName := ⟨"PairDecoder$Graph", "leastBoundary", "()I"⟩
abbrev w_G_leastBoundary : List Cond := Cond.code y_G_leastBoundary b_G_leastBoundary 1 (some .int) :: wg_all
abbrev b_P_fire : ByteArray := prog_1_method_5_code
def y_P_fire : MethodName := ⟨"PairDecoder", "fire", "(IZ)Z"⟩
abbrev w_P_fire : List Cond := Cond.code y_P_fire b_P_fire 3 (some .boolean) :: wg_all
abbrev b_P_isFired : ByteArray := prog_1_method_19_code
def y_P_isFired : MethodName := ⟨"PairDecoder", "isFired", "(I)Z"⟩
abbrev w_P_isFired : List Cond := Cond.code y_P_isFired b_P_isFired 2 (some .boolean) :: wg_all
abbrev b_P_erase : ByteArray := prog_1_method_6_code
def y_P_erase : MethodName := ⟨"PairDecoder", "erase", "(IZ)Z"⟩
abbrev w_P_erase : List Cond := Cond.code y_P_erase b_P_erase 3 (some .boolean) :: wg_all
abbrev b_G_hasEdge : ByteArray := prog_2_method_7_code
def y_G_hasEdge : MethodName := ⟨"PairDecoder$Graph", "hasEdge", "(I)Z"⟩
abbrev w_G_hasEdge : List Cond := Cond.code y_G_hasEdge b_G_hasEdge 2 (some .boolean) :: wg_all
abbrev b_G_isErased : ByteArray := prog_2_method_10_code
def y_G_isErased : MethodName := ⟨"PairDecoder$Graph", "isErased", "(I)Z"⟩
abbrev w_G_isErased : List Cond := Cond.code y_G_isErased b_G_isErased 2 (some .boolean) :: wg_all
abbrev b_G_turnErased : ByteArray := prog_2_method_15_code
def y_G_turnErased : MethodName := ⟨"PairDecoder$Graph", "turnErased", "(I)V"⟩
abbrev w_G_turnErased : List Cond := Cond.code y_G_turnErased b_G_turnErased 2 none :: wg_all
abbrev b_P_way : ByteArray := prog_1_method_7_code
def y_P_way : MethodName := ⟨"PairDecoder", "way", "(III)I"⟩
abbrev w_P_way : List Cond := Cond.code y_P_way b_P_way 4 (some .int) :: wg_all
abbrev b_W_measure : ByteArray := prog_5_method_2_code
def y_W_measure : MethodName := ⟨"PairDecoder$Ways", "measure", "()V"⟩
abbrev w_W_measure : List Cond := Cond.code y_W_measure b_W_measure 4 none :: wg_all
abbrev b_W_clearCosts : ByteArray := prog_5_method_10_code
def y_W_clearCosts : MethodName := ⟨"PairDecoder$Ways", "clearCosts", "()V"⟩
abbrev w_W_clearCosts : List Cond := Cond.code y_W_clearCosts b_W_clearCosts 3 none :: wg_all
abbrev b_W_at : ByteArray := prog_5_method_8_code
def y_W_at : MethodName := ⟨"PairDecoder$Ways", "at", "(II)I"⟩
abbrev w_W_at : List Cond := Cond.code y_W_at b_W_at 2 (some .int) :: wg_all
abbrev b_W_edgeCost : ByteArray := prog_5_method_9_code
def y_W_edgeCost : MethodName := ⟨"PairDecoder$Ways", "edgeCost", "(I)J"⟩
abbrev w_W_edgeCost : List Cond := Cond.code y_W_edgeCost b_W_edgeCost 2 (some .long) :: wg_all
abbrev b_G_weightNow : ByteArray := prog_2_method_11_code
def y_G_weightNow : MethodName := ⟨"PairDecoder$Graph", "weightNow", "(I)I"⟩
abbrev w_G_weightNow : List Cond := Cond.code y_G_weightNow b_G_weightNow 2 (some .int) :: wg_all
abbrev b_W_lower : ByteArray := prog_5_method_11_code
def y_W_lower : MethodName := ⟨"PairDecoder$Ways", "lower", "(IIJ)V"⟩
abbrev w_W_lower : List Cond := Cond.code y_W_lower b_W_lower 5 none :: wg_all
abbrev b_W_joinWaysAt : ByteArray := prog_5_method_12_code
def y_W_joinWaysAt : MethodName := ⟨"PairDecoder$Ways", "joinWaysAt", "(I)V"⟩
abbrev w_W_joinWaysAt : List Cond := Cond.code y_W_joinWaysAt b_W_joinWaysAt 8 none :: wg_all
abbrev b_W_isThere : ByteArray := prog_5_method_3_code
def y_W_isThere : MethodName := ⟨"PairDecoder$Ways", "isThere", "(II)Z"⟩
abbrev w_W_isThere : List Cond := Cond.code y_W_isThere b_W_isThere 3 (some .boolean) :: wg_all
abbrev b_W_weightBetween : ByteArray := prog_5_method_4_code
def y_W_weightBetween : MethodName := ⟨"PairDecoder$Ways", "weightBetween", "(II)I"⟩
abbrev w_W_weightBetween : List Cond := Cond.code y_W_weightBetween b_W_weightBetween 3 (some .int) :: wg_all
abbrev b_W_trace : ByteArray := prog_5_method_5_code
def y_W_trace : MethodName := ⟨"PairDecoder$Ways", "trace", "(II)V"⟩
abbrev w_W_trace : List Cond := Cond.code y_W_trace b_W_trace 6 none :: wg_all
abbrev b_W_firstEdgeTowards : ByteArray := prog_5_method_13_code
def y_W_firstEdgeTowards : MethodName := ⟨"PairDecoder$Ways", "firstEdgeTowards", "(II)I"⟩
abbrev w_W_firstEdgeTowards : List Cond := Cond.code y_W_firstEdgeTowards b_W_firstEdgeTowards 5 (some .int) :: wg_all
abbrev b_G_endBeyond : ByteArray := prog_2_method_12_code
def y_G_endBeyond : MethodName := ⟨"PairDecoder$Graph", "endBeyond", "(II)I"⟩
abbrev w_G_endBeyond : List Cond := Cond.code y_G_endBeyond b_G_endBeyond 3 (some .int) :: wg_all
abbrev b_W_trailEdge : ByteArray := prog_5_method_6_code
def y_W_trailEdge : MethodName := ⟨"PairDecoder$Ways", "trailEdge", "(IZ)I"⟩
abbrev w_W_trailEdge : List Cond := Cond.code y_W_trailEdge b_W_trailEdge 3 (some .int) :: wg_all
abbrev b_P_pair : ByteArray := prog_1_method_9_code
def y_P_pair : MethodName := ⟨"PairDecoder", "pair", "(II)I"⟩
abbrev w_P_pair : List Cond := Cond.code y_P_pair b_P_pair 3 (some .int) :: wg_all
abbrev b_P_least : ByteArray := prog_1_method_10_code
def y_P_least : MethodName := ⟨"PairDecoder", "least", "()I"⟩
abbrev w_P_least : List Cond := Cond.code y_P_least b_P_least 1 (some .int) :: wg_all
abbrev b_P_fix : ByteArray := prog_1_method_11_code
def y_P_fix : MethodName := ⟨"PairDecoder", "fix", "()J"⟩
abbrev w_P_fix : List Cond := Cond.code y_P_fix b_P_fix 1 (some .long) :: wg_all
abbrev b_P_signs : ByteArray := prog_1_method_12_code
def y_P_signs : MethodName := ⟨"PairDecoder", "signs", "(J)I"⟩
abbrev w_P_signs : List Cond := Cond.code y_P_signs b_P_signs 3 (some .int) :: wg_all
abbrev b_G_hasEdges : ByteArray := prog_2_method_8_code
def y_G_hasEdges : MethodName := ⟨"PairDecoder$Graph", "hasEdges", "(J)Z"⟩
abbrev w_G_hasEdges : List Cond := Cond.code y_G_hasEdges b_G_hasEdges 3 (some .boolean) :: wg_all
abbrev b_G_oddSigns : ByteArray := prog_2_method_16_code
def y_G_oddSigns : MethodName := ⟨"PairDecoder$Graph", "oddSigns", "(J)I"⟩
abbrev w_G_oddSigns : List Cond := Cond.code y_G_oddSigns b_G_oddSigns 5 (some .int) :: wg_all
abbrev b_P_syndrome : ByteArray := prog_1_method_13_code
def y_P_syndrome : MethodName := ⟨"PairDecoder", "syndrome", "(J)I"⟩
abbrev w_P_syndrome : List Cond := Cond.code y_P_syndrome b_P_syndrome 3 (some .int) :: wg_all
abbrev b_G_oddPoints : ByteArray := prog_2_method_17_code
def y_G_oddPoints : MethodName := ⟨"PairDecoder$Graph", "oddPoints", "(J)I"⟩
abbrev w_G_oddPoints : List Cond := Cond.code y_G_oddPoints b_G_oddPoints 5 (some .int) :: wg_all
abbrev b_P_kept : ByteArray := prog_1_method_15_code
def y_P_kept : MethodName := ⟨"PairDecoder", "kept", "()J"⟩
abbrev w_P_kept : List Cond := Cond.code y_P_kept b_P_kept 1 (some .long) :: wg_all
abbrev b_P_total : ByteArray := prog_1_method_16_code
def y_P_total : MethodName := ⟨"PairDecoder", "total", "(I)I"⟩
abbrev w_P_total : List Cond := Cond.code y_P_total b_P_total 2 (some .int) :: wg_all
abbrev b_JL_bitCount : ByteArray := prog_11_method_50_code
def y_JL_bitCount : MethodName := ⟨"java/lang/Long", "bitCount", "(J)I"⟩
abbrev w_JL_bitCount : List Cond := Cond.code y_JL_bitCount b_JL_bitCount 2 (some .int) :: wg_all
abbrev b_L_decode : ByteArray := method_3_code
def y_L_decode : MethodName := ⟨"PairDecoderLaw", "decode", "(LPairDecoder;[J)I"⟩
abbrev b_P_decode : ByteArray := prog_1_method_8_code
def y_P_decode : MethodName := ⟨"PairDecoder", "decode", "()I"⟩
abbrev w_P_decode : List Cond := Cond.code y_P_decode b_P_decode 1 (some .int) :: wg_all
abbrev b_P_findPairing : ByteArray := prog_1_method_20_code
def y_P_findPairing : MethodName := ⟨"PairDecoder", "findPairing", "()Z"⟩
abbrev w_P_findPairing : List Cond := Cond.code y_P_findPairing b_P_findPairing 1 (some .boolean) :: wg_all
abbrev b_M_solve : ByteArray := prog_3_method_2_code
def y_M_solve : MethodName := ⟨"PairDecoder$Matcher", "solve", "(I)Z"⟩
abbrev w_M_solve : List Cond := Cond.code y_M_solve b_M_solve 3 (some .boolean) :: wg_all
abbrev b_M_layRow : ByteArray := prog_3_method_5_code
def y_M_layRow : MethodName := ⟨"PairDecoder$Matcher", "layRow", "(I)V"⟩
abbrev w_M_layRow : List Cond := Cond.code y_M_layRow b_M_layRow 3 none :: wg_all
abbrev b_M_nearestBoundary : ByteArray := prog_3_method_6_code
def y_M_nearestBoundary : MethodName := ⟨"PairDecoder$Matcher", "nearestBoundary", "(I)I"⟩
abbrev w_M_nearestBoundary : List Cond := Cond.code y_M_nearestBoundary b_M_nearestBoundary 4 (some .int) :: wg_all
abbrev b_M_weighPairs : ByteArray := prog_3_method_7_code
def y_M_weighPairs : MethodName := ⟨"PairDecoder$Matcher", "weighPairs", "()V"⟩
abbrev w_M_weighPairs : List Cond := Cond.code y_M_weighPairs b_M_weighPairs 4 none :: wg_all
abbrev b_M_pointOf : ByteArray := prog_3_method_12_code
def y_M_pointOf : MethodName := ⟨"PairDecoder$Matcher", "pointOf", "(II)I"⟩
abbrev w_M_pointOf : List Cond := Cond.code y_M_pointOf b_M_pointOf 3 (some .int) :: wg_all
abbrev b_M_wholeGroup : ByteArray := prog_3_method_4_code
def y_M_wholeGroup : MethodName := ⟨"PairDecoder$Matcher", "wholeGroup", "()I"⟩
abbrev w_M_wholeGroup : List Cond := Cond.code y_M_wholeGroup b_M_wholeGroup 1 (some .int) :: wg_all
abbrev b_M_solveGroup : ByteArray := prog_3_method_8_code
def y_M_solveGroup : MethodName := ⟨"PairDecoder$Matcher", "solveGroup", "(I)V"⟩
abbrev w_M_solveGroup : List Cond := Cond.code y_M_solveGroup b_M_solveGroup 4 none :: wg_all
abbrev b_M_leastPlace : ByteArray := prog_3_method_10_code
def y_M_leastPlace : MethodName := ⟨"PairDecoder$Matcher", "leastPlace", "(I)I"⟩
abbrev w_M_leastPlace : List Cond := Cond.code y_M_leastPlace b_M_leastPlace 3 (some .int) :: wg_all
abbrev b_M_weightWith : ByteArray := prog_3_method_14_code
def y_M_weightWith : MethodName := ⟨"PairDecoder$Matcher", "weightWith", "(III)I"⟩
abbrev w_M_weightWith : List Cond := Cond.code y_M_weightWith b_M_weightWith 6 (some .int) :: wg_all
abbrev b_M_without : ByteArray := prog_3_method_13_code
def y_M_without : MethodName := ⟨"PairDecoder$Matcher", "without", "(III)I"⟩
abbrev w_M_without : List Cond := Cond.code y_M_without b_M_without 3 (some .int) :: wg_all
abbrev b_M_weighIn : ByteArray := prog_3_method_9_code
def y_M_weighIn : MethodName := ⟨"PairDecoder$Matcher", "weighIn", "(III)V"⟩
abbrev w_M_weighIn : List Cond := Cond.code y_M_weighIn b_M_weighIn 4 none :: wg_all
abbrev b_M_tellFirst : ByteArray := prog_3_method_3_code
def y_M_tellFirst : MethodName := ⟨"PairDecoder$Matcher", "tellFirst", "(LPairDecoder$Pairing;)V"⟩
abbrev w_M_tellFirst : List Cond := Cond.code y_M_tellFirst b_M_tellFirst 6 none :: wg_all
abbrev b_F_begin : ByteArray := prog_4_method_2_code
def y_F_begin : MethodName := ⟨"PairDecoder$Pairing", "begin", "(II)V"⟩
abbrev w_F_begin : List Cond := Cond.code y_F_begin b_F_begin 3 none :: wg_all
abbrev b_M_firstPartner : ByteArray := prog_3_method_11_code
def y_M_firstPartner : MethodName := ⟨"PairDecoder$Matcher", "firstPartner", "(II)I"⟩
abbrev w_M_firstPartner : List Cond := Cond.code y_M_firstPartner b_M_firstPartner 4 (some .int) :: wg_all
abbrev b_W_trailAsSet : ByteArray := prog_5_method_7_code
def y_W_trailAsSet : MethodName := ⟨"PairDecoder$Ways", "trailAsSet", "()J"⟩
abbrev w_W_trailAsSet : List Cond := Cond.code y_W_trailAsSet b_W_trailAsSet 4 (some .long) :: wg_all
abbrev b_F_addPair : ByteArray := prog_4_method_3_code
def y_F_addPair : MethodName := ⟨"PairDecoder$Pairing", "addPair", "(IIJ)V"⟩
abbrev w_F_addPair : List Cond := Cond.code y_F_addPair b_F_addPair 5 none :: wg_all
abbrev b_L_commit : ByteArray := method_4_code
def y_L_commit : MethodName := ⟨"PairDecoderLaw", "commit", "(LPairDecoder;I[J)I"⟩
abbrev b_P_commit : ByteArray := prog_1_method_14_code
def y_P_commit : MethodName := ⟨"PairDecoder", "commit", "(I)I"⟩
abbrev w_P_commit : List Cond := Cond.code y_P_commit b_P_commit 4 (some .int) :: wg_all
abbrev b_P_isPairBefore : ByteArray := prog_1_method_21_code
def y_P_isPairBefore : MethodName := ⟨"PairDecoder", "isPairBefore", "(II)Z"⟩
abbrev w_P_isPairBefore : List Cond := Cond.code y_P_isPairBefore b_P_isPairBefore 4 (some .boolean) :: wg_all
abbrev b_P_commitPair : ByteArray := prog_1_method_22_code
def y_P_commitPair : MethodName := ⟨"PairDecoder", "commitPair", "(I)V"⟩
abbrev w_P_commitPair : List Cond := Cond.code y_P_commitPair b_P_commitPair 4 none :: wg_all
abbrev b_D_init : ByteArray := prog_7_method_1_code
def y_D_init : MethodName := ⟨"PairDecoderModel", "<init>", "()V"⟩
abbrev w_D_init : List Cond := Cond.code y_D_init b_D_init 1 none :: wg_all
abbrev b_D_thrown : ByteArray := prog_7_method_2_code
def y_D_thrown : MethodName := ⟨"PairDecoderModel", "thrown", "()I"⟩
abbrev w_D_thrown : List Cond := Cond.code y_D_thrown b_D_thrown 1 (some .int) :: wg_all
abbrev b_D_point : ByteArray := prog_7_method_5_code
def y_D_point : MethodName := ⟨"PairDecoderModel", "point", "(ZI)I"⟩
abbrev w_D_point : List Cond := Cond.code y_D_point b_D_point 3 (some .int) :: wg_all
abbrev b_D_edge : ByteArray := prog_7_method_8_code
def y_D_edge : MethodName := ⟨"PairDecoderModel", "edge", "(IIII)I"⟩
abbrev w_D_edge : List Cond := Cond.code y_D_edge b_D_edge 5 (some .int) :: wg_all
abbrev b_D_canBe : ByteArray := prog_7_method_6_code
def y_D_canBe : MethodName := ⟨"PairDecoderModel", "canBe", "(IIII)Z"⟩
abbrev w_D_canBe : List Cond := Cond.code y_D_canBe b_D_canBe 5 (some .boolean) :: wg_all
abbrev b_D_isPoint : ByteArray := prog_7_method_4_code
def y_D_isPoint : MethodName := ⟨"PairDecoderModel", "isPoint", "(I)Z"⟩
abbrev w_D_isPoint : List Cond := Cond.code y_D_isPoint b_D_isPoint 2 (some .boolean) :: wg_all
abbrev b_D_add : ByteArray := prog_7_method_7_code
def y_D_add : MethodName := ⟨"PairDecoderModel", "add", "(IIII)V"⟩
abbrev w_D_add : List Cond := Cond.code y_D_add b_D_add 5 none :: wg_all
abbrev b_D_fault : ByteArray := prog_7_method_11_code
def y_D_fault : MethodName := ⟨"PairDecoderModel", "fault", "(III)I"⟩
abbrev w_D_fault : List Cond := Cond.code y_D_fault b_D_fault 6 (some .int) :: wg_all
abbrev b_D_count : ByteArray := prog_7_method_3_code
def y_D_count : MethodName := ⟨"PairDecoderModel", "count", "(I)I"⟩
abbrev w_D_count : List Cond := Cond.code y_D_count b_D_count 3 (some .int) :: wg_all
abbrev b_D_of : ByteArray := prog_7_method_9_code
def y_D_of : MethodName := ⟨"PairDecoderModel", "of", "(II)I"⟩
abbrev w_D_of : List Cond := Cond.code y_D_of b_D_of 4 (some .int) :: wg_all
abbrev b_D_firstBoundary : ByteArray := prog_7_method_10_code
def y_D_firstBoundary : MethodName := ⟨"PairDecoderModel", "firstBoundary", "()I"⟩
abbrev w_D_firstBoundary : List Cond := Cond.code y_D_firstBoundary b_D_firstBoundary 2 (some .int) :: wg_all
abbrev b_D_fire : ByteArray := prog_7_method_12_code
def y_D_fire : MethodName := ⟨"PairDecoderModel", "fire", "(IZ)Z"⟩
abbrev w_D_fire : List Cond := Cond.code y_D_fire b_D_fire 3 (some .boolean) :: wg_all
abbrev b_D_erase : ByteArray := prog_7_method_13_code
def y_D_erase : MethodName := ⟨"PairDecoderModel", "erase", "(IZ)Z"⟩
abbrev w_D_erase : List Cond := Cond.code y_D_erase b_D_erase 3 (some .boolean) :: wg_all
abbrev b_D_way : ByteArray := prog_7_method_21_code
def y_D_way : MethodName := ⟨"PairDecoderModel", "way", "(III)I"⟩
abbrev w_D_way : List Cond := Cond.code y_D_way b_D_way 5 (some .int) :: wg_all
abbrev b_D_lay : ByteArray := prog_7_method_19_code
def y_D_lay : MethodName := ⟨"PairDecoderModel", "lay", "(II)Z"⟩
abbrev w_D_lay : List Cond := Cond.code y_D_lay b_D_lay 6 (some .boolean) :: wg_all
abbrev b_D_findTo : ByteArray := prog_7_method_17_code
def y_D_findTo : MethodName := ⟨"PairDecoderModel", "findTo", "(I)V"⟩
abbrev w_D_findTo : List Cond := Cond.code y_D_findTo b_D_findTo 6 none :: wg_all
abbrev b_D_relax : ByteArray := prog_7_method_16_code
def y_D_relax : MethodName := ⟨"PairDecoderModel", "relax", "(IIII)Z"⟩
abbrev w_D_relax : List Cond := Cond.code y_D_relax b_D_relax 7 (some .boolean) :: wg_all
abbrev b_D_goesOn : ByteArray := prog_7_method_15_code
def y_D_goesOn : MethodName := ⟨"PairDecoderModel", "goesOn", "(II)Z"⟩
abbrev w_D_goesOn : List Cond := Cond.code y_D_goesOn b_D_goesOn 3 (some .boolean) :: wg_all
abbrev b_D_heavy : ByteArray := prog_7_method_14_code
def y_D_heavy : MethodName := ⟨"PairDecoderModel", "heavy", "(I)I"⟩
abbrev w_D_heavy : List Cond := Cond.code y_D_heavy b_D_heavy 2 (some .int) :: wg_all
abbrev b_D_nextEdge : ByteArray := prog_7_method_18_code
def y_D_nextEdge : MethodName := ⟨"PairDecoderModel", "nextEdge", "(II)I"⟩
abbrev w_D_nextEdge : List Cond := Cond.code y_D_nextEdge b_D_nextEdge 5 (some .int) :: wg_all
abbrev b_D_decode : ByteArray := prog_7_method_30_code
def y_D_decode : MethodName := ⟨"PairDecoderModel", "decode", "()I"⟩
abbrev w_D_decode : List Cond := Cond.code y_D_decode b_D_decode 1 (some .int) :: wg_all
abbrev b_D_find : ByteArray := prog_7_method_29_code
def y_D_find : MethodName := ⟨"PairDecoderModel", "find", "()Z"⟩
abbrev w_D_find : List Cond := Cond.code y_D_find b_D_find 2 (some .boolean) :: wg_all
abbrev b_D_findCosts : ByteArray := prog_7_method_22_code
def y_D_findCosts : MethodName := ⟨"PairDecoderModel", "findCosts", "()V"⟩
abbrev w_D_findCosts : List Cond := Cond.code y_D_findCosts b_D_findCosts 4 none :: wg_all
abbrev b_D_goThrough : ByteArray := prog_7_method_28_code
def y_D_goThrough : MethodName := ⟨"PairDecoderModel", "goThrough", "()V"⟩
abbrev w_D_goThrough : List Cond := Cond.code y_D_goThrough b_D_goThrough 3 none :: wg_all
abbrev b_D_hold : ByteArray := prog_7_method_24_code
def y_D_hold : MethodName := ⟨"PairDecoderModel", "hold", "()V"⟩
abbrev w_D_hold : List Cond := Cond.code y_D_hold b_D_hold 3 none :: wg_all
abbrev b_D_tryNext : ByteArray := prog_7_method_27_code
def y_D_tryNext : MethodName := ⟨"PairDecoderModel", "tryNext", "(I)Z"⟩
abbrev w_D_tryNext : List Cond := Cond.code y_D_tryNext b_D_tryNext 4 (some .boolean) :: wg_all
abbrev b_D_unpair : ByteArray := prog_7_method_25_code
def y_D_unpair : MethodName := ⟨"PairDecoderModel", "unpair", "(I)V"⟩
abbrev w_D_unpair : List Cond := Cond.code y_D_unpair b_D_unpair 2 none :: wg_all
abbrev b_D_may : ByteArray := prog_7_method_26_code
def y_D_may : MethodName := ⟨"PairDecoderModel", "may", "(II)Z"⟩
abbrev w_D_may : List Cond := Cond.code y_D_may b_D_may 3 (some .boolean) :: wg_all
abbrev b_D_firstFree : ByteArray := prog_7_method_23_code
def y_D_firstFree : MethodName := ⟨"PairDecoderModel", "firstFree", "()I"⟩
abbrev w_D_firstFree : List Cond := Cond.code y_D_firstFree b_D_firstFree 2 (some .int) :: wg_all
abbrev b_D_laidSet : ByteArray := prog_7_method_20_code
def y_D_laidSet : MethodName := ⟨"PairDecoderModel", "laidSet", "()J"⟩
abbrev w_D_laidSet : List Cond := Cond.code y_D_laidSet b_D_laidSet 4 (some .long) :: wg_all
abbrev b_D_pair : ByteArray := prog_7_method_31_code
def y_D_pair : MethodName := ⟨"PairDecoderModel", "pair", "(II)I"⟩
abbrev w_D_pair : List Cond := Cond.code y_D_pair b_D_pair 3 (some .int) :: wg_all
abbrev b_D_least : ByteArray := prog_7_method_32_code
def y_D_least : MethodName := ⟨"PairDecoderModel", "least", "()I"⟩
abbrev w_D_least : List Cond := Cond.code y_D_least b_D_least 1 (some .int) :: wg_all
abbrev b_D_fix : ByteArray := prog_7_method_33_code
def y_D_fix : MethodName := ⟨"PairDecoderModel", "fix", "()J"⟩
abbrev w_D_fix : List Cond := Cond.code y_D_fix b_D_fix 1 (some .long) :: wg_all
abbrev b_D_signs : ByteArray := prog_7_method_35_code
def y_D_signs : MethodName := ⟨"PairDecoderModel", "signs", "(J)I"⟩
abbrev w_D_signs : List Cond := Cond.code y_D_signs b_D_signs 5 (some .int) :: wg_all
abbrev b_D_areEdges : ByteArray := prog_7_method_34_code
def y_D_areEdges : MethodName := ⟨"PairDecoderModel", "areEdges", "(J)Z"⟩
abbrev w_D_areEdges : List Cond := Cond.code y_D_areEdges b_D_areEdges 3 (some .boolean) :: wg_all
abbrev b_D_syndrome : ByteArray := prog_7_method_36_code
def y_D_syndrome : MethodName := ⟨"PairDecoderModel", "syndrome", "(J)I"⟩
abbrev w_D_syndrome : List Cond := Cond.code y_D_syndrome b_D_syndrome 5 (some .int) :: wg_all
abbrev b_D_commit : ByteArray := prog_7_method_37_code
def y_D_commit : MethodName := ⟨"PairDecoderModel", "commit", "(I)I"⟩
abbrev w_D_commit : List Cond := Cond.code y_D_commit b_D_commit 5 (some .int) :: wg_all
abbrev b_D_kept : ByteArray := prog_7_method_38_code
def y_D_kept : MethodName := ⟨"PairDecoderModel", "kept", "()J"⟩
abbrev w_D_kept : List Cond := Cond.code y_D_kept b_D_kept 1 (some .long) :: wg_all
abbrev b_D_total : ByteArray := prog_7_method_39_code
def y_D_total : MethodName := ⟨"PairDecoderModel", "total", "(I)I"⟩
abbrev w_D_total : List Cond := Cond.code y_D_total b_D_total 4 (some .int) :: wg_all
abbrev b_L_law : ByteArray := code
def y_L_law : MethodName := ⟨"PairDecoderLaw", "law", "([I)Z"⟩
theorem wi_L : Cond.initialized "PairDecoderLaw" ∈ wg_all := wg_in 40 (by decide +kernel)
theorem wi_P : Cond.initialized "PairDecoder" ∈ wg_all := wg_in 41 (by decide +kernel)
theorem wi_G : Cond.initialized "PairDecoder$Graph" ∈ wg_all := wg_in 42 (by decide +kernel)
theorem wi_W : Cond.initialized "PairDecoder$Ways" ∈ wg_all := wg_in 43 (by decide +kernel)
theorem wi_M : Cond.initialized "PairDecoder$Matcher" ∈ wg_all := wg_in 44 (by decide +kernel)
theorem wi_F : Cond.initialized "PairDecoder$Pairing" ∈ wg_all := wg_in 45 (by decide +kernel)
theorem wi_D : Cond.initialized "PairDecoderModel" ∈ wg_all := wg_in 46 (by decide +kernel)
theorem wi_JI : Cond.initialized "java/lang/Integer" ∈ wg_all := wg_in 47 (by decide +kernel)
theorem wi_Math : Cond.initialized "java/lang/Math" ∈ wg_all := wg_in 48 (by decide +kernel)
theorem wi_Throwable : Cond.initialized "java/lang/Throwable" ∈ wg_all := wg_in 49 (by decide +kernel)
theorem wi_Exception : Cond.initialized "java/lang/Exception" ∈ wg_all := wg_in 50 (by decide +kernel)
theorem wi_RuntimeException : Cond.initialized "java/lang/RuntimeException" ∈ wg_all := wg_in 51 (by decide +kernel)
theorem wi_ArithmeticException : Cond.initialized "java/lang/ArithmeticException" ∈ wg_all := wg_in 52 (by decide +kernel)
theorem wi_JL : Cond.initialized "java/lang/Long" ∈ wg_all := wg_in 53 (by decide +kernel)
theorem wk_L_8 : Cond.classLink "PairDecoderLaw" 8 "PairDecoder" ∈ wg_all := wg_in 54 (by decide +kernel)
theorem wn_P : Cond.instantiable "PairDecoder" 6 ∈ wg_all := wg_in 55 (by decide +kernel)
theorem wk_L_19 : Cond.methodLink "PairDecoderLaw" 19 y_P_init ∈ wg_all := wg_in 56 (by decide +kernel)
theorem wm_P_init : Cond.instanceMethod y_P_init ∈ wg_all := wg_in 57 (by decide +kernel)
theorem wc_P_init : Cond.code y_P_init b_P_init 1 none ∈ wg_all := wg_in 58 (by decide +kernel)
theorem wk_P_1 : Cond.methodLink "PairDecoder" 1 ⟨"java/lang/Object", "<init>", "()V"⟩ ∈ wg_all := wg_in 59 (by decide +kernel)
theorem wm_Object_init : Cond.instanceMethod ⟨"java/lang/Object", "<init>", "()V"⟩ ∈ wg_all := wg_in 60 (by decide +kernel)
theorem wc_Object_init : Cond.code ⟨"java/lang/Object", "<init>", "()V"⟩ object_method_1_code 1 (Option.none : Option FieldType) ∈ wg_all := wg_in 61 (by decide +kernel)
theorem wk_P_7 : Cond.classLink "PairDecoder" 7 "PairDecoder$Graph" ∈ wg_all := wg_in 62 (by decide +kernel)
theorem wn_G : Cond.instantiable "PairDecoder$Graph" 10 ∈ wg_all := wg_in 63 (by decide +kernel)
theorem wm_G_init : Cond.instanceMethod y_G_init ∈ wg_all := wg_in 65 (by decide +kernel)
theorem wc_G_init : Cond.code y_G_init b_G_init 1 none ∈ wg_all := wg_in 66 (by decide +kernel)
theorem wk_G_3 : Cond.methodLink "PairDecoder$Graph" 3 ⟨"java/lang/Object", "<init>", "()V"⟩ ∈ wg_all := wg_in 67 (by decide +kernel)
theorem wk_G_9 : Cond.fieldLink "PairDecoder$Graph" 9 "PairDecoder$Graph" "times" "[I" ∈ wg_all := wg_in 68 (by decide +kernel)
theorem wk_P_192 : Cond.fieldLink "PairDecoder" 192 "PairDecoder$Graph" "times" "[I" ∈ wg_all := wg_in 69 (by decide +kernel)
theorem wk_G_15 : Cond.fieldLink "PairDecoder$Graph" 15 "PairDecoder$Graph" "oneEnd" "[I" ∈ wg_all := wg_in 70 (by decide +kernel)
theorem wk_W_41 : Cond.fieldLink "PairDecoder$Ways" 41 "PairDecoder$Graph" "oneEnd" "[I" ∈ wg_all := wg_in 71 (by decide +kernel)
theorem wk_G_18 : Cond.fieldLink "PairDecoder$Graph" 18 "PairDecoder$Graph" "otherEnd" "[I" ∈ wg_all := wg_in 72 (by decide +kernel)
theorem wk_W_44 : Cond.fieldLink "PairDecoder$Ways" 44 "PairDecoder$Graph" "otherEnd" "[I" ∈ wg_all := wg_in 73 (by decide +kernel)
theorem wk_G_21 : Cond.fieldLink "PairDecoder$Graph" 21 "PairDecoder$Graph" "weights" "[I" ∈ wg_all := wg_in 74 (by decide +kernel)
theorem wk_G_24 : Cond.fieldLink "PairDecoder$Graph" 24 "PairDecoder$Graph" "signSets" "[I" ∈ wg_all := wg_in 75 (by decide +kernel)
theorem wk_G_27 : Cond.fieldLink "PairDecoder$Graph" 27 "PairDecoder$Graph" "pointCount" "I" ∈ wg_all := wg_in 76 (by decide +kernel)
theorem wk_P_49 : Cond.fieldLink "PairDecoder" 49 "PairDecoder$Graph" "pointCount" "I" ∈ wg_all := wg_in 77 (by decide +kernel)
theorem wk_W_55 : Cond.fieldLink "PairDecoder$Ways" 55 "PairDecoder$Graph" "pointCount" "I" ∈ wg_all := wg_in 78 (by decide +kernel)
theorem wk_M_84 : Cond.fieldLink "PairDecoder$Matcher" 84 "PairDecoder$Graph" "pointCount" "I" ∈ wg_all := wg_in 79 (by decide +kernel)
theorem wk_G_31 : Cond.fieldLink "PairDecoder$Graph" 31 "PairDecoder$Graph" "edgeCount" "I" ∈ wg_all := wg_in 80 (by decide +kernel)
theorem wk_W_38 : Cond.fieldLink "PairDecoder$Ways" 38 "PairDecoder$Graph" "edgeCount" "I" ∈ wg_all := wg_in 81 (by decide +kernel)
theorem wk_P_174 : Cond.fieldLink "PairDecoder" 174 "PairDecoder$Graph" "edgeCount" "I" ∈ wg_all := wg_in 82 (by decide +kernel)
theorem wk_G_34 : Cond.fieldLink "PairDecoder$Graph" 34 "PairDecoder$Graph" "boundaries" "I" ∈ wg_all := wg_in 83 (by decide +kernel)
theorem wk_G_37 : Cond.fieldLink "PairDecoder$Graph" 37 "PairDecoder$Graph" "erased" "J" ∈ wg_all := wg_in 84 (by decide +kernel)
theorem wk_P_177 : Cond.fieldLink "PairDecoder" 177 "PairDecoder$Graph" "erased" "J" ∈ wg_all := wg_in 85 (by decide +kernel)
theorem wk_G_41 : Cond.fieldLink "PairDecoder$Graph" 41 "PairDecoder$Graph" "version" "I" ∈ wg_all := wg_in 86 (by decide +kernel)
theorem wk_W_30 : Cond.fieldLink "PairDecoder$Ways" 30 "PairDecoder$Graph" "version" "I" ∈ wg_all := wg_in 87 (by decide +kernel)
theorem wa_int : Cond.arrayClass .int ∈ wg_all := wg_in 109 (by decide +kernel)
theorem wk_P_16 : Cond.classLink "PairDecoder" 16 "PairDecoder$Ways" ∈ wg_all := wg_in 110 (by decide +kernel)
theorem wn_W : Cond.instantiable "PairDecoder$Ways" 5 ∈ wg_all := wg_in 111 (by decide +kernel)
theorem wk_P_18 : Cond.methodLink "PairDecoder" 18 y_W_init ∈ wg_all := wg_in 112 (by decide +kernel)
theorem wm_W_init : Cond.instanceMethod y_W_init ∈ wg_all := wg_in 113 (by decide +kernel)
theorem wc_W_init : Cond.code y_W_init b_W_init 2 none ∈ wg_all := wg_in 114 (by decide +kernel)
theorem wk_W_3 : Cond.methodLink "PairDecoder$Ways" 3 ⟨"java/lang/Object", "<init>", "()V"⟩ ∈ wg_all := wg_in 115 (by decide +kernel)
theorem wk_W_26 : Cond.fieldLink "PairDecoder$Ways" 26 "PairDecoder$Ways" "graph" "LPairDecoder$Graph;" ∈ wg_all := wg_in 116 (by decide +kernel)
theorem wk_W_9 : Cond.fieldLink "PairDecoder$Ways" 9 "PairDecoder$Ways" "costs" "[J" ∈ wg_all := wg_in 117 (by decide +kernel)
theorem wk_W_15 : Cond.fieldLink "PairDecoder$Ways" 15 "PairDecoder$Ways" "trail" "[I" ∈ wg_all := wg_in 118 (by decide +kernel)
theorem wk_W_19 : Cond.fieldLink "PairDecoder$Ways" 19 "PairDecoder$Ways" "measuredVersion" "I" ∈ wg_all := wg_in 119 (by decide +kernel)
theorem wk_W_23 : Cond.fieldLink "PairDecoder$Ways" 23 "PairDecoder$Ways" "trailLength" "I" ∈ wg_all := wg_in 120 (by decide +kernel)
theorem wk_P_120 : Cond.fieldLink "PairDecoder" 120 "PairDecoder$Ways" "trailLength" "I" ∈ wg_all := wg_in 121 (by decide +kernel)
theorem wa_long : Cond.arrayClass .long ∈ wg_all := wg_in 133 (by decide +kernel)
theorem wk_P_25 : Cond.classLink "PairDecoder" 25 "PairDecoder$Matcher" ∈ wg_all := wg_in 134 (by decide +kernel)
theorem wn_M : Cond.instantiable "PairDecoder$Matcher" 8 ∈ wg_all := wg_in 135 (by decide +kernel)
theorem wk_P_27 : Cond.methodLink "PairDecoder" 27 y_M_init ∈ wg_all := wg_in 136 (by decide +kernel)
theorem wm_M_init : Cond.instanceMethod y_M_init ∈ wg_all := wg_in 137 (by decide +kernel)
theorem wc_M_init : Cond.code y_M_init b_M_init 3 none ∈ wg_all := wg_in 138 (by decide +kernel)
theorem wk_M_3 : Cond.methodLink "PairDecoder$Matcher" 3 ⟨"java/lang/Object", "<init>", "()V"⟩ ∈ wg_all := wg_in 139 (by decide +kernel)
theorem wk_M_31 : Cond.fieldLink "PairDecoder$Matcher" 31 "PairDecoder$Matcher" "graph" "LPairDecoder$Graph;" ∈ wg_all := wg_in 140 (by decide +kernel)
theorem wk_M_35 : Cond.fieldLink "PairDecoder$Matcher" 35 "PairDecoder$Matcher" "ways" "LPairDecoder$Ways;" ∈ wg_all := wg_in 141 (by decide +kernel)
theorem wk_M_9 : Cond.fieldLink "PairDecoder$Matcher" 9 "PairDecoder$Matcher" "row" "[I" ∈ wg_all := wg_in 142 (by decide +kernel)
theorem wk_M_15 : Cond.fieldLink "PairDecoder$Matcher" 15 "PairDecoder$Matcher" "nearest" "[I" ∈ wg_all := wg_in 143 (by decide +kernel)
theorem wk_M_18 : Cond.fieldLink "PairDecoder$Matcher" 18 "PairDecoder$Matcher" "pairWeights" "[I" ∈ wg_all := wg_in 144 (by decide +kernel)
theorem wk_M_21 : Cond.fieldLink "PairDecoder$Matcher" 21 "PairDecoder$Matcher" "leastWeights" "[I" ∈ wg_all := wg_in 145 (by decide +kernel)
theorem wk_M_24 : Cond.fieldLink "PairDecoder$Matcher" 24 "PairDecoder$Matcher" "leastCounts" "[I" ∈ wg_all := wg_in 146 (by decide +kernel)
theorem wk_M_27 : Cond.fieldLink "PairDecoder$Matcher" 27 "PairDecoder$Matcher" "rowLength" "I" ∈ wg_all := wg_in 147 (by decide +kernel)
theorem wk_P_34 : Cond.classLink "PairDecoder" 34 "PairDecoder$Pairing" ∈ wg_all := wg_in 165 (by decide +kernel)
theorem wn_F : Cond.instantiable "PairDecoder$Pairing" 6 ∈ wg_all := wg_in 166 (by decide +kernel)
theorem wm_F_init : Cond.instanceMethod y_F_init ∈ wg_all := wg_in 168 (by decide +kernel)
theorem wc_F_init : Cond.code y_F_init b_F_init 1 none ∈ wg_all := wg_in 169 (by decide +kernel)
theorem wk_F_3 : Cond.methodLink "PairDecoder$Pairing" 3 ⟨"java/lang/Object", "<init>", "()V"⟩ ∈ wg_all := wg_in 170 (by decide +kernel)
theorem wk_F_9 : Cond.fieldLink "PairDecoder$Pairing" 9 "PairDecoder$Pairing" "lesser" "[I" ∈ wg_all := wg_in 171 (by decide +kernel)
theorem wk_P_144 : Cond.fieldLink "PairDecoder" 144 "PairDecoder$Pairing" "lesser" "[I" ∈ wg_all := wg_in 172 (by decide +kernel)
theorem wk_F_15 : Cond.fieldLink "PairDecoder$Pairing" 15 "PairDecoder$Pairing" "other" "[I" ∈ wg_all := wg_in 173 (by decide +kernel)
theorem wk_P_148 : Cond.fieldLink "PairDecoder" 148 "PairDecoder$Pairing" "other" "[I" ∈ wg_all := wg_in 174 (by decide +kernel)
theorem wk_F_18 : Cond.fieldLink "PairDecoder$Pairing" 18 "PairDecoder$Pairing" "size" "I" ∈ wg_all := wg_in 175 (by decide +kernel)
theorem wk_P_141 : Cond.fieldLink "PairDecoder" 141 "PairDecoder$Pairing" "size" "I" ∈ wg_all := wg_in 176 (by decide +kernel)
theorem wk_F_22 : Cond.fieldLink "PairDecoder$Pairing" 22 "PairDecoder$Pairing" "weight" "I" ∈ wg_all := wg_in 177 (by decide +kernel)
theorem wk_P_138 : Cond.fieldLink "PairDecoder" 138 "PairDecoder$Pairing" "weight" "I" ∈ wg_all := wg_in 178 (by decide +kernel)
theorem wk_F_25 : Cond.fieldLink "PairDecoder$Pairing" 25 "PairDecoder$Pairing" "leastCount" "I" ∈ wg_all := wg_in 179 (by decide +kernel)
theorem wk_P_151 : Cond.fieldLink "PairDecoder" 151 "PairDecoder$Pairing" "leastCount" "I" ∈ wg_all := wg_in 180 (by decide +kernel)
theorem wk_F_28 : Cond.fieldLink "PairDecoder$Pairing" 28 "PairDecoder$Pairing" "oddEdges" "J" ∈ wg_all := wg_in 181 (by decide +kernel)
theorem wk_P_154 : Cond.fieldLink "PairDecoder" 154 "PairDecoder$Pairing" "oddEdges" "J" ∈ wg_all := wg_in 182 (by decide +kernel)
theorem wk_P_10 : Cond.fieldLink "PairDecoder" 10 "PairDecoder" "graph" "LPairDecoder$Graph;" ∈ wg_all := wg_in 196 (by decide +kernel)
theorem wk_P_21 : Cond.fieldLink "PairDecoder" 21 "PairDecoder" "ways" "LPairDecoder$Ways;" ∈ wg_all := wg_in 197 (by decide +kernel)
theorem wk_P_30 : Cond.fieldLink "PairDecoder" 30 "PairDecoder" "matcher" "LPairDecoder$Matcher;" ∈ wg_all := wg_in 198 (by decide +kernel)
theorem wk_P_37 : Cond.fieldLink "PairDecoder" 37 "PairDecoder" "found" "LPairDecoder$Pairing;" ∈ wg_all := wg_in 199 (by decide +kernel)
theorem wk_P_41 : Cond.fieldLink "PairDecoder" 41 "PairDecoder" "fired" "I" ∈ wg_all := wg_in 200 (by decide +kernel)
theorem wk_P_45 : Cond.fieldLink "PairDecoder" 45 "PairDecoder" "keptEdges" "J" ∈ wg_all := wg_in 201 (by decide +kernel)
theorem wk_L_23 : Cond.methodLink "PairDecoderLaw" 23 y_P_point ∈ wg_all := wg_in 215 (by decide +kernel)
theorem wm_P_point : Cond.instanceMethod y_P_point ∈ wg_all := wg_in 216 (by decide +kernel)
theorem we_P_point : Cond.selects "PairDecoder" y_P_point y_P_point ∈ wg_all := wg_in 217 (by decide +kernel)
theorem wc_P_point : Cond.code y_P_point b_P_point 3 (some .int) ∈ wg_all := wg_in 218 (by decide +kernel)
theorem wk_P_52 : Cond.methodLink "PairDecoder" 52 y_G_addPoint ∈ wg_all := wg_in 219 (by decide +kernel)
theorem wm_G_addPoint : Cond.instanceMethod y_G_addPoint ∈ wg_all := wg_in 220 (by decide +kernel)
theorem we_G_addPoint : Cond.selects "PairDecoder$Graph" y_G_addPoint y_G_addPoint ∈ wg_all := wg_in 221 (by decide +kernel)
theorem wc_G_addPoint : Cond.code y_G_addPoint b_G_addPoint 4 (some .int) ∈ wg_all := wg_in 222 (by decide +kernel)
theorem wk_L_28 : Cond.methodLink "PairDecoderLaw" 28 y_P_edge ∈ wg_all := wg_in 223 (by decide +kernel)
theorem wm_P_edge : Cond.instanceMethod y_P_edge ∈ wg_all := wg_in 224 (by decide +kernel)
theorem we_P_edge : Cond.selects "PairDecoder" y_P_edge y_P_edge ∈ wg_all := wg_in 225 (by decide +kernel)
theorem wc_P_edge : Cond.code y_P_edge b_P_edge 5 (some .int) ∈ wg_all := wg_in 226 (by decide +kernel)
theorem wk_P_56 : Cond.methodLink "PairDecoder" 56 y_G_canJoin ∈ wg_all := wg_in 227 (by decide +kernel)
theorem wm_G_canJoin : Cond.instanceMethod y_G_canJoin ∈ wg_all := wg_in 228 (by decide +kernel)
theorem we_G_canJoin : Cond.selects "PairDecoder$Graph" y_G_canJoin y_G_canJoin ∈ wg_all := wg_in 229 (by decide +kernel)
theorem wc_G_canJoin : Cond.code y_G_canJoin b_G_canJoin 3 (some .boolean) ∈ wg_all := wg_in 230 (by decide +kernel)
theorem wk_G_48 : Cond.methodLink "PairDecoder$Graph" 48 y_G_hasPoint ∈ wg_all := wg_in 231 (by decide +kernel)
theorem wm_G_hasPoint : Cond.instanceMethod y_G_hasPoint ∈ wg_all := wg_in 232 (by decide +kernel)
theorem we_G_hasPoint : Cond.selects "PairDecoder$Graph" y_G_hasPoint y_G_hasPoint ∈ wg_all := wg_in 233 (by decide +kernel)
theorem wc_G_hasPoint : Cond.code y_G_hasPoint b_G_hasPoint 2 (some .boolean) ∈ wg_all := wg_in 234 (by decide +kernel)
theorem wk_G_52 : Cond.methodLink "PairDecoder$Graph" 52 y_G_isBoundary ∈ wg_all := wg_in 235 (by decide +kernel)
theorem wm_G_isBoundary : Cond.instanceMethod y_G_isBoundary ∈ wg_all := wg_in 236 (by decide +kernel)
theorem we_G_isBoundary : Cond.selects "PairDecoder$Graph" y_G_isBoundary y_G_isBoundary ∈ wg_all := wg_in 237 (by decide +kernel)
theorem wc_G_isBoundary : Cond.code y_G_isBoundary b_G_isBoundary 2 (some .boolean) ∈ wg_all := wg_in 238 (by decide +kernel)
theorem wk_P_60 : Cond.methodLink "PairDecoder" 60 y_P_areEdgeValues ∈ wg_all := wg_in 239 (by decide +kernel)
theorem ws_P_areEdgeValues : Cond.static y_P_areEdgeValues ∈ wg_all := wg_in 240 (by decide +kernel)
theorem wc_P_areEdgeValues : Cond.code y_P_areEdgeValues b_P_areEdgeValues 2 (some .boolean) ∈ wg_all := wg_in 241 (by decide +kernel)
theorem wk_P_184 : Cond.constant "PairDecoder" 184 (1000000 : Int32) ∈ wg_all := wg_in 242 (by decide +kernel)
theorem wk_P_63 : Cond.methodLink "PairDecoder" 63 y_G_hasRoomFor ∈ wg_all := wg_in 243 (by decide +kernel)
theorem wm_G_hasRoomFor : Cond.instanceMethod y_G_hasRoomFor ∈ wg_all := wg_in 244 (by decide +kernel)
theorem we_G_hasRoomFor : Cond.selects "PairDecoder$Graph" y_G_hasRoomFor y_G_hasRoomFor ∈ wg_all := wg_in 245 (by decide +kernel)
theorem wc_G_hasRoomFor : Cond.code y_G_hasRoomFor b_G_hasRoomFor 2 (some .boolean) ∈ wg_all := wg_in 246 (by decide +kernel)
theorem wk_P_67 : Cond.methodLink "PairDecoder" 67 y_G_addEdge ∈ wg_all := wg_in 247 (by decide +kernel)
theorem wm_G_addEdge : Cond.instanceMethod y_G_addEdge ∈ wg_all := wg_in 248 (by decide +kernel)
theorem we_G_addEdge : Cond.selects "PairDecoder$Graph" y_G_addEdge y_G_addEdge ∈ wg_all := wg_in 249 (by decide +kernel)
theorem wc_G_addEdge : Cond.code y_G_addEdge b_G_addEdge 6 (some .int) ∈ wg_all := wg_in 250 (by decide +kernel)
theorem wk_L_33 : Cond.methodLink "PairDecoderLaw" 33 y_P_fault ∈ wg_all := wg_in 251 (by decide +kernel)
theorem wm_P_fault : Cond.instanceMethod y_P_fault ∈ wg_all := wg_in 252 (by decide +kernel)
theorem we_P_fault : Cond.selects "PairDecoder" y_P_fault y_P_fault ∈ wg_all := wg_in 253 (by decide +kernel)
theorem wc_P_fault : Cond.code y_P_fault b_P_fault 10 (some .int) ∈ wg_all := wg_in 254 (by decide +kernel)
theorem wk_P_71 : Cond.methodLink "PairDecoder" 71 y_G_hasPoints ∈ wg_all := wg_in 255 (by decide +kernel)
theorem wm_G_hasPoints : Cond.instanceMethod y_G_hasPoints ∈ wg_all := wg_in 256 (by decide +kernel)
theorem we_G_hasPoints : Cond.selects "PairDecoder$Graph" y_G_hasPoints y_G_hasPoints ∈ wg_all := wg_in 257 (by decide +kernel)
theorem wc_G_hasPoints : Cond.code y_G_hasPoints b_G_hasPoints 2 (some .boolean) ∈ wg_all := wg_in 258 (by decide +kernel)
theorem wk_P_74 : Cond.methodLink "PairDecoder" 74 y_JI_bitCount ∈ wg_all := wg_in 259 (by decide +kernel)
theorem ws_JI_bitCount : Cond.static y_JI_bitCount ∈ wg_all := wg_in 260 (by decide +kernel)
theorem wc_JI_bitCount : Cond.code y_JI_bitCount b_JI_bitCount 1 (some .int) ∈ wg_all := wg_in 261 (by decide +kernel)
theorem wk_JI_265 : Cond.constant "java/lang/Integer" 265 (1431655765 : Int32) ∈ wg_all := wg_in 262 (by decide +kernel)
theorem wk_JI_266 : Cond.constant "java/lang/Integer" 266 (858993459 : Int32) ∈ wg_all := wg_in 263 (by decide +kernel)
theorem wk_JI_267 : Cond.constant "java/lang/Integer" 267 (252645135 : Int32) ∈ wg_all := wg_in 264 (by decide +kernel)
theorem wk_P_80 : Cond.methodLink "PairDecoder" 80 y_P_memberOf ∈ wg_all := wg_in 265 (by decide +kernel)
theorem ws_P_memberOf : Cond.static y_P_memberOf ∈ wg_all := wg_in 266 (by decide +kernel)
theorem wc_P_memberOf : Cond.code y_P_memberOf b_P_memberOf 4 (some .int) ∈ wg_all := wg_in 267 (by decide +kernel)
theorem wk_P_84 : Cond.methodLink "PairDecoder" 84 y_G_leastBoundary ∈ wg_all := wg_in 268 (by decide +kernel)
theorem wm_G_leastBoundary : Cond.instanceMethod y_G_leastBoundary ∈ wg_all := wg_in 269 (by decide +kernel)
theorem we_G_leastBoundary : Cond.selects "PairDecoder$Graph" y_G_leastBoundary y_G_leastBoundary ∈ wg_all := wg_in 270 (by decide +kernel)
theorem wc_G_leastBoundary : Cond.code y_G_leastBoundary b_G_leastBoundary 1 (some .int) ∈ wg_all := wg_in 271 (by decide +kernel)
theorem wk_L_38 : Cond.methodLink "PairDecoderLaw" 38 y_P_fire ∈ wg_all := wg_in 273 (by decide +kernel)
theorem wm_P_fire : Cond.instanceMethod y_P_fire ∈ wg_all := wg_in 274 (by decide +kernel)
theorem we_P_fire : Cond.selects "PairDecoder" y_P_fire y_P_fire ∈ wg_all := wg_in 275 (by decide +kernel)
theorem wc_P_fire : Cond.code y_P_fire b_P_fire 3 (some .boolean) ∈ wg_all := wg_in 276 (by decide +kernel)
theorem wk_P_88 : Cond.methodLink "PairDecoder" 88 y_G_hasPoint ∈ wg_all := wg_in 277 (by decide +kernel)
theorem wk_P_91 : Cond.methodLink "PairDecoder" 91 y_G_isBoundary ∈ wg_all := wg_in 278 (by decide +kernel)
theorem wk_P_94 : Cond.methodLink "PairDecoder" 94 y_P_isFired ∈ wg_all := wg_in 279 (by decide +kernel)
theorem wm_P_isFired : Cond.instanceMethod y_P_isFired ∈ wg_all := wg_in 281 (by decide +kernel)
theorem wc_P_isFired : Cond.code y_P_isFired b_P_isFired 2 (some .boolean) ∈ wg_all := wg_in 282 (by decide +kernel)
theorem wk_L_43 : Cond.methodLink "PairDecoderLaw" 43 y_P_erase ∈ wg_all := wg_in 283 (by decide +kernel)
theorem wm_P_erase : Cond.instanceMethod y_P_erase ∈ wg_all := wg_in 284 (by decide +kernel)
theorem we_P_erase : Cond.selects "PairDecoder" y_P_erase y_P_erase ∈ wg_all := wg_in 285 (by decide +kernel)
theorem wc_P_erase : Cond.code y_P_erase b_P_erase 3 (some .boolean) ∈ wg_all := wg_in 286 (by decide +kernel)
theorem wk_P_97 : Cond.methodLink "PairDecoder" 97 y_G_hasEdge ∈ wg_all := wg_in 287 (by decide +kernel)
theorem wm_G_hasEdge : Cond.instanceMethod y_G_hasEdge ∈ wg_all := wg_in 288 (by decide +kernel)
theorem we_G_hasEdge : Cond.selects "PairDecoder$Graph" y_G_hasEdge y_G_hasEdge ∈ wg_all := wg_in 289 (by decide +kernel)
theorem wc_G_hasEdge : Cond.code y_G_hasEdge b_G_hasEdge 2 (some .boolean) ∈ wg_all := wg_in 290 (by decide +kernel)
theorem wk_P_100 : Cond.methodLink "PairDecoder" 100 y_G_isErased ∈ wg_all := wg_in 291 (by decide +kernel)
theorem wm_G_isErased : Cond.instanceMethod y_G_isErased ∈ wg_all := wg_in 292 (by decide +kernel)
theorem we_G_isErased : Cond.selects "PairDecoder$Graph" y_G_isErased y_G_isErased ∈ wg_all := wg_in 293 (by decide +kernel)
theorem wc_G_isErased : Cond.code y_G_isErased b_G_isErased 2 (some .boolean) ∈ wg_all := wg_in 294 (by decide +kernel)
theorem wk_P_103 : Cond.methodLink "PairDecoder" 103 y_G_turnErased ∈ wg_all := wg_in 295 (by decide +kernel)
theorem wm_G_turnErased : Cond.instanceMethod y_G_turnErased ∈ wg_all := wg_in 296 (by decide +kernel)
theorem we_G_turnErased : Cond.selects "PairDecoder$Graph" y_G_turnErased y_G_turnErased ∈ wg_all := wg_in 297 (by decide +kernel)
theorem wc_G_turnErased : Cond.code y_G_turnErased b_G_turnErased 2 none ∈ wg_all := wg_in 298 (by decide +kernel)
theorem wk_L_47 : Cond.methodLink "PairDecoderLaw" 47 y_P_way ∈ wg_all := wg_in 299 (by decide +kernel)
theorem wm_P_way : Cond.instanceMethod y_P_way ∈ wg_all := wg_in 300 (by decide +kernel)
theorem we_P_way : Cond.selects "PairDecoder" y_P_way y_P_way ∈ wg_all := wg_in 301 (by decide +kernel)
theorem wc_P_way : Cond.code y_P_way b_P_way 4 (some .int) ∈ wg_all := wg_in 302 (by decide +kernel)
theorem wk_P_107 : Cond.methodLink "PairDecoder" 107 y_W_measure ∈ wg_all := wg_in 303 (by decide +kernel)
theorem wm_W_measure : Cond.instanceMethod y_W_measure ∈ wg_all := wg_in 304 (by decide +kernel)
theorem we_W_measure : Cond.selects "PairDecoder$Ways" y_W_measure y_W_measure ∈ wg_all := wg_in 305 (by decide +kernel)
theorem wc_W_measure : Cond.code y_W_measure b_W_measure 4 none ∈ wg_all := wg_in 306 (by decide +kernel)
theorem wk_W_35 : Cond.methodLink "PairDecoder$Ways" 35 y_W_clearCosts ∈ wg_all := wg_in 307 (by decide +kernel)
theorem wm_W_clearCosts : Cond.instanceMethod y_W_clearCosts ∈ wg_all := wg_in 309 (by decide +kernel)
theorem wc_W_clearCosts : Cond.code y_W_clearCosts b_W_clearCosts 3 none ∈ wg_all := wg_in 310 (by decide +kernel)
theorem wk_W_66 : Cond.methodLink "PairDecoder$Ways" 66 y_W_at ∈ wg_all := wg_in 311 (by decide +kernel)
theorem ws_W_at : Cond.static y_W_at ∈ wg_all := wg_in 312 (by decide +kernel)
theorem wc_W_at : Cond.code y_W_at b_W_at 2 (some .int) ∈ wg_all := wg_in 313 (by decide +kernel)
theorem wk_W_70 : Cond.constantLong "PairDecoder$Ways" 70 (1000000000000 : Int64) ∈ wg_all := wg_in 314 (by decide +kernel)
theorem wk_W_47 : Cond.methodLink "PairDecoder$Ways" 47 y_W_edgeCost ∈ wg_all := wg_in 315 (by decide +kernel)
theorem wm_W_edgeCost : Cond.instanceMethod y_W_edgeCost ∈ wg_all := wg_in 317 (by decide +kernel)
theorem wc_W_edgeCost : Cond.code y_W_edgeCost b_W_edgeCost 2 (some .long) ∈ wg_all := wg_in 318 (by decide +kernel)
theorem wk_W_88 : Cond.methodLink "PairDecoder$Ways" 88 y_G_weightNow ∈ wg_all := wg_in 319 (by decide +kernel)
theorem wm_G_weightNow : Cond.instanceMethod y_G_weightNow ∈ wg_all := wg_in 320 (by decide +kernel)
theorem we_G_weightNow : Cond.selects "PairDecoder$Graph" y_G_weightNow y_G_weightNow ∈ wg_all := wg_in 321 (by decide +kernel)
theorem wc_G_weightNow : Cond.code y_G_weightNow b_G_weightNow 2 (some .int) ∈ wg_all := wg_in 322 (by decide +kernel)
theorem wk_W_72 : Cond.constantLong "PairDecoder$Ways" 72 (64 : Int64) ∈ wg_all := wg_in 323 (by decide +kernel)
theorem wk_W_51 : Cond.methodLink "PairDecoder$Ways" 51 y_W_lower ∈ wg_all := wg_in 324 (by decide +kernel)
theorem wm_W_lower : Cond.instanceMethod y_W_lower ∈ wg_all := wg_in 326 (by decide +kernel)
theorem wc_W_lower : Cond.code y_W_lower b_W_lower 5 none ∈ wg_all := wg_in 327 (by decide +kernel)
theorem wk_W_58 : Cond.methodLink "PairDecoder$Ways" 58 y_G_isBoundary ∈ wg_all := wg_in 328 (by decide +kernel)
theorem wk_W_62 : Cond.methodLink "PairDecoder$Ways" 62 y_W_joinWaysAt ∈ wg_all := wg_in 329 (by decide +kernel)
theorem wm_W_joinWaysAt : Cond.instanceMethod y_W_joinWaysAt ∈ wg_all := wg_in 331 (by decide +kernel)
theorem wc_W_joinWaysAt : Cond.code y_W_joinWaysAt b_W_joinWaysAt 8 none ∈ wg_all := wg_in 332 (by decide +kernel)
theorem wk_P_110 : Cond.methodLink "PairDecoder" 110 y_W_isThere ∈ wg_all := wg_in 333 (by decide +kernel)
theorem wm_W_isThere : Cond.instanceMethod y_W_isThere ∈ wg_all := wg_in 334 (by decide +kernel)
theorem we_W_isThere : Cond.selects "PairDecoder$Ways" y_W_isThere y_W_isThere ∈ wg_all := wg_in 335 (by decide +kernel)
theorem wc_W_isThere : Cond.code y_W_isThere b_W_isThere 3 (some .boolean) ∈ wg_all := wg_in 336 (by decide +kernel)
theorem wk_P_113 : Cond.methodLink "PairDecoder" 113 y_W_weightBetween ∈ wg_all := wg_in 337 (by decide +kernel)
theorem wm_W_weightBetween : Cond.instanceMethod y_W_weightBetween ∈ wg_all := wg_in 338 (by decide +kernel)
theorem we_W_weightBetween : Cond.selects "PairDecoder$Ways" y_W_weightBetween y_W_weightBetween ∈ wg_all := wg_in 339 (by decide +kernel)
theorem wc_W_weightBetween : Cond.code y_W_weightBetween b_W_weightBetween 3 (some .int) ∈ wg_all := wg_in 340 (by decide +kernel)
theorem wk_P_116 : Cond.methodLink "PairDecoder" 116 y_W_trace ∈ wg_all := wg_in 341 (by decide +kernel)
theorem wm_W_trace : Cond.instanceMethod y_W_trace ∈ wg_all := wg_in 342 (by decide +kernel)
theorem we_W_trace : Cond.selects "PairDecoder$Ways" y_W_trace y_W_trace ∈ wg_all := wg_in 343 (by decide +kernel)
theorem wc_W_trace : Cond.code y_W_trace b_W_trace 6 none ∈ wg_all := wg_in 344 (by decide +kernel)
theorem wk_W_74 : Cond.methodLink "PairDecoder$Ways" 74 ⟨"java/lang/Math", "min", "(II)I"⟩ ∈ wg_all := wg_in 345 (by decide +kernel)
theorem ws_Math_min : Cond.static ⟨"java/lang/Math", "min", "(II)I"⟩ ∈ wg_all := wg_in 346 (by decide +kernel)
theorem wc_Math_min : Cond.code ⟨"java/lang/Math", "min", "(II)I"⟩ prog_12_method_69_code 2 (Option.some .int) ∈ wg_all := wg_in 347 (by decide +kernel)
theorem wk_W_79 : Cond.methodLink "PairDecoder$Ways" 79 ⟨"java/lang/Math", "max", "(II)I"⟩ ∈ wg_all := wg_in 348 (by decide +kernel)
theorem ws_Math_max : Cond.static ⟨"java/lang/Math", "max", "(II)I"⟩ ∈ wg_all := wg_in 349 (by decide +kernel)
theorem wc_Math_max : Cond.code ⟨"java/lang/Math", "max", "(II)I"⟩ prog_12_method_65_code 2 (Option.some .int) ∈ wg_all := wg_in 350 (by decide +kernel)
theorem wk_W_82 : Cond.methodLink "PairDecoder$Ways" 82 y_W_firstEdgeTowards ∈ wg_all := wg_in 351 (by decide +kernel)
theorem wm_W_firstEdgeTowards : Cond.instanceMethod y_W_firstEdgeTowards ∈ wg_all := wg_in 353 (by decide +kernel)
theorem wc_W_firstEdgeTowards : Cond.code y_W_firstEdgeTowards b_W_firstEdgeTowards 5 (some .int) ∈ wg_all := wg_in 354 (by decide +kernel)
theorem wk_W_85 : Cond.methodLink "PairDecoder$Ways" 85 y_G_endBeyond ∈ wg_all := wg_in 355 (by decide +kernel)
theorem wm_G_endBeyond : Cond.instanceMethod y_G_endBeyond ∈ wg_all := wg_in 356 (by decide +kernel)
theorem we_G_endBeyond : Cond.selects "PairDecoder$Graph" y_G_endBeyond y_G_endBeyond ∈ wg_all := wg_in 357 (by decide +kernel)
theorem wc_G_endBeyond : Cond.code y_G_endBeyond b_G_endBeyond 3 (some .int) ∈ wg_all := wg_in 358 (by decide +kernel)
theorem wk_P_123 : Cond.methodLink "PairDecoder" 123 y_W_trailEdge ∈ wg_all := wg_in 359 (by decide +kernel)
theorem wm_W_trailEdge : Cond.instanceMethod y_W_trailEdge ∈ wg_all := wg_in 360 (by decide +kernel)
theorem we_W_trailEdge : Cond.selects "PairDecoder$Ways" y_W_trailEdge y_W_trailEdge ∈ wg_all := wg_in 361 (by decide +kernel)
theorem wc_W_trailEdge : Cond.code y_W_trailEdge b_W_trailEdge 3 (some .int) ∈ wg_all := wg_in 362 (by decide +kernel)
theorem wk_L_60 : Cond.methodLink "PairDecoderLaw" 60 y_P_pair ∈ wg_all := wg_in 363 (by decide +kernel)
theorem wm_P_pair : Cond.instanceMethod y_P_pair ∈ wg_all := wg_in 364 (by decide +kernel)
theorem we_P_pair : Cond.selects "PairDecoder" y_P_pair y_P_pair ∈ wg_all := wg_in 365 (by decide +kernel)
theorem wc_P_pair : Cond.code y_P_pair b_P_pair 3 (some .int) ∈ wg_all := wg_in 366 (by decide +kernel)
theorem wk_L_65 : Cond.methodLink "PairDecoderLaw" 65 y_P_least ∈ wg_all := wg_in 367 (by decide +kernel)
theorem wm_P_least : Cond.instanceMethod y_P_least ∈ wg_all := wg_in 368 (by decide +kernel)
theorem we_P_least : Cond.selects "PairDecoder" y_P_least y_P_least ∈ wg_all := wg_in 369 (by decide +kernel)
theorem wc_P_least : Cond.code y_P_least b_P_least 1 (some .int) ∈ wg_all := wg_in 370 (by decide +kernel)
theorem wk_L_69 : Cond.methodLink "PairDecoderLaw" 69 y_P_fix ∈ wg_all := wg_in 371 (by decide +kernel)
theorem wm_P_fix : Cond.instanceMethod y_P_fix ∈ wg_all := wg_in 372 (by decide +kernel)
theorem we_P_fix : Cond.selects "PairDecoder" y_P_fix y_P_fix ∈ wg_all := wg_in 373 (by decide +kernel)
theorem wc_P_fix : Cond.code y_P_fix b_P_fix 1 (some .long) ∈ wg_all := wg_in 374 (by decide +kernel)
theorem wk_L_76 : Cond.methodLink "PairDecoderLaw" 76 y_P_signs ∈ wg_all := wg_in 375 (by decide +kernel)
theorem wm_P_signs : Cond.instanceMethod y_P_signs ∈ wg_all := wg_in 376 (by decide +kernel)
theorem we_P_signs : Cond.selects "PairDecoder" y_P_signs y_P_signs ∈ wg_all := wg_in 377 (by decide +kernel)
theorem wc_P_signs : Cond.code y_P_signs b_P_signs 3 (some .int) ∈ wg_all := wg_in 378 (by decide +kernel)
theorem wk_P_157 : Cond.methodLink "PairDecoder" 157 y_G_hasEdges ∈ wg_all := wg_in 379 (by decide +kernel)
theorem wm_G_hasEdges : Cond.instanceMethod y_G_hasEdges ∈ wg_all := wg_in 380 (by decide +kernel)
theorem we_G_hasEdges : Cond.selects "PairDecoder$Graph" y_G_hasEdges y_G_hasEdges ∈ wg_all := wg_in 381 (by decide +kernel)
theorem wc_G_hasEdges : Cond.code y_G_hasEdges b_G_hasEdges 3 (some .boolean) ∈ wg_all := wg_in 382 (by decide +kernel)
theorem wk_P_161 : Cond.methodLink "PairDecoder" 161 y_G_oddSigns ∈ wg_all := wg_in 383 (by decide +kernel)
theorem wm_G_oddSigns : Cond.instanceMethod y_G_oddSigns ∈ wg_all := wg_in 384 (by decide +kernel)
theorem we_G_oddSigns : Cond.selects "PairDecoder$Graph" y_G_oddSigns y_G_oddSigns ∈ wg_all := wg_in 385 (by decide +kernel)
theorem wc_G_oddSigns : Cond.code y_G_oddSigns b_G_oddSigns 5 (some .int) ∈ wg_all := wg_in 386 (by decide +kernel)
theorem wk_L_81 : Cond.methodLink "PairDecoderLaw" 81 y_P_syndrome ∈ wg_all := wg_in 387 (by decide +kernel)
theorem wm_P_syndrome : Cond.instanceMethod y_P_syndrome ∈ wg_all := wg_in 388 (by decide +kernel)
theorem we_P_syndrome : Cond.selects "PairDecoder" y_P_syndrome y_P_syndrome ∈ wg_all := wg_in 389 (by decide +kernel)
theorem wc_P_syndrome : Cond.code y_P_syndrome b_P_syndrome 3 (some .int) ∈ wg_all := wg_in 390 (by decide +kernel)
theorem wk_P_165 : Cond.methodLink "PairDecoder" 165 y_G_oddPoints ∈ wg_all := wg_in 391 (by decide +kernel)
theorem wm_G_oddPoints : Cond.instanceMethod y_G_oddPoints ∈ wg_all := wg_in 392 (by decide +kernel)
theorem we_G_oddPoints : Cond.selects "PairDecoder$Graph" y_G_oddPoints y_G_oddPoints ∈ wg_all := wg_in 393 (by decide +kernel)
theorem wc_G_oddPoints : Cond.code y_G_oddPoints b_G_oddPoints 5 (some .int) ∈ wg_all := wg_in 394 (by decide +kernel)
theorem wk_L_89 : Cond.methodLink "PairDecoderLaw" 89 y_P_kept ∈ wg_all := wg_in 395 (by decide +kernel)
theorem wm_P_kept : Cond.instanceMethod y_P_kept ∈ wg_all := wg_in 396 (by decide +kernel)
theorem we_P_kept : Cond.selects "PairDecoder" y_P_kept y_P_kept ∈ wg_all := wg_in 397 (by decide +kernel)
theorem wc_P_kept : Cond.code y_P_kept b_P_kept 1 (some .long) ∈ wg_all := wg_in 398 (by decide +kernel)
theorem wk_L_93 : Cond.methodLink "PairDecoderLaw" 93 y_P_total ∈ wg_all := wg_in 399 (by decide +kernel)
theorem wm_P_total : Cond.instanceMethod y_P_total ∈ wg_all := wg_in 400 (by decide +kernel)
theorem we_P_total : Cond.selects "PairDecoder" y_P_total y_P_total ∈ wg_all := wg_in 401 (by decide +kernel)
theorem wc_P_total : Cond.code y_P_total b_P_total 2 (some .int) ∈ wg_all := wg_in 402 (by decide +kernel)
theorem wk_P_180 : Cond.methodLink "PairDecoder" 180 y_JL_bitCount ∈ wg_all := wg_in 403 (by decide +kernel)
theorem ws_JL_bitCount : Cond.static y_JL_bitCount ∈ wg_all := wg_in 404 (by decide +kernel)
theorem wc_JL_bitCount : Cond.code y_JL_bitCount b_JL_bitCount 2 (some .int) ∈ wg_all := wg_in 405 (by decide +kernel)
theorem wk_JL_314 : Cond.constantLong "java/lang/Long" 314 (6148914691236517205 : Int64) ∈ wg_all := wg_in 406 (by decide +kernel)
theorem wk_JL_316 : Cond.constantLong "java/lang/Long" 316 (3689348814741910323 : Int64) ∈ wg_all := wg_in 407 (by decide +kernel)
theorem wk_JL_318 : Cond.constantLong "java/lang/Long" 318 (1085102592571150095 : Int64) ∈ wg_all := wg_in 408 (by decide +kernel)
theorem wk_L_51 : Cond.methodLink "PairDecoderLaw" 51 y_L_decode ∈ wg_all := wg_in 409 (by decide +kernel)
theorem ws_L_decode : Cond.static y_L_decode ∈ wg_all := wg_in 410 (by decide +kernel)
theorem wk_L_13 : Cond.classLink "PairDecoderLaw" 13 "java/lang/ArithmeticException" ∈ wg_all := wg_in 412 (by decide +kernel)
theorem wk_L_7 : Cond.methodLink "PairDecoderLaw" 7 y_P_decode ∈ wg_all := wg_in 413 (by decide +kernel)
theorem wm_P_decode : Cond.instanceMethod y_P_decode ∈ wg_all := wg_in 414 (by decide +kernel)
theorem we_P_decode : Cond.selects "PairDecoder" y_P_decode y_P_decode ∈ wg_all := wg_in 415 (by decide +kernel)
theorem wc_P_decode : Cond.code y_P_decode b_P_decode 1 (some .int) ∈ wg_all := wg_in 416 (by decide +kernel)
theorem wk_P_127 : Cond.methodLink "PairDecoder" 127 y_P_findPairing ∈ wg_all := wg_in 417 (by decide +kernel)
theorem wm_P_findPairing : Cond.instanceMethod y_P_findPairing ∈ wg_all := wg_in 419 (by decide +kernel)
theorem wc_P_findPairing : Cond.code y_P_findPairing b_P_findPairing 1 (some .boolean) ∈ wg_all := wg_in 420 (by decide +kernel)
theorem wk_P_185 : Cond.methodLink "PairDecoder" 185 y_M_solve ∈ wg_all := wg_in 421 (by decide +kernel)
theorem wm_M_solve : Cond.instanceMethod y_M_solve ∈ wg_all := wg_in 422 (by decide +kernel)
theorem we_M_solve : Cond.selects "PairDecoder$Matcher" y_M_solve y_M_solve ∈ wg_all := wg_in 423 (by decide +kernel)
theorem wc_M_solve : Cond.code y_M_solve b_M_solve 3 (some .boolean) ∈ wg_all := wg_in 424 (by decide +kernel)
theorem wk_M_39 : Cond.methodLink "PairDecoder$Matcher" 39 y_M_layRow ∈ wg_all := wg_in 425 (by decide +kernel)
theorem wm_M_layRow : Cond.instanceMethod y_M_layRow ∈ wg_all := wg_in 427 (by decide +kernel)
theorem wc_M_layRow : Cond.code y_M_layRow b_M_layRow 3 none ∈ wg_all := wg_in 428 (by decide +kernel)
theorem wk_M_89 : Cond.methodLink "PairDecoder$Matcher" 89 y_M_nearestBoundary ∈ wg_all := wg_in 429 (by decide +kernel)
theorem wm_M_nearestBoundary : Cond.instanceMethod y_M_nearestBoundary ∈ wg_all := wg_in 431 (by decide +kernel)
theorem wc_M_nearestBoundary : Cond.code y_M_nearestBoundary b_M_nearestBoundary 4 (some .int) ∈ wg_all := wg_in 432 (by decide +kernel)
theorem wk_M_93 : Cond.methodLink "PairDecoder$Matcher" 93 y_G_isBoundary ∈ wg_all := wg_in 433 (by decide +kernel)
theorem wk_M_97 : Cond.methodLink "PairDecoder$Matcher" 97 y_W_isThere ∈ wg_all := wg_in 434 (by decide +kernel)
theorem wk_M_101 : Cond.methodLink "PairDecoder$Matcher" 101 y_W_weightBetween ∈ wg_all := wg_in 435 (by decide +kernel)
theorem wk_M_43 : Cond.methodLink "PairDecoder$Matcher" 43 y_M_weighPairs ∈ wg_all := wg_in 436 (by decide +kernel)
theorem wm_M_weighPairs : Cond.instanceMethod y_M_weighPairs ∈ wg_all := wg_in 438 (by decide +kernel)
theorem wc_M_weighPairs : Cond.code y_M_weighPairs b_M_weighPairs 4 none ∈ wg_all := wg_in 439 (by decide +kernel)
theorem wk_M_64 : Cond.methodLink "PairDecoder$Matcher" 64 y_M_pointOf ∈ wg_all := wg_in 440 (by decide +kernel)
theorem wm_M_pointOf : Cond.instanceMethod y_M_pointOf ∈ wg_all := wg_in 442 (by decide +kernel)
theorem wc_M_pointOf : Cond.code y_M_pointOf b_M_pointOf 3 (some .int) ∈ wg_all := wg_in 443 (by decide +kernel)
theorem wk_M_53 : Cond.constant "PairDecoder$Matcher" 53 (1000000000 : Int32) ∈ wg_all := wg_in 444 (by decide +kernel)
theorem wk_M_46 : Cond.methodLink "PairDecoder$Matcher" 46 y_M_wholeGroup ∈ wg_all := wg_in 445 (by decide +kernel)
theorem wm_M_wholeGroup : Cond.instanceMethod y_M_wholeGroup ∈ wg_all := wg_in 447 (by decide +kernel)
theorem wc_M_wholeGroup : Cond.code y_M_wholeGroup b_M_wholeGroup 1 (some .int) ∈ wg_all := wg_in 448 (by decide +kernel)
theorem wk_M_50 : Cond.methodLink "PairDecoder$Matcher" 50 y_M_solveGroup ∈ wg_all := wg_in 449 (by decide +kernel)
theorem wm_M_solveGroup : Cond.instanceMethod y_M_solveGroup ∈ wg_all := wg_in 451 (by decide +kernel)
theorem wc_M_solveGroup : Cond.code y_M_solveGroup b_M_solveGroup 4 none ∈ wg_all := wg_in 452 (by decide +kernel)
theorem wk_M_104 : Cond.methodLink "PairDecoder$Matcher" 104 y_M_leastPlace ∈ wg_all := wg_in 453 (by decide +kernel)
theorem wm_M_leastPlace : Cond.instanceMethod y_M_leastPlace ∈ wg_all := wg_in 455 (by decide +kernel)
theorem wc_M_leastPlace : Cond.code y_M_leastPlace b_M_leastPlace 3 (some .int) ∈ wg_all := wg_in 456 (by decide +kernel)
theorem wk_M_107 : Cond.methodLink "PairDecoder$Matcher" 107 y_M_weightWith ∈ wg_all := wg_in 457 (by decide +kernel)
theorem wm_M_weightWith : Cond.instanceMethod y_M_weightWith ∈ wg_all := wg_in 459 (by decide +kernel)
theorem wc_M_weightWith : Cond.code y_M_weightWith b_M_weightWith 6 (some .int) ∈ wg_all := wg_in 460 (by decide +kernel)
theorem wk_M_80 : Cond.methodLink "PairDecoder$Matcher" 80 y_M_without ∈ wg_all := wg_in 461 (by decide +kernel)
theorem ws_M_without : Cond.static y_M_without ∈ wg_all := wg_in 462 (by decide +kernel)
theorem wc_M_without : Cond.code y_M_without b_M_without 3 (some .int) ∈ wg_all := wg_in 463 (by decide +kernel)
theorem wk_M_110 : Cond.methodLink "PairDecoder$Matcher" 110 y_M_weighIn ∈ wg_all := wg_in 464 (by decide +kernel)
theorem wm_M_weighIn : Cond.instanceMethod y_M_weighIn ∈ wg_all := wg_in 466 (by decide +kernel)
theorem wc_M_weighIn : Cond.code y_M_weighIn b_M_weighIn 4 none ∈ wg_all := wg_in 467 (by decide +kernel)
theorem wk_P_188 : Cond.methodLink "PairDecoder" 188 y_M_tellFirst ∈ wg_all := wg_in 468 (by decide +kernel)
theorem wm_M_tellFirst : Cond.instanceMethod y_M_tellFirst ∈ wg_all := wg_in 469 (by decide +kernel)
theorem we_M_tellFirst : Cond.selects "PairDecoder$Matcher" y_M_tellFirst y_M_tellFirst ∈ wg_all := wg_in 470 (by decide +kernel)
theorem wc_M_tellFirst : Cond.code y_M_tellFirst b_M_tellFirst 6 none ∈ wg_all := wg_in 471 (by decide +kernel)
theorem wk_M_54 : Cond.methodLink "PairDecoder$Matcher" 54 y_F_begin ∈ wg_all := wg_in 472 (by decide +kernel)
theorem wm_F_begin : Cond.instanceMethod y_F_begin ∈ wg_all := wg_in 473 (by decide +kernel)
theorem we_F_begin : Cond.selects "PairDecoder$Pairing" y_F_begin y_F_begin ∈ wg_all := wg_in 474 (by decide +kernel)
theorem wc_F_begin : Cond.code y_F_begin b_F_begin 3 none ∈ wg_all := wg_in 475 (by decide +kernel)
theorem wk_M_60 : Cond.methodLink "PairDecoder$Matcher" 60 y_M_firstPartner ∈ wg_all := wg_in 476 (by decide +kernel)
theorem wm_M_firstPartner : Cond.instanceMethod y_M_firstPartner ∈ wg_all := wg_in 478 (by decide +kernel)
theorem wc_M_firstPartner : Cond.code y_M_firstPartner b_M_firstPartner 4 (some .int) ∈ wg_all := wg_in 479 (by decide +kernel)
theorem wk_M_67 : Cond.methodLink "PairDecoder$Matcher" 67 y_W_trace ∈ wg_all := wg_in 480 (by decide +kernel)
theorem wk_M_72 : Cond.methodLink "PairDecoder$Matcher" 72 y_W_trailAsSet ∈ wg_all := wg_in 481 (by decide +kernel)
theorem wm_W_trailAsSet : Cond.instanceMethod y_W_trailAsSet ∈ wg_all := wg_in 482 (by decide +kernel)
theorem we_W_trailAsSet : Cond.selects "PairDecoder$Ways" y_W_trailAsSet y_W_trailAsSet ∈ wg_all := wg_in 483 (by decide +kernel)
theorem wc_W_trailAsSet : Cond.code y_W_trailAsSet b_W_trailAsSet 4 (some .long) ∈ wg_all := wg_in 484 (by decide +kernel)
theorem wk_M_76 : Cond.methodLink "PairDecoder$Matcher" 76 y_F_addPair ∈ wg_all := wg_in 485 (by decide +kernel)
theorem wm_F_addPair : Cond.instanceMethod y_F_addPair ∈ wg_all := wg_in 486 (by decide +kernel)
theorem we_F_addPair : Cond.selects "PairDecoder$Pairing" y_F_addPair y_F_addPair ∈ wg_all := wg_in 487 (by decide +kernel)
theorem wc_F_addPair : Cond.code y_F_addPair b_F_addPair 5 none ∈ wg_all := wg_in 488 (by decide +kernel)
theorem wk_P_131 : Cond.classLink "PairDecoder" 131 "java/lang/ArithmeticException" ∈ wg_all := wg_in 489 (by decide +kernel)
theorem wn_ArithmeticException : Cond.instantiable "java/lang/ArithmeticException" 6 ∈ wg_all := wg_in 490 (by decide +kernel)
theorem wm_Throwable_init : Cond.instanceMethod ⟨"java/lang/Throwable", "<init>", "()V"⟩ ∈ wg_all := wg_in 512 (by decide +kernel)
theorem wc_Throwable_init : Cond.code ⟨"java/lang/Throwable", "<init>", "()V"⟩ prog_15_method_1_code 1 (Option.none : Option FieldType) ∈ wg_all := wg_in 513 (by decide +kernel)
theorem wm_Throwable_fillInStackTrace : Cond.instanceMethod ⟨"java/lang/Throwable", "fillInStackTrace", "()Ljava/lang/Throwable;"⟩ ∈ wg_all := wg_in 520 (by decide +kernel)
theorem wn_Throwable : Cond.instantiable "java/lang/Throwable" 6 ∈ wg_all := wg_in 526 (by decide +kernel)
theorem wk_P_135 : Cond.methodLink "PairDecoder" 135 ⟨"java/lang/ArithmeticException", "<init>", "(Ljava/lang/String;)V"⟩ ∈ wg_all := wg_in 529 (by decide +kernel)
theorem wm_ArithmeticException_init : Cond.instanceMethod ⟨"java/lang/ArithmeticException", "<init>", "(Ljava/lang/String;)V"⟩ ∈ wg_all := wg_in 530 (by decide +kernel)
theorem wc_ArithmeticException_init : Cond.code ⟨"java/lang/ArithmeticException", "<init>", "(Ljava/lang/String;)V"⟩ prog_8_method_2_code 2 (Option.none : Option FieldType) ∈ wg_all := wg_in 531 (by decide +kernel)
theorem wm_RuntimeException_init : Cond.instanceMethod ⟨"java/lang/RuntimeException", "<init>", "(Ljava/lang/String;)V"⟩ ∈ wg_all := wg_in 533 (by decide +kernel)
theorem wc_RuntimeException_init : Cond.code ⟨"java/lang/RuntimeException", "<init>", "(Ljava/lang/String;)V"⟩ prog_13_method_2_code 2 (Option.none : Option FieldType) ∈ wg_all := wg_in 534 (by decide +kernel)
theorem wm_Exception_init : Cond.instanceMethod ⟨"java/lang/Exception", "<init>", "(Ljava/lang/String;)V"⟩ ∈ wg_all := wg_in 536 (by decide +kernel)
theorem wc_Exception_init : Cond.code ⟨"java/lang/Exception", "<init>", "(Ljava/lang/String;)V"⟩ prog_9_method_2_code 2 (Option.none : Option FieldType) ∈ wg_all := wg_in 537 (by decide +kernel)
theorem wa_byte : Cond.arrayClass .byte ∈ wg_all := wg_in 554 (by decide +kernel)
theorem wk_L_85 : Cond.methodLink "PairDecoderLaw" 85 y_L_commit ∈ wg_all := wg_in 555 (by decide +kernel)
theorem ws_L_commit : Cond.static y_L_commit ∈ wg_all := wg_in 556 (by decide +kernel)
theorem wk_L_15 : Cond.methodLink "PairDecoderLaw" 15 y_P_commit ∈ wg_all := wg_in 558 (by decide +kernel)
theorem wm_P_commit : Cond.instanceMethod y_P_commit ∈ wg_all := wg_in 559 (by decide +kernel)
theorem we_P_commit : Cond.selects "PairDecoder" y_P_commit y_P_commit ∈ wg_all := wg_in 560 (by decide +kernel)
theorem wc_P_commit : Cond.code y_P_commit b_P_commit 4 (some .int) ∈ wg_all := wg_in 561 (by decide +kernel)
theorem wk_P_168 : Cond.methodLink "PairDecoder" 168 y_P_isPairBefore ∈ wg_all := wg_in 562 (by decide +kernel)
theorem wm_P_isPairBefore : Cond.instanceMethod y_P_isPairBefore ∈ wg_all := wg_in 564 (by decide +kernel)
theorem wc_P_isPairBefore : Cond.code y_P_isPairBefore b_P_isPairBefore 4 (some .boolean) ∈ wg_all := wg_in 565 (by decide +kernel)
theorem wk_P_171 : Cond.methodLink "PairDecoder" 171 y_P_commitPair ∈ wg_all := wg_in 566 (by decide +kernel)
theorem wm_P_commitPair : Cond.instanceMethod y_P_commitPair ∈ wg_all := wg_in 568 (by decide +kernel)
theorem wc_P_commitPair : Cond.code y_P_commitPair b_P_commitPair 4 none ∈ wg_all := wg_in 569 (by decide +kernel)
theorem wk_P_195 : Cond.methodLink "PairDecoder" 195 y_W_trailAsSet ∈ wg_all := wg_in 570 (by decide +kernel)
theorem wk_L_20 : Cond.classLink "PairDecoderLaw" 20 "PairDecoderModel" ∈ wg_all := wg_in 571 (by decide +kernel)
theorem wn_D : Cond.instantiable "PairDecoderModel" 34 ∈ wg_all := wg_in 572 (by decide +kernel)
theorem wk_L_22 : Cond.methodLink "PairDecoderLaw" 22 y_D_init ∈ wg_all := wg_in 573 (by decide +kernel)
theorem wm_D_init : Cond.instanceMethod y_D_init ∈ wg_all := wg_in 574 (by decide +kernel)
theorem wc_D_init : Cond.code y_D_init b_D_init 1 none ∈ wg_all := wg_in 575 (by decide +kernel)
theorem wk_D_1 : Cond.methodLink "PairDecoderModel" 1 ⟨"java/lang/Object", "<init>", "()V"⟩ ∈ wg_all := wg_in 576 (by decide +kernel)
theorem wk_D_75 : Cond.fieldLink "PairDecoderModel" 75 "PairDecoderModel" "thrown" "I" ∈ wg_all := wg_in 577 (by decide +kernel)
theorem wk_D_79 : Cond.fieldLink "PairDecoderModel" 79 "PairDecoderModel" "points" "I" ∈ wg_all := wg_in 578 (by decide +kernel)
theorem wk_D_87 : Cond.fieldLink "PairDecoderModel" 87 "PairDecoderModel" "edges" "I" ∈ wg_all := wg_in 579 (by decide +kernel)
theorem wk_D_110 : Cond.fieldLink "PairDecoderModel" 110 "PairDecoderModel" "fired" "I" ∈ wg_all := wg_in 580 (by decide +kernel)
theorem wk_D_191 : Cond.fieldLink "PairDecoderModel" 191 "PairDecoderModel" "kept" "J" ∈ wg_all := wg_in 581 (by decide +kernel)
theorem wk_D_7 : Cond.fieldLink "PairDecoderModel" 7 "PairDecoderModel" "isBoundary" "[Z" ∈ wg_all := wg_in 582 (by decide +kernel)
theorem wk_D_13 : Cond.fieldLink "PairDecoderModel" 13 "PairDecoderModel" "timeOf" "[I" ∈ wg_all := wg_in 583 (by decide +kernel)
theorem wk_D_17 : Cond.fieldLink "PairDecoderModel" 17 "PairDecoderModel" "oneEnd" "[I" ∈ wg_all := wg_in 584 (by decide +kernel)
theorem wk_D_20 : Cond.fieldLink "PairDecoderModel" 20 "PairDecoderModel" "otherEnd" "[I" ∈ wg_all := wg_in 585 (by decide +kernel)
theorem wk_D_23 : Cond.fieldLink "PairDecoderModel" 23 "PairDecoderModel" "weightOf" "[I" ∈ wg_all := wg_in 586 (by decide +kernel)
theorem wk_D_26 : Cond.fieldLink "PairDecoderModel" 26 "PairDecoderModel" "signsOf" "[I" ∈ wg_all := wg_in 587 (by decide +kernel)
theorem wk_D_29 : Cond.fieldLink "PairDecoderModel" 29 "PairDecoderModel" "isErased" "[Z" ∈ wg_all := wg_in 588 (by decide +kernel)
theorem wk_D_32 : Cond.fieldLink "PairDecoderModel" 32 "PairDecoderModel" "weightTo" "[I" ∈ wg_all := wg_in 589 (by decide +kernel)
theorem wk_D_35 : Cond.fieldLink "PairDecoderModel" 35 "PairDecoderModel" "edgesTo" "[I" ∈ wg_all := wg_in 590 (by decide +kernel)
theorem wk_D_38 : Cond.fieldLink "PairDecoderModel" 38 "PairDecoderModel" "laid" "[I" ∈ wg_all := wg_in 591 (by decide +kernel)
theorem wk_D_127 : Cond.fieldLink "PairDecoderModel" 127 "PairDecoderModel" "laidLong" "I" ∈ wg_all := wg_in 592 (by decide +kernel)
theorem wk_D_136 : Cond.fieldLink "PairDecoderModel" 136 "PairDecoderModel" "many" "I" ∈ wg_all := wg_in 593 (by decide +kernel)
theorem wk_D_41 : Cond.fieldLink "PairDecoderModel" 41 "PairDecoderModel" "list" "[I" ∈ wg_all := wg_in 594 (by decide +kernel)
theorem wk_D_44 : Cond.fieldLink "PairDecoderModel" 44 "PairDecoderModel" "cost" "[I" ∈ wg_all := wg_in 595 (by decide +kernel)
theorem wk_D_47 : Cond.fieldLink "PairDecoderModel" 47 "PairDecoderModel" "boundaryOf" "[I" ∈ wg_all := wg_in 596 (by decide +kernel)
theorem wk_D_50 : Cond.fieldLink "PairDecoderModel" 50 "PairDecoderModel" "partner" "[I" ∈ wg_all := wg_in 597 (by decide +kernel)
theorem wk_D_53 : Cond.fieldLink "PairDecoderModel" 53 "PairDecoderModel" "best" "[I" ∈ wg_all := wg_in 598 (by decide +kernel)
theorem wk_D_56 : Cond.fieldLink "PairDecoderModel" 56 "PairDecoderModel" "first" "[I" ∈ wg_all := wg_in 599 (by decide +kernel)
theorem wk_D_59 : Cond.fieldLink "PairDecoderModel" 59 "PairDecoderModel" "tried" "[I" ∈ wg_all := wg_in 600 (by decide +kernel)
theorem wk_D_142 : Cond.fieldLink "PairDecoderModel" 142 "PairDecoderModel" "bestWeight" "I" ∈ wg_all := wg_in 601 (by decide +kernel)
theorem wk_D_139 : Cond.fieldLink "PairDecoderModel" 139 "PairDecoderModel" "bests" "I" ∈ wg_all := wg_in 602 (by decide +kernel)
theorem wk_D_166 : Cond.fieldLink "PairDecoderModel" 166 "PairDecoderModel" "pairs" "I" ∈ wg_all := wg_in 603 (by decide +kernel)
theorem wk_D_62 : Cond.fieldLink "PairDecoderModel" 62 "PairDecoderModel" "pairOne" "[I" ∈ wg_all := wg_in 604 (by decide +kernel)
theorem wk_D_65 : Cond.fieldLink "PairDecoderModel" 65 "PairDecoderModel" "pairOther" "[I" ∈ wg_all := wg_in 605 (by decide +kernel)
theorem wk_D_68 : Cond.fieldLink "PairDecoderModel" 68 "PairDecoderModel" "isAlone" "[Z" ∈ wg_all := wg_in 606 (by decide +kernel)
theorem wk_D_71 : Cond.fieldLink "PairDecoderModel" 71 "PairDecoderModel" "wayOf" "[J" ∈ wg_all := wg_in 607 (by decide +kernel)
theorem wk_D_173 : Cond.fieldLink "PairDecoderModel" 173 "PairDecoderModel" "least" "I" ∈ wg_all := wg_in 608 (by decide +kernel)
theorem wk_D_176 : Cond.fieldLink "PairDecoderModel" 176 "PairDecoderModel" "weight" "I" ∈ wg_all := wg_in 609 (by decide +kernel)
theorem wk_D_169 : Cond.fieldLink "PairDecoderModel" 169 "PairDecoderModel" "fix" "J" ∈ wg_all := wg_in 610 (by decide +kernel)
theorem wa_boolean : Cond.arrayClass .boolean ∈ wg_all := wg_in 680 (by decide +kernel)
theorem wk_L_57 : Cond.methodLink "PairDecoderLaw" 57 y_D_thrown ∈ wg_all := wg_in 681 (by decide +kernel)
theorem wm_D_thrown : Cond.instanceMethod y_D_thrown ∈ wg_all := wg_in 682 (by decide +kernel)
theorem we_D_thrown : Cond.selects "PairDecoderModel" y_D_thrown y_D_thrown ∈ wg_all := wg_in 683 (by decide +kernel)
theorem wc_D_thrown : Cond.code y_D_thrown b_D_thrown 1 (some .int) ∈ wg_all := wg_in 684 (by decide +kernel)
theorem wk_L_27 : Cond.methodLink "PairDecoderLaw" 27 y_D_point ∈ wg_all := wg_in 685 (by decide +kernel)
theorem wm_D_point : Cond.instanceMethod y_D_point ∈ wg_all := wg_in 686 (by decide +kernel)
theorem we_D_point : Cond.selects "PairDecoderModel" y_D_point y_D_point ∈ wg_all := wg_in 687 (by decide +kernel)
theorem wc_D_point : Cond.code y_D_point b_D_point 3 (some .int) ∈ wg_all := wg_in 688 (by decide +kernel)
theorem wk_L_32 : Cond.methodLink "PairDecoderLaw" 32 y_D_edge ∈ wg_all := wg_in 689 (by decide +kernel)
theorem wm_D_edge : Cond.instanceMethod y_D_edge ∈ wg_all := wg_in 690 (by decide +kernel)
theorem we_D_edge : Cond.selects "PairDecoderModel" y_D_edge y_D_edge ∈ wg_all := wg_in 691 (by decide +kernel)
theorem wc_D_edge : Cond.code y_D_edge b_D_edge 5 (some .int) ∈ wg_all := wg_in 692 (by decide +kernel)
theorem wk_D_90 : Cond.methodLink "PairDecoderModel" 90 y_D_canBe ∈ wg_all := wg_in 693 (by decide +kernel)
theorem wm_D_canBe : Cond.instanceMethod y_D_canBe ∈ wg_all := wg_in 695 (by decide +kernel)
theorem wc_D_canBe : Cond.code y_D_canBe b_D_canBe 5 (some .boolean) ∈ wg_all := wg_in 696 (by decide +kernel)
theorem wk_D_82 : Cond.methodLink "PairDecoderModel" 82 y_D_isPoint ∈ wg_all := wg_in 697 (by decide +kernel)
theorem wm_D_isPoint : Cond.instanceMethod y_D_isPoint ∈ wg_all := wg_in 699 (by decide +kernel)
theorem wc_D_isPoint : Cond.code y_D_isPoint b_D_isPoint 2 (some .boolean) ∈ wg_all := wg_in 700 (by decide +kernel)
theorem wk_D_86 : Cond.constant "PairDecoderModel" 86 (1000000 : Int32) ∈ wg_all := wg_in 701 (by decide +kernel)
theorem wk_D_94 : Cond.methodLink "PairDecoderModel" 94 y_D_add ∈ wg_all := wg_in 702 (by decide +kernel)
theorem wm_D_add : Cond.instanceMethod y_D_add ∈ wg_all := wg_in 704 (by decide +kernel)
theorem wc_D_add : Cond.code y_D_add b_D_add 5 none ∈ wg_all := wg_in 705 (by decide +kernel)
theorem wk_L_37 : Cond.methodLink "PairDecoderLaw" 37 y_D_fault ∈ wg_all := wg_in 706 (by decide +kernel)
theorem wm_D_fault : Cond.instanceMethod y_D_fault ∈ wg_all := wg_in 707 (by decide +kernel)
theorem we_D_fault : Cond.selects "PairDecoderModel" y_D_fault y_D_fault ∈ wg_all := wg_in 708 (by decide +kernel)
theorem wc_D_fault : Cond.code y_D_fault b_D_fault 6 (some .int) ∈ wg_all := wg_in 709 (by decide +kernel)
theorem wk_D_98 : Cond.methodLink "PairDecoderModel" 98 y_D_count ∈ wg_all := wg_in 710 (by decide +kernel)
theorem ws_D_count : Cond.static y_D_count ∈ wg_all := wg_in 711 (by decide +kernel)
theorem wc_D_count : Cond.code y_D_count b_D_count 3 (some .int) ∈ wg_all := wg_in 712 (by decide +kernel)
theorem wk_D_102 : Cond.methodLink "PairDecoderModel" 102 y_D_of ∈ wg_all := wg_in 713 (by decide +kernel)
theorem ws_D_of : Cond.static y_D_of ∈ wg_all := wg_in 714 (by decide +kernel)
theorem wc_D_of : Cond.code y_D_of b_D_of 4 (some .int) ∈ wg_all := wg_in 715 (by decide +kernel)
theorem wk_D_106 : Cond.methodLink "PairDecoderModel" 106 y_D_firstBoundary ∈ wg_all := wg_in 716 (by decide +kernel)
theorem wm_D_firstBoundary : Cond.instanceMethod y_D_firstBoundary ∈ wg_all := wg_in 718 (by decide +kernel)
theorem wc_D_firstBoundary : Cond.code y_D_firstBoundary b_D_firstBoundary 2 (some .int) ∈ wg_all := wg_in 719 (by decide +kernel)
theorem wk_L_42 : Cond.methodLink "PairDecoderLaw" 42 y_D_fire ∈ wg_all := wg_in 720 (by decide +kernel)
theorem wm_D_fire : Cond.instanceMethod y_D_fire ∈ wg_all := wg_in 721 (by decide +kernel)
theorem we_D_fire : Cond.selects "PairDecoderModel" y_D_fire y_D_fire ∈ wg_all := wg_in 722 (by decide +kernel)
theorem wc_D_fire : Cond.code y_D_fire b_D_fire 3 (some .boolean) ∈ wg_all := wg_in 723 (by decide +kernel)
theorem wk_L_46 : Cond.methodLink "PairDecoderLaw" 46 y_D_erase ∈ wg_all := wg_in 724 (by decide +kernel)
theorem wm_D_erase : Cond.instanceMethod y_D_erase ∈ wg_all := wg_in 725 (by decide +kernel)
theorem we_D_erase : Cond.selects "PairDecoderModel" y_D_erase y_D_erase ∈ wg_all := wg_in 726 (by decide +kernel)
theorem wc_D_erase : Cond.code y_D_erase b_D_erase 3 (some .boolean) ∈ wg_all := wg_in 727 (by decide +kernel)
theorem wk_L_50 : Cond.methodLink "PairDecoderLaw" 50 y_D_way ∈ wg_all := wg_in 728 (by decide +kernel)
theorem wm_D_way : Cond.instanceMethod y_D_way ∈ wg_all := wg_in 729 (by decide +kernel)
theorem we_D_way : Cond.selects "PairDecoderModel" y_D_way y_D_way ∈ wg_all := wg_in 730 (by decide +kernel)
theorem wc_D_way : Cond.code y_D_way b_D_way 5 (some .int) ∈ wg_all := wg_in 731 (by decide +kernel)
theorem wk_D_133 : Cond.methodLink "PairDecoderModel" 133 y_D_lay ∈ wg_all := wg_in 732 (by decide +kernel)
theorem wm_D_lay : Cond.instanceMethod y_D_lay ∈ wg_all := wg_in 734 (by decide +kernel)
theorem wc_D_lay : Cond.code y_D_lay b_D_lay 6 (some .boolean) ∈ wg_all := wg_in 735 (by decide +kernel)
theorem wk_D_123 : Cond.methodLink "PairDecoderModel" 123 y_D_findTo ∈ wg_all := wg_in 736 (by decide +kernel)
theorem wm_D_findTo : Cond.instanceMethod y_D_findTo ∈ wg_all := wg_in 738 (by decide +kernel)
theorem wc_D_findTo : Cond.code y_D_findTo b_D_findTo 6 none ∈ wg_all := wg_in 739 (by decide +kernel)
theorem wk_D_120 : Cond.methodLink "PairDecoderModel" 120 y_D_relax ∈ wg_all := wg_in 740 (by decide +kernel)
theorem wm_D_relax : Cond.instanceMethod y_D_relax ∈ wg_all := wg_in 742 (by decide +kernel)
theorem wc_D_relax : Cond.code y_D_relax b_D_relax 7 (some .boolean) ∈ wg_all := wg_in 743 (by decide +kernel)
theorem wk_D_113 : Cond.methodLink "PairDecoderModel" 113 y_D_goesOn ∈ wg_all := wg_in 744 (by decide +kernel)
theorem wm_D_goesOn : Cond.instanceMethod y_D_goesOn ∈ wg_all := wg_in 746 (by decide +kernel)
theorem wc_D_goesOn : Cond.code y_D_goesOn b_D_goesOn 3 (some .boolean) ∈ wg_all := wg_in 747 (by decide +kernel)
theorem wk_D_117 : Cond.methodLink "PairDecoderModel" 117 y_D_heavy ∈ wg_all := wg_in 748 (by decide +kernel)
theorem wm_D_heavy : Cond.instanceMethod y_D_heavy ∈ wg_all := wg_in 750 (by decide +kernel)
theorem wc_D_heavy : Cond.code y_D_heavy b_D_heavy 2 (some .int) ∈ wg_all := wg_in 751 (by decide +kernel)
theorem wk_D_130 : Cond.methodLink "PairDecoderModel" 130 y_D_nextEdge ∈ wg_all := wg_in 752 (by decide +kernel)
theorem wm_D_nextEdge : Cond.instanceMethod y_D_nextEdge ∈ wg_all := wg_in 754 (by decide +kernel)
theorem wc_D_nextEdge : Cond.code y_D_nextEdge b_D_nextEdge 5 (some .int) ∈ wg_all := wg_in 755 (by decide +kernel)
theorem wk_L_56 : Cond.methodLink "PairDecoderLaw" 56 y_D_decode ∈ wg_all := wg_in 756 (by decide +kernel)
theorem wm_D_decode : Cond.instanceMethod y_D_decode ∈ wg_all := wg_in 757 (by decide +kernel)
theorem we_D_decode : Cond.selects "PairDecoderModel" y_D_decode y_D_decode ∈ wg_all := wg_in 758 (by decide +kernel)
theorem wc_D_decode : Cond.code y_D_decode b_D_decode 1 (some .int) ∈ wg_all := wg_in 759 (by decide +kernel)
theorem wk_D_183 : Cond.methodLink "PairDecoderModel" 183 y_D_find ∈ wg_all := wg_in 760 (by decide +kernel)
theorem wm_D_find : Cond.instanceMethod y_D_find ∈ wg_all := wg_in 762 (by decide +kernel)
theorem wc_D_find : Cond.code y_D_find b_D_find 2 (some .boolean) ∈ wg_all := wg_in 763 (by decide +kernel)
theorem wk_D_160 : Cond.methodLink "PairDecoderModel" 160 y_D_findCosts ∈ wg_all := wg_in 764 (by decide +kernel)
theorem wm_D_findCosts : Cond.instanceMethod y_D_findCosts ∈ wg_all := wg_in 766 (by decide +kernel)
theorem wc_D_findCosts : Cond.code y_D_findCosts b_D_findCosts 4 none ∈ wg_all := wg_in 767 (by decide +kernel)
theorem wk_D_163 : Cond.methodLink "PairDecoderModel" 163 y_D_goThrough ∈ wg_all := wg_in 768 (by decide +kernel)
theorem wm_D_goThrough : Cond.instanceMethod y_D_goThrough ∈ wg_all := wg_in 770 (by decide +kernel)
theorem wc_D_goThrough : Cond.code y_D_goThrough b_D_goThrough 3 none ∈ wg_all := wg_in 771 (by decide +kernel)
theorem wk_D_151 : Cond.methodLink "PairDecoderModel" 151 y_D_hold ∈ wg_all := wg_in 772 (by decide +kernel)
theorem wm_D_hold : Cond.instanceMethod y_D_hold ∈ wg_all := wg_in 774 (by decide +kernel)
theorem wc_D_hold : Cond.code y_D_hold b_D_hold 3 none ∈ wg_all := wg_in 775 (by decide +kernel)
theorem wk_D_154 : Cond.methodLink "PairDecoderModel" 154 y_D_tryNext ∈ wg_all := wg_in 776 (by decide +kernel)
theorem wm_D_tryNext : Cond.instanceMethod y_D_tryNext ∈ wg_all := wg_in 778 (by decide +kernel)
theorem wc_D_tryNext : Cond.code y_D_tryNext b_D_tryNext 4 (some .boolean) ∈ wg_all := wg_in 779 (by decide +kernel)
theorem wk_D_145 : Cond.methodLink "PairDecoderModel" 145 y_D_unpair ∈ wg_all := wg_in 780 (by decide +kernel)
theorem wm_D_unpair : Cond.instanceMethod y_D_unpair ∈ wg_all := wg_in 782 (by decide +kernel)
theorem wc_D_unpair : Cond.code y_D_unpair b_D_unpair 2 none ∈ wg_all := wg_in 783 (by decide +kernel)
theorem wk_D_148 : Cond.methodLink "PairDecoderModel" 148 y_D_may ∈ wg_all := wg_in 784 (by decide +kernel)
theorem wm_D_may : Cond.instanceMethod y_D_may ∈ wg_all := wg_in 786 (by decide +kernel)
theorem wc_D_may : Cond.code y_D_may b_D_may 3 (some .boolean) ∈ wg_all := wg_in 787 (by decide +kernel)
theorem wk_D_157 : Cond.methodLink "PairDecoderModel" 157 y_D_firstFree ∈ wg_all := wg_in 788 (by decide +kernel)
theorem wm_D_firstFree : Cond.instanceMethod y_D_firstFree ∈ wg_all := wg_in 790 (by decide +kernel)
theorem wc_D_firstFree : Cond.code y_D_firstFree b_D_firstFree 2 (some .int) ∈ wg_all := wg_in 791 (by decide +kernel)
theorem wk_D_179 : Cond.methodLink "PairDecoderModel" 179 y_D_laidSet ∈ wg_all := wg_in 792 (by decide +kernel)
theorem wm_D_laidSet : Cond.instanceMethod y_D_laidSet ∈ wg_all := wg_in 794 (by decide +kernel)
theorem wc_D_laidSet : Cond.code y_D_laidSet b_D_laidSet 4 (some .long) ∈ wg_all := wg_in 795 (by decide +kernel)
theorem wk_L_64 : Cond.methodLink "PairDecoderLaw" 64 y_D_pair ∈ wg_all := wg_in 796 (by decide +kernel)
theorem wm_D_pair : Cond.instanceMethod y_D_pair ∈ wg_all := wg_in 797 (by decide +kernel)
theorem we_D_pair : Cond.selects "PairDecoderModel" y_D_pair y_D_pair ∈ wg_all := wg_in 798 (by decide +kernel)
theorem wc_D_pair : Cond.code y_D_pair b_D_pair 3 (some .int) ∈ wg_all := wg_in 799 (by decide +kernel)
theorem wk_L_68 : Cond.methodLink "PairDecoderLaw" 68 y_D_least ∈ wg_all := wg_in 800 (by decide +kernel)
theorem wm_D_least : Cond.instanceMethod y_D_least ∈ wg_all := wg_in 801 (by decide +kernel)
theorem we_D_least : Cond.selects "PairDecoderModel" y_D_least y_D_least ∈ wg_all := wg_in 802 (by decide +kernel)
theorem wc_D_least : Cond.code y_D_least b_D_least 1 (some .int) ∈ wg_all := wg_in 803 (by decide +kernel)
theorem wk_L_73 : Cond.methodLink "PairDecoderLaw" 73 y_D_fix ∈ wg_all := wg_in 804 (by decide +kernel)
theorem wm_D_fix : Cond.instanceMethod y_D_fix ∈ wg_all := wg_in 805 (by decide +kernel)
theorem we_D_fix : Cond.selects "PairDecoderModel" y_D_fix y_D_fix ∈ wg_all := wg_in 806 (by decide +kernel)
theorem wc_D_fix : Cond.code y_D_fix b_D_fix 1 (some .long) ∈ wg_all := wg_in 807 (by decide +kernel)
theorem wk_L_80 : Cond.methodLink "PairDecoderLaw" 80 y_D_signs ∈ wg_all := wg_in 808 (by decide +kernel)
theorem wm_D_signs : Cond.instanceMethod y_D_signs ∈ wg_all := wg_in 809 (by decide +kernel)
theorem we_D_signs : Cond.selects "PairDecoderModel" y_D_signs y_D_signs ∈ wg_all := wg_in 810 (by decide +kernel)
theorem wc_D_signs : Cond.code y_D_signs b_D_signs 5 (some .int) ∈ wg_all := wg_in 811 (by decide +kernel)
theorem wk_D_187 : Cond.methodLink "PairDecoderModel" 187 y_D_areEdges ∈ wg_all := wg_in 812 (by decide +kernel)
theorem wm_D_areEdges : Cond.instanceMethod y_D_areEdges ∈ wg_all := wg_in 814 (by decide +kernel)
theorem wc_D_areEdges : Cond.code y_D_areEdges b_D_areEdges 3 (some .boolean) ∈ wg_all := wg_in 815 (by decide +kernel)
theorem wk_L_84 : Cond.methodLink "PairDecoderLaw" 84 y_D_syndrome ∈ wg_all := wg_in 816 (by decide +kernel)
theorem wm_D_syndrome : Cond.instanceMethod y_D_syndrome ∈ wg_all := wg_in 817 (by decide +kernel)
theorem we_D_syndrome : Cond.selects "PairDecoderModel" y_D_syndrome y_D_syndrome ∈ wg_all := wg_in 818 (by decide +kernel)
theorem wc_D_syndrome : Cond.code y_D_syndrome b_D_syndrome 5 (some .int) ∈ wg_all := wg_in 819 (by decide +kernel)
theorem wk_L_88 : Cond.methodLink "PairDecoderLaw" 88 y_D_commit ∈ wg_all := wg_in 820 (by decide +kernel)
theorem wm_D_commit : Cond.instanceMethod y_D_commit ∈ wg_all := wg_in 821 (by decide +kernel)
theorem we_D_commit : Cond.selects "PairDecoderModel" y_D_commit y_D_commit ∈ wg_all := wg_in 822 (by decide +kernel)
theorem wc_D_commit : Cond.code y_D_commit b_D_commit 5 (some .int) ∈ wg_all := wg_in 823 (by decide +kernel)
theorem wk_L_92 : Cond.methodLink "PairDecoderLaw" 92 y_D_kept ∈ wg_all := wg_in 824 (by decide +kernel)
theorem wm_D_kept : Cond.instanceMethod y_D_kept ∈ wg_all := wg_in 825 (by decide +kernel)
theorem we_D_kept : Cond.selects "PairDecoderModel" y_D_kept y_D_kept ∈ wg_all := wg_in 826 (by decide +kernel)
theorem wc_D_kept : Cond.code y_D_kept b_D_kept 1 (some .long) ∈ wg_all := wg_in 827 (by decide +kernel)
theorem wk_L_96 : Cond.methodLink "PairDecoderLaw" 96 y_D_total ∈ wg_all := wg_in 828 (by decide +kernel)
theorem wm_D_total : Cond.instanceMethod y_D_total ∈ wg_all := wg_in 829 (by decide +kernel)
theorem we_D_total : Cond.selects "PairDecoderModel" y_D_total y_D_total ∈ wg_all := wg_in 830 (by decide +kernel)
theorem wc_D_total : Cond.code y_D_total b_D_total 4 (some .int) ∈ wg_all := wg_in 831 (by decide +kernel)
theorem wk_L_74 : Cond.constantLong "PairDecoderLaw" 74 (4294967295 : Int64) ∈ wg_all := wg_in 832 (by decide +kernel)
theorem we_P_isFired : Cond.selects "PairDecoder" y_P_isFired y_P_isFired ∈ wg_all := wg_in 0 (by decide +kernel)
theorem we_W_clearCosts : Cond.selects "PairDecoder$Ways" y_W_clearCosts y_W_clearCosts ∈ wg_all := wg_in 1 (by decide +kernel)
theorem we_W_edgeCost : Cond.selects "PairDecoder$Ways" y_W_edgeCost y_W_edgeCost ∈ wg_all := wg_in 2 (by decide +kernel)
theorem we_W_lower : Cond.selects "PairDecoder$Ways" y_W_lower y_W_lower ∈ wg_all := wg_in 3 (by decide +kernel)
theorem we_W_joinWaysAt : Cond.selects "PairDecoder$Ways" y_W_joinWaysAt y_W_joinWaysAt ∈ wg_all := wg_in 4 (by decide +kernel)
theorem we_W_firstEdgeTowards : Cond.selects "PairDecoder$Ways" y_W_firstEdgeTowards y_W_firstEdgeTowards ∈ wg_all := wg_in 5 (by decide +kernel)
theorem we_P_findPairing : Cond.selects "PairDecoder" y_P_findPairing y_P_findPairing ∈ wg_all := wg_in 6 (by decide +kernel)
theorem we_M_layRow : Cond.selects "PairDecoder$Matcher" y_M_layRow y_M_layRow ∈ wg_all := wg_in 7 (by decide +kernel)
theorem we_M_nearestBoundary : Cond.selects "PairDecoder$Matcher" y_M_nearestBoundary y_M_nearestBoundary ∈ wg_all := wg_in 8 (by decide +kernel)
theorem we_M_weighPairs : Cond.selects "PairDecoder$Matcher" y_M_weighPairs y_M_weighPairs ∈ wg_all := wg_in 9 (by decide +kernel)
theorem we_M_pointOf : Cond.selects "PairDecoder$Matcher" y_M_pointOf y_M_pointOf ∈ wg_all := wg_in 10 (by decide +kernel)
theorem we_M_wholeGroup : Cond.selects "PairDecoder$Matcher" y_M_wholeGroup y_M_wholeGroup ∈ wg_all := wg_in 11 (by decide +kernel)
theorem we_M_solveGroup : Cond.selects "PairDecoder$Matcher" y_M_solveGroup y_M_solveGroup ∈ wg_all := wg_in 12 (by decide +kernel)
theorem we_M_leastPlace : Cond.selects "PairDecoder$Matcher" y_M_leastPlace y_M_leastPlace ∈ wg_all := wg_in 13 (by decide +kernel)
theorem we_M_weightWith : Cond.selects "PairDecoder$Matcher" y_M_weightWith y_M_weightWith ∈ wg_all := wg_in 14 (by decide +kernel)
theorem we_M_weighIn : Cond.selects "PairDecoder$Matcher" y_M_weighIn y_M_weighIn ∈ wg_all := wg_in 15 (by decide +kernel)
theorem we_M_firstPartner : Cond.selects "PairDecoder$Matcher" y_M_firstPartner y_M_firstPartner ∈ wg_all := wg_in 16 (by decide +kernel)
theorem we_P_isPairBefore : Cond.selects "PairDecoder" y_P_isPairBefore y_P_isPairBefore ∈ wg_all := wg_in 18 (by decide +kernel)
theorem we_P_commitPair : Cond.selects "PairDecoder" y_P_commitPair y_P_commitPair ∈ wg_all := wg_in 19 (by decide +kernel)
theorem we_D_canBe : Cond.selects "PairDecoderModel" y_D_canBe y_D_canBe ∈ wg_all := wg_in 20 (by decide +kernel)
theorem we_D_isPoint : Cond.selects "PairDecoderModel" y_D_isPoint y_D_isPoint ∈ wg_all := wg_in 21 (by decide +kernel)
theorem we_D_add : Cond.selects "PairDecoderModel" y_D_add y_D_add ∈ wg_all := wg_in 22 (by decide +kernel)
theorem we_D_firstBoundary : Cond.selects "PairDecoderModel" y_D_firstBoundary y_D_firstBoundary ∈ wg_all := wg_in 23 (by decide +kernel)
theorem we_D_lay : Cond.selects "PairDecoderModel" y_D_lay y_D_lay ∈ wg_all := wg_in 24 (by decide +kernel)
theorem we_D_findTo : Cond.selects "PairDecoderModel" y_D_findTo y_D_findTo ∈ wg_all := wg_in 25 (by decide +kernel)
theorem we_D_relax : Cond.selects "PairDecoderModel" y_D_relax y_D_relax ∈ wg_all := wg_in 26 (by decide +kernel)
theorem we_D_goesOn : Cond.selects "PairDecoderModel" y_D_goesOn y_D_goesOn ∈ wg_all := wg_in 27 (by decide +kernel)
theorem we_D_heavy : Cond.selects "PairDecoderModel" y_D_heavy y_D_heavy ∈ wg_all := wg_in 28 (by decide +kernel)
theorem we_D_nextEdge : Cond.selects "PairDecoderModel" y_D_nextEdge y_D_nextEdge ∈ wg_all := wg_in 29 (by decide +kernel)
theorem we_D_find : Cond.selects "PairDecoderModel" y_D_find y_D_find ∈ wg_all := wg_in 30 (by decide +kernel)
theorem we_D_findCosts : Cond.selects "PairDecoderModel" y_D_findCosts y_D_findCosts ∈ wg_all := wg_in 31 (by decide +kernel)
theorem we_D_goThrough : Cond.selects "PairDecoderModel" y_D_goThrough y_D_goThrough ∈ wg_all := wg_in 32 (by decide +kernel)
theorem we_D_hold : Cond.selects "PairDecoderModel" y_D_hold y_D_hold ∈ wg_all := wg_in 33 (by decide +kernel)
theorem we_D_tryNext : Cond.selects "PairDecoderModel" y_D_tryNext y_D_tryNext ∈ wg_all := wg_in 34 (by decide +kernel)
theorem we_D_unpair : Cond.selects "PairDecoderModel" y_D_unpair y_D_unpair ∈ wg_all := wg_in 35 (by decide +kernel)
theorem we_D_may : Cond.selects "PairDecoderModel" y_D_may y_D_may ∈ wg_all := wg_in 36 (by decide +kernel)
theorem we_D_firstFree : Cond.selects "PairDecoderModel" y_D_firstFree y_D_firstFree ∈ wg_all := wg_in 37 (by decide +kernel)
theorem we_D_laidSet : Cond.selects "PairDecoderModel" y_D_laidSet y_D_laidSet ∈ wg_all := wg_in 38 (by decide +kernel)
theorem we_D_areEdges : Cond.selects "PairDecoderModel" y_D_areEdges y_D_areEdges ∈ wg_all := wg_in 39 (by decide +kernel)
theorem i_G : ∀ w ∈ w_G, w ∈ wg_all := by decide +kernel
theorem i_W : ∀ w ∈ w_W, w ∈ wg_all := by decide +kernel
theorem i_F : ∀ w ∈ w_F, w ∈ wg_all := by decide +kernel
theorem i_M : ∀ w ∈ w_M, w ∈ wg_all := by decide +kernel
theorem i_P : ∀ w ∈ w_P, w ∈ wg_all := by decide +kernel
theorem i_D : ∀ w ∈ w_D, w ∈ wg_all := by decide +kernel
end
section
theorem d_G_init_0 : decode b_G_init 0 = .ok (.aload_n 0, 1) := by decide +kernel
theorem d_G_init_1 : decode b_G_init 1 = .ok (.invokespecial 3, 3) := by decide +kernel
theorem d_G_init_4 : decode b_G_init 4 = .ok (.aload_n 0, 1) := by decide +kernel
theorem d_G_init_5 : decode b_G_init 5 = .ok (.bipush 20, 2) := by decide +kernel
theorem d_G_init_7 : decode b_G_init 7 = .ok (.newarray .int, 2) := by decide +kernel
theorem d_G_init_9 : decode b_G_init 9 = .ok (.putfield 9, 3) := by decide +kernel
theorem d_G_init_12 : decode b_G_init 12 = .ok (.aload_n 0, 1) := by decide +kernel
theorem d_G_init_13 : decode b_G_init 13 = .ok (.bipush 60, 2) := by decide +kernel
theorem d_G_init_15 : decode b_G_init 15 = .ok (.newarray .int, 2) := by decide +kernel
theorem d_G_init_17 : decode b_G_init 17 = .ok (.putfield 15, 3) := by decide +kernel
theorem d_G_init_20 : decode b_G_init 20 = .ok (.aload_n 0, 1) := by decide +kernel
theorem d_G_init_21 : decode b_G_init 21 = .ok (.bipush 60, 2) := by decide +kernel
theorem d_G_init_23 : decode b_G_init 23 = .ok (.newarray .int, 2) := by decide +kernel
theorem d_G_init_25 : decode b_G_init 25 = .ok (.putfield 18, 3) := by decide +kernel
theorem d_G_init_28 : decode b_G_init 28 = .ok (.aload_n 0, 1) := by decide +kernel
theorem d_G_init_29 : decode b_G_init 29 = .ok (.bipush 60, 2) := by decide +kernel
theorem d_G_init_31 : decode b_G_init 31 = .ok (.newarray .int, 2) := by decide +kernel
theorem d_G_init_33 : decode b_G_init 33 = .ok (.putfield 21, 3) := by decide +kernel
theorem d_G_init_36 : decode b_G_init 36 = .ok (.aload_n 0, 1) := by decide +kernel
theorem d_G_init_37 : decode b_G_init 37 = .ok (.bipush 60, 2) := by decide +kernel
theorem d_G_init_39 : decode b_G_init 39 = .ok (.newarray .int, 2) := by decide +kernel
theorem d_G_init_41 : decode b_G_init 41 = .ok (.putfield 24, 3) := by decide +kernel
theorem d_G_init_44 : decode b_G_init 44 = .ok (.aload_n 0, 1) := by decide +kernel
theorem d_G_init_45 : decode b_G_init 45 = .ok (.iconst 0, 1) := by decide +kernel
theorem d_G_init_46 : decode b_G_init 46 = .ok (.putfield 27, 3) := by decide +kernel
theorem d_G_init_49 : decode b_G_init 49 = .ok (.aload_n 0, 1) := by decide +kernel
theorem d_G_init_50 : decode b_G_init 50 = .ok (.iconst 0, 1) := by decide +kernel
theorem d_G_init_51 : decode b_G_init 51 = .ok (.putfield 31, 3) := by decide +kernel
theorem d_G_init_54 : decode b_G_init 54 = .ok (.aload_n 0, 1) := by decide +kernel
theorem d_G_init_55 : decode b_G_init 55 = .ok (.iconst 0, 1) := by decide +kernel
theorem d_G_init_56 : decode b_G_init 56 = .ok (.putfield 34, 3) := by decide +kernel
theorem d_G_init_59 : decode b_G_init 59 = .ok (.aload_n 0, 1) := by decide +kernel
theorem d_G_init_60 : decode b_G_init 60 = .ok (.lconst 0, 1) := by decide +kernel
theorem d_G_init_61 : decode b_G_init 61 = .ok (.putfield 37, 3) := by decide +kernel
theorem d_G_init_64 : decode b_G_init 64 = .ok (.aload_n 0, 1) := by decide +kernel
theorem d_G_init_65 : decode b_G_init 65 = .ok (.iconst 0, 1) := by decide +kernel
theorem d_G_init_66 : decode b_G_init 66 = .ok (.putfield 41, 3) := by decide +kernel
theorem d_G_init_69 : decode b_G_init 69 = .ok (.return_, 1) := by decide +kernel
theorem d_G_addPoint_0 : decode b_G_addPoint 0 = .ok (.aload_n 0, 1) := by decide +kernel
theorem d_G_addPoint_1 : decode b_G_addPoint 1 = .ok (.getfield 27, 3) := by decide +kernel
theorem d_G_addPoint_4 : decode b_G_addPoint 4 = .ok (.istore_n 3, 1) := by decide +kernel
theorem d_G_addPoint_5 : decode b_G_addPoint 5 = .ok (.aload_n 0, 1) := by decide +kernel
theorem d_G_addPoint_6 : decode b_G_addPoint 6 = .ok (.getfield 9, 3) := by decide +kernel
theorem d_G_addPoint_9 : decode b_G_addPoint 9 = .ok (.iload_n 3, 1) := by decide +kernel
theorem d_G_addPoint_10 : decode b_G_addPoint 10 = .ok (.iload_n 2, 1) := by decide +kernel
theorem d_G_addPoint_11 : decode b_G_addPoint 11 = .ok (.iastore, 1) := by decide +kernel
theorem d_G_addPoint_12 : decode b_G_addPoint 12 = .ok (.iload_n 1, 1) := by decide +kernel
theorem d_G_addPoint_13 : decode b_G_addPoint 13 = .ok (.ifCond .eq 15, 3) := by decide +kernel
theorem d_G_addPoint_16 : decode b_G_addPoint 16 = .ok (.aload_n 0, 1) := by decide +kernel
theorem d_G_addPoint_17 : decode b_G_addPoint 17 = .ok (.dup, 1) := by decide +kernel
theorem d_G_addPoint_18 : decode b_G_addPoint 18 = .ok (.getfield 34, 3) := by decide +kernel
theorem d_G_addPoint_21 : decode b_G_addPoint 21 = .ok (.iconst 1, 1) := by decide +kernel
theorem d_G_addPoint_22 : decode b_G_addPoint 22 = .ok (.iload_n 3, 1) := by decide +kernel
theorem d_G_addPoint_23 : decode b_G_addPoint 23 = .ok (.ishl, 1) := by decide +kernel
theorem d_G_addPoint_24 : decode b_G_addPoint 24 = .ok (.ior, 1) := by decide +kernel
theorem d_G_addPoint_25 : decode b_G_addPoint 25 = .ok (.putfield 34, 3) := by decide +kernel
theorem d_G_addPoint_28 : decode b_G_addPoint 28 = .ok (.aload_n 0, 1) := by decide +kernel
theorem d_G_addPoint_29 : decode b_G_addPoint 29 = .ok (.dup, 1) := by decide +kernel
theorem d_G_addPoint_30 : decode b_G_addPoint 30 = .ok (.getfield 27, 3) := by decide +kernel
theorem d_G_addPoint_33 : decode b_G_addPoint 33 = .ok (.iconst 1, 1) := by decide +kernel
theorem d_G_addPoint_34 : decode b_G_addPoint 34 = .ok (.iadd, 1) := by decide +kernel
theorem d_G_addPoint_35 : decode b_G_addPoint 35 = .ok (.putfield 27, 3) := by decide +kernel
theorem d_G_addPoint_38 : decode b_G_addPoint 38 = .ok (.aload_n 0, 1) := by decide +kernel
theorem d_G_addPoint_39 : decode b_G_addPoint 39 = .ok (.dup, 1) := by decide +kernel
theorem d_G_addPoint_40 : decode b_G_addPoint 40 = .ok (.getfield 41, 3) := by decide +kernel
theorem d_G_addPoint_43 : decode b_G_addPoint 43 = .ok (.iconst 1, 1) := by decide +kernel
theorem d_G_addPoint_44 : decode b_G_addPoint 44 = .ok (.iadd, 1) := by decide +kernel
theorem d_G_addPoint_45 : decode b_G_addPoint 45 = .ok (.putfield 41, 3) := by decide +kernel
theorem d_G_addPoint_48 : decode b_G_addPoint 48 = .ok (.iload_n 3, 1) := by decide +kernel
theorem d_G_addPoint_49 : decode b_G_addPoint 49 = .ok (.ireturn, 1) := by decide +kernel
theorem d_G_canJoin_0 : decode b_G_canJoin 0 = .ok (.aload_n 0, 1) := by decide +kernel
theorem d_G_canJoin_1 : decode b_G_canJoin 1 = .ok (.iload_n 1, 1) := by decide +kernel
theorem d_G_canJoin_2 : decode b_G_canJoin 2 = .ok (.invokevirtual 48, 3) := by decide +kernel
theorem d_G_canJoin_5 : decode b_G_canJoin 5 = .ok (.ifCond .eq 36, 3) := by decide +kernel
theorem d_G_canJoin_8 : decode b_G_canJoin 8 = .ok (.aload_n 0, 1) := by decide +kernel
theorem d_G_canJoin_9 : decode b_G_canJoin 9 = .ok (.iload_n 2, 1) := by decide +kernel
theorem d_G_canJoin_10 : decode b_G_canJoin 10 = .ok (.invokevirtual 48, 3) := by decide +kernel
theorem d_G_canJoin_13 : decode b_G_canJoin 13 = .ok (.ifCond .eq 28, 3) := by decide +kernel
theorem d_G_canJoin_16 : decode b_G_canJoin 16 = .ok (.iload_n 1, 1) := by decide +kernel
theorem d_G_canJoin_17 : decode b_G_canJoin 17 = .ok (.iload_n 2, 1) := by decide +kernel
theorem d_G_canJoin_18 : decode b_G_canJoin 18 = .ok (.if_icmp .eq 23, 3) := by decide +kernel
theorem d_G_canJoin_21 : decode b_G_canJoin 21 = .ok (.aload_n 0, 1) := by decide +kernel
theorem d_G_canJoin_22 : decode b_G_canJoin 22 = .ok (.iload_n 1, 1) := by decide +kernel
theorem d_G_canJoin_23 : decode b_G_canJoin 23 = .ok (.invokevirtual 52, 3) := by decide +kernel
theorem d_G_canJoin_26 : decode b_G_canJoin 26 = .ok (.ifCond .eq 11, 3) := by decide +kernel
theorem d_G_canJoin_29 : decode b_G_canJoin 29 = .ok (.aload_n 0, 1) := by decide +kernel
theorem d_G_canJoin_30 : decode b_G_canJoin 30 = .ok (.iload_n 2, 1) := by decide +kernel
theorem d_G_canJoin_31 : decode b_G_canJoin 31 = .ok (.invokevirtual 52, 3) := by decide +kernel
theorem d_G_canJoin_34 : decode b_G_canJoin 34 = .ok (.ifCond .ne 7, 3) := by decide +kernel
theorem d_G_canJoin_37 : decode b_G_canJoin 37 = .ok (.iconst 1, 1) := by decide +kernel
theorem d_G_canJoin_38 : decode b_G_canJoin 38 = .ok (.goto 4, 3) := by decide +kernel
theorem d_G_canJoin_41 : decode b_G_canJoin 41 = .ok (.iconst 0, 1) := by decide +kernel
theorem d_G_canJoin_42 : decode b_G_canJoin 42 = .ok (.ireturn, 1) := by decide +kernel
theorem d_G_hasPoint_0 : decode b_G_hasPoint 0 = .ok (.iload_n 1, 1) := by decide +kernel
theorem d_G_hasPoint_1 : decode b_G_hasPoint 1 = .ok (.ifCond .lt 15, 3) := by decide +kernel
theorem d_G_hasPoint_4 : decode b_G_hasPoint 4 = .ok (.iload_n 1, 1) := by decide +kernel
theorem d_G_hasPoint_5 : decode b_G_hasPoint 5 = .ok (.aload_n 0, 1) := by decide +kernel
theorem d_G_hasPoint_6 : decode b_G_hasPoint 6 = .ok (.getfield 27, 3) := by decide +kernel
theorem d_G_hasPoint_9 : decode b_G_hasPoint 9 = .ok (.if_icmp .ge 7, 3) := by decide +kernel
theorem d_G_hasPoint_12 : decode b_G_hasPoint 12 = .ok (.iconst 1, 1) := by decide +kernel
theorem d_G_hasPoint_13 : decode b_G_hasPoint 13 = .ok (.goto 4, 3) := by decide +kernel
theorem d_G_hasPoint_16 : decode b_G_hasPoint 16 = .ok (.iconst 0, 1) := by decide +kernel
theorem d_G_hasPoint_17 : decode b_G_hasPoint 17 = .ok (.ireturn, 1) := by decide +kernel
theorem d_G_isBoundary_0 : decode b_G_isBoundary 0 = .ok (.aload_n 0, 1) := by decide +kernel
theorem d_G_isBoundary_1 : decode b_G_isBoundary 1 = .ok (.getfield 34, 3) := by decide +kernel
theorem d_G_isBoundary_4 : decode b_G_isBoundary 4 = .ok (.iload_n 1, 1) := by decide +kernel
theorem d_G_isBoundary_5 : decode b_G_isBoundary 5 = .ok (.ishr, 1) := by decide +kernel
theorem d_G_isBoundary_6 : decode b_G_isBoundary 6 = .ok (.iconst 1, 1) := by decide +kernel
theorem d_G_isBoundary_7 : decode b_G_isBoundary 7 = .ok (.iand, 1) := by decide +kernel
theorem d_G_isBoundary_8 : decode b_G_isBoundary 8 = .ok (.iconst 1, 1) := by decide +kernel
theorem d_G_isBoundary_9 : decode b_G_isBoundary 9 = .ok (.if_icmp .ne 7, 3) := by decide +kernel
theorem d_G_isBoundary_12 : decode b_G_isBoundary 12 = .ok (.iconst 1, 1) := by decide +kernel
theorem d_G_isBoundary_13 : decode b_G_isBoundary 13 = .ok (.goto 4, 3) := by decide +kernel
theorem d_G_isBoundary_16 : decode b_G_isBoundary 16 = .ok (.iconst 0, 1) := by decide +kernel
theorem d_G_isBoundary_17 : decode b_G_isBoundary 17 = .ok (.ireturn, 1) := by decide +kernel
theorem d_G_hasRoomFor_0 : decode b_G_hasRoomFor 0 = .ok (.aload_n 0, 1) := by decide +kernel
theorem d_G_hasRoomFor_1 : decode b_G_hasRoomFor 1 = .ok (.getfield 31, 3) := by decide +kernel
theorem d_G_hasRoomFor_4 : decode b_G_hasRoomFor 4 = .ok (.iload_n 1, 1) := by decide +kernel
theorem d_G_hasRoomFor_5 : decode b_G_hasRoomFor 5 = .ok (.iadd, 1) := by decide +kernel
theorem d_G_hasRoomFor_6 : decode b_G_hasRoomFor 6 = .ok (.bipush 60, 2) := by decide +kernel
theorem d_G_hasRoomFor_8 : decode b_G_hasRoomFor 8 = .ok (.if_icmp .gt 7, 3) := by decide +kernel
theorem d_G_hasRoomFor_11 : decode b_G_hasRoomFor 11 = .ok (.iconst 1, 1) := by decide +kernel
theorem d_G_hasRoomFor_12 : decode b_G_hasRoomFor 12 = .ok (.goto 4, 3) := by decide +kernel
theorem d_G_hasRoomFor_15 : decode b_G_hasRoomFor 15 = .ok (.iconst 0, 1) := by decide +kernel
theorem d_G_hasRoomFor_16 : decode b_G_hasRoomFor 16 = .ok (.ireturn, 1) := by decide +kernel
theorem d_G_addEdge_0 : decode b_G_addEdge 0 = .ok (.aload_n 0, 1) := by decide +kernel
theorem d_G_addEdge_1 : decode b_G_addEdge 1 = .ok (.getfield 31, 3) := by decide +kernel
theorem d_G_addEdge_4 : decode b_G_addEdge 4 = .ok (.istore 5, 2) := by decide +kernel
theorem d_G_addEdge_6 : decode b_G_addEdge 6 = .ok (.aload_n 0, 1) := by decide +kernel
theorem d_G_addEdge_7 : decode b_G_addEdge 7 = .ok (.getfield 15, 3) := by decide +kernel
theorem d_G_addEdge_10 : decode b_G_addEdge 10 = .ok (.iload 5, 2) := by decide +kernel
theorem d_G_addEdge_12 : decode b_G_addEdge 12 = .ok (.iload_n 1, 1) := by decide +kernel
theorem d_G_addEdge_13 : decode b_G_addEdge 13 = .ok (.iastore, 1) := by decide +kernel
theorem d_G_addEdge_14 : decode b_G_addEdge 14 = .ok (.aload_n 0, 1) := by decide +kernel
theorem d_G_addEdge_15 : decode b_G_addEdge 15 = .ok (.getfield 18, 3) := by decide +kernel
theorem d_G_addEdge_18 : decode b_G_addEdge 18 = .ok (.iload 5, 2) := by decide +kernel
theorem d_G_addEdge_20 : decode b_G_addEdge 20 = .ok (.iload_n 2, 1) := by decide +kernel
theorem d_G_addEdge_21 : decode b_G_addEdge 21 = .ok (.iastore, 1) := by decide +kernel
theorem d_G_addEdge_22 : decode b_G_addEdge 22 = .ok (.aload_n 0, 1) := by decide +kernel
theorem d_G_addEdge_23 : decode b_G_addEdge 23 = .ok (.getfield 21, 3) := by decide +kernel
theorem d_G_addEdge_26 : decode b_G_addEdge 26 = .ok (.iload 5, 2) := by decide +kernel
theorem d_G_addEdge_28 : decode b_G_addEdge 28 = .ok (.iload_n 3, 1) := by decide +kernel
theorem d_G_addEdge_29 : decode b_G_addEdge 29 = .ok (.iastore, 1) := by decide +kernel
theorem d_G_addEdge_30 : decode b_G_addEdge 30 = .ok (.aload_n 0, 1) := by decide +kernel
theorem d_G_addEdge_31 : decode b_G_addEdge 31 = .ok (.getfield 24, 3) := by decide +kernel
theorem d_G_addEdge_34 : decode b_G_addEdge 34 = .ok (.iload 5, 2) := by decide +kernel
theorem d_G_addEdge_36 : decode b_G_addEdge 36 = .ok (.iload 4, 2) := by decide +kernel
theorem d_G_addEdge_38 : decode b_G_addEdge 38 = .ok (.iastore, 1) := by decide +kernel
theorem d_G_addEdge_39 : decode b_G_addEdge 39 = .ok (.aload_n 0, 1) := by decide +kernel
theorem d_G_addEdge_40 : decode b_G_addEdge 40 = .ok (.dup, 1) := by decide +kernel
theorem d_G_addEdge_41 : decode b_G_addEdge 41 = .ok (.getfield 31, 3) := by decide +kernel
theorem d_G_addEdge_44 : decode b_G_addEdge 44 = .ok (.iconst 1, 1) := by decide +kernel
theorem d_G_addEdge_45 : decode b_G_addEdge 45 = .ok (.iadd, 1) := by decide +kernel
theorem d_G_addEdge_46 : decode b_G_addEdge 46 = .ok (.putfield 31, 3) := by decide +kernel
theorem d_G_addEdge_49 : decode b_G_addEdge 49 = .ok (.aload_n 0, 1) := by decide +kernel
theorem d_G_addEdge_50 : decode b_G_addEdge 50 = .ok (.dup, 1) := by decide +kernel
theorem d_G_addEdge_51 : decode b_G_addEdge 51 = .ok (.getfield 41, 3) := by decide +kernel
theorem d_G_addEdge_54 : decode b_G_addEdge 54 = .ok (.iconst 1, 1) := by decide +kernel
theorem d_G_addEdge_55 : decode b_G_addEdge 55 = .ok (.iadd, 1) := by decide +kernel
theorem d_G_addEdge_56 : decode b_G_addEdge 56 = .ok (.putfield 41, 3) := by decide +kernel
theorem d_G_addEdge_59 : decode b_G_addEdge 59 = .ok (.iload 5, 2) := by decide +kernel
theorem d_G_addEdge_61 : decode b_G_addEdge 61 = .ok (.ireturn, 1) := by decide +kernel
theorem d_G_hasPoints_0 : decode b_G_hasPoints 0 = .ok (.iload_n 1, 1) := by decide +kernel
theorem d_G_hasPoints_1 : decode b_G_hasPoints 1 = .ok (.aload_n 0, 1) := by decide +kernel
theorem d_G_hasPoints_2 : decode b_G_hasPoints 2 = .ok (.getfield 27, 3) := by decide +kernel
theorem d_G_hasPoints_5 : decode b_G_hasPoints 5 = .ok (.iushr, 1) := by decide +kernel
theorem d_G_hasPoints_6 : decode b_G_hasPoints 6 = .ok (.ifCond .ne 7, 3) := by decide +kernel
theorem d_G_hasPoints_9 : decode b_G_hasPoints 9 = .ok (.iconst 1, 1) := by decide +kernel
theorem d_G_hasPoints_10 : decode b_G_hasPoints 10 = .ok (.goto 4, 3) := by decide +kernel
theorem d_G_hasPoints_13 : decode b_G_hasPoints 13 = .ok (.iconst 0, 1) := by decide +kernel
theorem d_G_hasPoints_14 : decode b_G_hasPoints 14 = .ok (.ireturn, 1) := by decide +kernel
theorem d_G_leastBoundary_0 : decode b_G_leastBoundary 0 = .ok (.aload_n 0, 1) := by decide +kernel
theorem d_G_leastBoundary_1 : decode b_G_leastBoundary 1 = .ok (.getfield 34, 3) := by decide +kernel
theorem d_G_leastBoundary_4 : decode b_G_leastBoundary 4 = .ok (.iconst 0, 1) := by decide +kernel
theorem d_G_leastBoundary_5 : decode b_G_leastBoundary 5 = .ok (.invokestatic 44, 3) := by decide +kernel
theorem d_G_leastBoundary_8 : decode b_G_leastBoundary 8 = .ok (.ireturn, 1) := by decide +kernel
theorem d_G_hasEdge_0 : decode b_G_hasEdge 0 = .ok (.iload_n 1, 1) := by decide +kernel
theorem d_G_hasEdge_1 : decode b_G_hasEdge 1 = .ok (.ifCond .lt 15, 3) := by decide +kernel
theorem d_G_hasEdge_4 : decode b_G_hasEdge 4 = .ok (.iload_n 1, 1) := by decide +kernel
theorem d_G_hasEdge_5 : decode b_G_hasEdge 5 = .ok (.aload_n 0, 1) := by decide +kernel
theorem d_G_hasEdge_6 : decode b_G_hasEdge 6 = .ok (.getfield 31, 3) := by decide +kernel
theorem d_G_hasEdge_9 : decode b_G_hasEdge 9 = .ok (.if_icmp .ge 7, 3) := by decide +kernel
theorem d_G_hasEdge_12 : decode b_G_hasEdge 12 = .ok (.iconst 1, 1) := by decide +kernel
theorem d_G_hasEdge_13 : decode b_G_hasEdge 13 = .ok (.goto 4, 3) := by decide +kernel
theorem d_G_hasEdge_16 : decode b_G_hasEdge 16 = .ok (.iconst 0, 1) := by decide +kernel
theorem d_G_hasEdge_17 : decode b_G_hasEdge 17 = .ok (.ireturn, 1) := by decide +kernel
theorem d_G_isErased_0 : decode b_G_isErased 0 = .ok (.aload_n 0, 1) := by decide +kernel
theorem d_G_isErased_1 : decode b_G_isErased 1 = .ok (.getfield 37, 3) := by decide +kernel
theorem d_G_isErased_4 : decode b_G_isErased 4 = .ok (.iload_n 1, 1) := by decide +kernel
theorem d_G_isErased_5 : decode b_G_isErased 5 = .ok (.lshr, 1) := by decide +kernel
theorem d_G_isErased_6 : decode b_G_isErased 6 = .ok (.lconst 1, 1) := by decide +kernel
theorem d_G_isErased_7 : decode b_G_isErased 7 = .ok (.land, 1) := by decide +kernel
theorem d_G_isErased_8 : decode b_G_isErased 8 = .ok (.lconst 1, 1) := by decide +kernel
theorem d_G_isErased_9 : decode b_G_isErased 9 = .ok (.lcmp, 1) := by decide +kernel
theorem d_G_isErased_10 : decode b_G_isErased 10 = .ok (.ifCond .ne 7, 3) := by decide +kernel
theorem d_G_isErased_13 : decode b_G_isErased 13 = .ok (.iconst 1, 1) := by decide +kernel
theorem d_G_isErased_14 : decode b_G_isErased 14 = .ok (.goto 4, 3) := by decide +kernel
theorem d_G_isErased_17 : decode b_G_isErased 17 = .ok (.iconst 0, 1) := by decide +kernel
theorem d_G_isErased_18 : decode b_G_isErased 18 = .ok (.ireturn, 1) := by decide +kernel
theorem d_G_turnErased_0 : decode b_G_turnErased 0 = .ok (.aload_n 0, 1) := by decide +kernel
theorem d_G_turnErased_1 : decode b_G_turnErased 1 = .ok (.dup, 1) := by decide +kernel
theorem d_G_turnErased_2 : decode b_G_turnErased 2 = .ok (.getfield 37, 3) := by decide +kernel
theorem d_G_turnErased_5 : decode b_G_turnErased 5 = .ok (.lconst 1, 1) := by decide +kernel
theorem d_G_turnErased_6 : decode b_G_turnErased 6 = .ok (.iload_n 1, 1) := by decide +kernel
theorem d_G_turnErased_7 : decode b_G_turnErased 7 = .ok (.lshl, 1) := by decide +kernel
theorem d_G_turnErased_8 : decode b_G_turnErased 8 = .ok (.lxor, 1) := by decide +kernel
theorem d_G_turnErased_9 : decode b_G_turnErased 9 = .ok (.putfield 37, 3) := by decide +kernel
theorem d_G_turnErased_12 : decode b_G_turnErased 12 = .ok (.aload_n 0, 1) := by decide +kernel
theorem d_G_turnErased_13 : decode b_G_turnErased 13 = .ok (.dup, 1) := by decide +kernel
theorem d_G_turnErased_14 : decode b_G_turnErased 14 = .ok (.getfield 41, 3) := by decide +kernel
theorem d_G_turnErased_17 : decode b_G_turnErased 17 = .ok (.iconst 1, 1) := by decide +kernel
theorem d_G_turnErased_18 : decode b_G_turnErased 18 = .ok (.iadd, 1) := by decide +kernel
theorem d_G_turnErased_19 : decode b_G_turnErased 19 = .ok (.putfield 41, 3) := by decide +kernel
theorem d_G_turnErased_22 : decode b_G_turnErased 22 = .ok (.return_, 1) := by decide +kernel
theorem d_G_weightNow_0 : decode b_G_weightNow 0 = .ok (.aload_n 0, 1) := by decide +kernel
theorem d_G_weightNow_1 : decode b_G_weightNow 1 = .ok (.getfield 37, 3) := by decide +kernel
theorem d_G_weightNow_4 : decode b_G_weightNow 4 = .ok (.iload_n 1, 1) := by decide +kernel
theorem d_G_weightNow_5 : decode b_G_weightNow 5 = .ok (.lshr, 1) := by decide +kernel
theorem d_G_weightNow_6 : decode b_G_weightNow 6 = .ok (.lconst 1, 1) := by decide +kernel
theorem d_G_weightNow_7 : decode b_G_weightNow 7 = .ok (.land, 1) := by decide +kernel
theorem d_G_weightNow_8 : decode b_G_weightNow 8 = .ok (.lconst 1, 1) := by decide +kernel
theorem d_G_weightNow_9 : decode b_G_weightNow 9 = .ok (.lcmp, 1) := by decide +kernel
theorem d_G_weightNow_10 : decode b_G_weightNow 10 = .ok (.ifCond .ne 7, 3) := by decide +kernel
theorem d_G_weightNow_13 : decode b_G_weightNow 13 = .ok (.iconst 0, 1) := by decide +kernel
theorem d_G_weightNow_14 : decode b_G_weightNow 14 = .ok (.goto 9, 3) := by decide +kernel
theorem d_G_weightNow_17 : decode b_G_weightNow 17 = .ok (.aload_n 0, 1) := by decide +kernel
theorem d_G_weightNow_18 : decode b_G_weightNow 18 = .ok (.getfield 21, 3) := by decide +kernel
theorem d_G_weightNow_21 : decode b_G_weightNow 21 = .ok (.iload_n 1, 1) := by decide +kernel
theorem d_G_weightNow_22 : decode b_G_weightNow 22 = .ok (.iaload, 1) := by decide +kernel
theorem d_G_weightNow_23 : decode b_G_weightNow 23 = .ok (.ireturn, 1) := by decide +kernel
theorem d_G_endBeyond_0 : decode b_G_endBeyond 0 = .ok (.aload_n 0, 1) := by decide +kernel
theorem d_G_endBeyond_1 : decode b_G_endBeyond 1 = .ok (.getfield 15, 3) := by decide +kernel
theorem d_G_endBeyond_4 : decode b_G_endBeyond 4 = .ok (.iload_n 1, 1) := by decide +kernel
theorem d_G_endBeyond_5 : decode b_G_endBeyond 5 = .ok (.iaload, 1) := by decide +kernel
theorem d_G_endBeyond_6 : decode b_G_endBeyond 6 = .ok (.iload_n 2, 1) := by decide +kernel
theorem d_G_endBeyond_7 : decode b_G_endBeyond 7 = .ok (.if_icmp .ne 10, 3) := by decide +kernel
theorem d_G_endBeyond_10 : decode b_G_endBeyond 10 = .ok (.aload_n 0, 1) := by decide +kernel
theorem d_G_endBeyond_11 : decode b_G_endBeyond 11 = .ok (.getfield 18, 3) := by decide +kernel
theorem d_G_endBeyond_14 : decode b_G_endBeyond 14 = .ok (.iload_n 1, 1) := by decide +kernel
theorem d_G_endBeyond_15 : decode b_G_endBeyond 15 = .ok (.iaload, 1) := by decide +kernel
theorem d_G_endBeyond_16 : decode b_G_endBeyond 16 = .ok (.ireturn, 1) := by decide +kernel
theorem d_G_endBeyond_17 : decode b_G_endBeyond 17 = .ok (.aload_n 0, 1) := by decide +kernel
theorem d_G_endBeyond_18 : decode b_G_endBeyond 18 = .ok (.getfield 18, 3) := by decide +kernel
theorem d_G_endBeyond_21 : decode b_G_endBeyond 21 = .ok (.iload_n 1, 1) := by decide +kernel
theorem d_G_endBeyond_22 : decode b_G_endBeyond 22 = .ok (.iaload, 1) := by decide +kernel
theorem d_G_endBeyond_23 : decode b_G_endBeyond 23 = .ok (.iload_n 2, 1) := by decide +kernel
theorem d_G_endBeyond_24 : decode b_G_endBeyond 24 = .ok (.if_icmp .ne 12, 3) := by decide +kernel
theorem d_G_endBeyond_27 : decode b_G_endBeyond 27 = .ok (.aload_n 0, 1) := by decide +kernel
theorem d_G_endBeyond_28 : decode b_G_endBeyond 28 = .ok (.getfield 15, 3) := by decide +kernel
theorem d_G_endBeyond_31 : decode b_G_endBeyond 31 = .ok (.iload_n 1, 1) := by decide +kernel
theorem d_G_endBeyond_32 : decode b_G_endBeyond 32 = .ok (.iaload, 1) := by decide +kernel
theorem d_G_endBeyond_33 : decode b_G_endBeyond 33 = .ok (.goto 4, 3) := by decide +kernel
theorem d_G_endBeyond_36 : decode b_G_endBeyond 36 = .ok (.iconst (-1), 1) := by decide +kernel
theorem d_G_endBeyond_37 : decode b_G_endBeyond 37 = .ok (.ireturn, 1) := by decide +kernel
theorem d_G_hasEdges_0 : decode b_G_hasEdges 0 = .ok (.lload_n 1, 1) := by decide +kernel
theorem d_G_hasEdges_1 : decode b_G_hasEdges 1 = .ok (.aload_n 0, 1) := by decide +kernel
theorem d_G_hasEdges_2 : decode b_G_hasEdges 2 = .ok (.getfield 31, 3) := by decide +kernel
theorem d_G_hasEdges_5 : decode b_G_hasEdges 5 = .ok (.lushr, 1) := by decide +kernel
theorem d_G_hasEdges_6 : decode b_G_hasEdges 6 = .ok (.lconst 0, 1) := by decide +kernel
theorem d_G_hasEdges_7 : decode b_G_hasEdges 7 = .ok (.lcmp, 1) := by decide +kernel
theorem d_G_hasEdges_8 : decode b_G_hasEdges 8 = .ok (.ifCond .ne 7, 3) := by decide +kernel
theorem d_G_hasEdges_11 : decode b_G_hasEdges 11 = .ok (.iconst 1, 1) := by decide +kernel
theorem d_G_hasEdges_12 : decode b_G_hasEdges 12 = .ok (.goto 4, 3) := by decide +kernel
theorem d_G_hasEdges_15 : decode b_G_hasEdges 15 = .ok (.iconst 0, 1) := by decide +kernel
theorem d_G_hasEdges_16 : decode b_G_hasEdges 16 = .ok (.ireturn, 1) := by decide +kernel
theorem d_G_oddSigns_0 : decode b_G_oddSigns 0 = .ok (.iconst 0, 1) := by decide +kernel
theorem d_G_oddSigns_1 : decode b_G_oddSigns 1 = .ok (.istore_n 3, 1) := by decide +kernel
theorem d_G_oddSigns_2 : decode b_G_oddSigns 2 = .ok (.iconst 0, 1) := by decide +kernel
theorem d_G_oddSigns_3 : decode b_G_oddSigns 3 = .ok (.istore 4, 2) := by decide +kernel
theorem d_G_oddSigns_5 : decode b_G_oddSigns 5 = .ok (.iload 4, 2) := by decide +kernel
theorem d_G_oddSigns_7 : decode b_G_oddSigns 7 = .ok (.aload_n 0, 1) := by decide +kernel
theorem d_G_oddSigns_8 : decode b_G_oddSigns 8 = .ok (.getfield 31, 3) := by decide +kernel
theorem d_G_oddSigns_11 : decode b_G_oddSigns 11 = .ok (.if_icmp .ge 30, 3) := by decide +kernel
theorem d_G_oddSigns_14 : decode b_G_oddSigns 14 = .ok (.lload_n 1, 1) := by decide +kernel
theorem d_G_oddSigns_15 : decode b_G_oddSigns 15 = .ok (.iload 4, 2) := by decide +kernel
theorem d_G_oddSigns_17 : decode b_G_oddSigns 17 = .ok (.lshr, 1) := by decide +kernel
theorem d_G_oddSigns_18 : decode b_G_oddSigns 18 = .ok (.lconst 1, 1) := by decide +kernel
theorem d_G_oddSigns_19 : decode b_G_oddSigns 19 = .ok (.land, 1) := by decide +kernel
theorem d_G_oddSigns_20 : decode b_G_oddSigns 20 = .ok (.lconst 1, 1) := by decide +kernel
theorem d_G_oddSigns_21 : decode b_G_oddSigns 21 = .ok (.lcmp, 1) := by decide +kernel
theorem d_G_oddSigns_22 : decode b_G_oddSigns 22 = .ok (.ifCond .ne 13, 3) := by decide +kernel
theorem d_G_oddSigns_25 : decode b_G_oddSigns 25 = .ok (.iload_n 3, 1) := by decide +kernel
theorem d_G_oddSigns_26 : decode b_G_oddSigns 26 = .ok (.aload_n 0, 1) := by decide +kernel
theorem d_G_oddSigns_27 : decode b_G_oddSigns 27 = .ok (.getfield 24, 3) := by decide +kernel
theorem d_G_oddSigns_30 : decode b_G_oddSigns 30 = .ok (.iload 4, 2) := by decide +kernel
theorem d_G_oddSigns_32 : decode b_G_oddSigns 32 = .ok (.iaload, 1) := by decide +kernel
theorem d_G_oddSigns_33 : decode b_G_oddSigns 33 = .ok (.ixor, 1) := by decide +kernel
theorem d_G_oddSigns_34 : decode b_G_oddSigns 34 = .ok (.istore_n 3, 1) := by decide +kernel
theorem d_G_oddSigns_35 : decode b_G_oddSigns 35 = .ok (.iinc 4 1, 3) := by decide +kernel
theorem d_G_oddSigns_38 : decode b_G_oddSigns 38 = .ok (.goto (-33), 3) := by decide +kernel
theorem d_G_oddSigns_41 : decode b_G_oddSigns 41 = .ok (.iload_n 3, 1) := by decide +kernel
theorem d_G_oddSigns_42 : decode b_G_oddSigns 42 = .ok (.ireturn, 1) := by decide +kernel
theorem d_G_oddPoints_0 : decode b_G_oddPoints 0 = .ok (.iconst 0, 1) := by decide +kernel
theorem d_G_oddPoints_1 : decode b_G_oddPoints 1 = .ok (.istore_n 3, 1) := by decide +kernel
theorem d_G_oddPoints_2 : decode b_G_oddPoints 2 = .ok (.iconst 0, 1) := by decide +kernel
theorem d_G_oddPoints_3 : decode b_G_oddPoints 3 = .ok (.istore 4, 2) := by decide +kernel
theorem d_G_oddPoints_5 : decode b_G_oddPoints 5 = .ok (.iload 4, 2) := by decide +kernel
theorem d_G_oddPoints_7 : decode b_G_oddPoints 7 = .ok (.aload_n 0, 1) := by decide +kernel
theorem d_G_oddPoints_8 : decode b_G_oddPoints 8 = .ok (.getfield 31, 3) := by decide +kernel
theorem d_G_oddPoints_11 : decode b_G_oddPoints 11 = .ok (.if_icmp .ge 42, 3) := by decide +kernel
theorem d_G_oddPoints_14 : decode b_G_oddPoints 14 = .ok (.lload_n 1, 1) := by decide +kernel
theorem d_G_oddPoints_15 : decode b_G_oddPoints 15 = .ok (.iload 4, 2) := by decide +kernel
theorem d_G_oddPoints_17 : decode b_G_oddPoints 17 = .ok (.lshr, 1) := by decide +kernel
theorem d_G_oddPoints_18 : decode b_G_oddPoints 18 = .ok (.lconst 1, 1) := by decide +kernel
theorem d_G_oddPoints_19 : decode b_G_oddPoints 19 = .ok (.land, 1) := by decide +kernel
theorem d_G_oddPoints_20 : decode b_G_oddPoints 20 = .ok (.lconst 1, 1) := by decide +kernel
theorem d_G_oddPoints_21 : decode b_G_oddPoints 21 = .ok (.lcmp, 1) := by decide +kernel
theorem d_G_oddPoints_22 : decode b_G_oddPoints 22 = .ok (.ifCond .ne 25, 3) := by decide +kernel
theorem d_G_oddPoints_25 : decode b_G_oddPoints 25 = .ok (.iload_n 3, 1) := by decide +kernel
theorem d_G_oddPoints_26 : decode b_G_oddPoints 26 = .ok (.iconst 1, 1) := by decide +kernel
theorem d_G_oddPoints_27 : decode b_G_oddPoints 27 = .ok (.aload_n 0, 1) := by decide +kernel
theorem d_G_oddPoints_28 : decode b_G_oddPoints 28 = .ok (.getfield 15, 3) := by decide +kernel
theorem d_G_oddPoints_31 : decode b_G_oddPoints 31 = .ok (.iload 4, 2) := by decide +kernel
theorem d_G_oddPoints_33 : decode b_G_oddPoints 33 = .ok (.iaload, 1) := by decide +kernel
theorem d_G_oddPoints_34 : decode b_G_oddPoints 34 = .ok (.ishl, 1) := by decide +kernel
theorem d_G_oddPoints_35 : decode b_G_oddPoints 35 = .ok (.iconst 1, 1) := by decide +kernel
theorem d_G_oddPoints_36 : decode b_G_oddPoints 36 = .ok (.aload_n 0, 1) := by decide +kernel
theorem d_G_oddPoints_37 : decode b_G_oddPoints 37 = .ok (.getfield 18, 3) := by decide +kernel
theorem d_G_oddPoints_40 : decode b_G_oddPoints 40 = .ok (.iload 4, 2) := by decide +kernel
theorem d_G_oddPoints_42 : decode b_G_oddPoints 42 = .ok (.iaload, 1) := by decide +kernel
theorem d_G_oddPoints_43 : decode b_G_oddPoints 43 = .ok (.ishl, 1) := by decide +kernel
theorem d_G_oddPoints_44 : decode b_G_oddPoints 44 = .ok (.ixor, 1) := by decide +kernel
theorem d_G_oddPoints_45 : decode b_G_oddPoints 45 = .ok (.ixor, 1) := by decide +kernel
theorem d_G_oddPoints_46 : decode b_G_oddPoints 46 = .ok (.istore_n 3, 1) := by decide +kernel
theorem d_G_oddPoints_47 : decode b_G_oddPoints 47 = .ok (.iinc 4 1, 3) := by decide +kernel
theorem d_G_oddPoints_50 : decode b_G_oddPoints 50 = .ok (.goto (-45), 3) := by decide +kernel
theorem d_G_oddPoints_53 : decode b_G_oddPoints 53 = .ok (.iload_n 3, 1) := by decide +kernel
theorem d_G_oddPoints_54 : decode b_G_oddPoints 54 = .ok (.aload_n 0, 1) := by decide +kernel
theorem d_G_oddPoints_55 : decode b_G_oddPoints 55 = .ok (.getfield 34, 3) := by decide +kernel
theorem d_G_oddPoints_58 : decode b_G_oddPoints 58 = .ok (.iconst (-1), 1) := by decide +kernel
theorem d_G_oddPoints_59 : decode b_G_oddPoints 59 = .ok (.ixor, 1) := by decide +kernel
theorem d_G_oddPoints_60 : decode b_G_oddPoints 60 = .ok (.iand, 1) := by decide +kernel
theorem d_G_oddPoints_61 : decode b_G_oddPoints 61 = .ok (.ireturn, 1) := by decide +kernel
end
section
theorem d_W_init_0 : decode b_W_init 0 = .ok (.aload_n 0, 1) := by decide +kernel
theorem d_W_init_1 : decode b_W_init 1 = .ok (.invokespecial 3, 3) := by decide +kernel
theorem d_W_init_4 : decode b_W_init 4 = .ok (.aload_n 0, 1) := by decide +kernel
theorem d_W_init_5 : decode b_W_init 5 = .ok (.sipush 400, 3) := by decide +kernel
theorem d_W_init_8 : decode b_W_init 8 = .ok (.newarray .long, 2) := by decide +kernel
theorem d_W_init_10 : decode b_W_init 10 = .ok (.putfield 9, 3) := by decide +kernel
theorem d_W_init_13 : decode b_W_init 13 = .ok (.aload_n 0, 1) := by decide +kernel
theorem d_W_init_14 : decode b_W_init 14 = .ok (.bipush 20, 2) := by decide +kernel
theorem d_W_init_16 : decode b_W_init 16 = .ok (.newarray .int, 2) := by decide +kernel
theorem d_W_init_18 : decode b_W_init 18 = .ok (.putfield 15, 3) := by decide +kernel
theorem d_W_init_21 : decode b_W_init 21 = .ok (.aload_n 0, 1) := by decide +kernel
theorem d_W_init_22 : decode b_W_init 22 = .ok (.iconst (-1), 1) := by decide +kernel
theorem d_W_init_23 : decode b_W_init 23 = .ok (.putfield 19, 3) := by decide +kernel
theorem d_W_init_26 : decode b_W_init 26 = .ok (.aload_n 0, 1) := by decide +kernel
theorem d_W_init_27 : decode b_W_init 27 = .ok (.iconst 0, 1) := by decide +kernel
theorem d_W_init_28 : decode b_W_init 28 = .ok (.putfield 23, 3) := by decide +kernel
theorem d_W_init_31 : decode b_W_init 31 = .ok (.aload_n 0, 1) := by decide +kernel
theorem d_W_init_32 : decode b_W_init 32 = .ok (.aload_n 1, 1) := by decide +kernel
theorem d_W_init_33 : decode b_W_init 33 = .ok (.putfield 26, 3) := by decide +kernel
theorem d_W_init_36 : decode b_W_init 36 = .ok (.return_, 1) := by decide +kernel
theorem d_W_measure_0 : decode b_W_measure 0 = .ok (.aload_n 0, 1) := by decide +kernel
theorem d_W_measure_1 : decode b_W_measure 1 = .ok (.getfield 19, 3) := by decide +kernel
theorem d_W_measure_4 : decode b_W_measure 4 = .ok (.aload_n 0, 1) := by decide +kernel
theorem d_W_measure_5 : decode b_W_measure 5 = .ok (.getfield 26, 3) := by decide +kernel
theorem d_W_measure_8 : decode b_W_measure 8 = .ok (.getfield 30, 3) := by decide +kernel
theorem d_W_measure_11 : decode b_W_measure 11 = .ok (.if_icmp .ne 4, 3) := by decide +kernel
theorem d_W_measure_14 : decode b_W_measure 14 = .ok (.return_, 1) := by decide +kernel
theorem d_W_measure_15 : decode b_W_measure 15 = .ok (.aload_n 0, 1) := by decide +kernel
theorem d_W_measure_16 : decode b_W_measure 16 = .ok (.invokevirtual 35, 3) := by decide +kernel
theorem d_W_measure_19 : decode b_W_measure 19 = .ok (.iconst 0, 1) := by decide +kernel
theorem d_W_measure_20 : decode b_W_measure 20 = .ok (.istore_n 1, 1) := by decide +kernel
theorem d_W_measure_21 : decode b_W_measure 21 = .ok (.iload_n 1, 1) := by decide +kernel
theorem d_W_measure_22 : decode b_W_measure 22 = .ok (.aload_n 0, 1) := by decide +kernel
theorem d_W_measure_23 : decode b_W_measure 23 = .ok (.getfield 26, 3) := by decide +kernel
theorem d_W_measure_26 : decode b_W_measure 26 = .ok (.getfield 38, 3) := by decide +kernel
theorem d_W_measure_29 : decode b_W_measure 29 = .ok (.if_icmp .ge 51, 3) := by decide +kernel
theorem d_W_measure_32 : decode b_W_measure 32 = .ok (.aload_n 0, 1) := by decide +kernel
theorem d_W_measure_33 : decode b_W_measure 33 = .ok (.getfield 26, 3) := by decide +kernel
theorem d_W_measure_36 : decode b_W_measure 36 = .ok (.getfield 41, 3) := by decide +kernel
theorem d_W_measure_39 : decode b_W_measure 39 = .ok (.iload_n 1, 1) := by decide +kernel
theorem d_W_measure_40 : decode b_W_measure 40 = .ok (.iaload, 1) := by decide +kernel
theorem d_W_measure_41 : decode b_W_measure 41 = .ok (.istore_n 2, 1) := by decide +kernel
theorem d_W_measure_42 : decode b_W_measure 42 = .ok (.aload_n 0, 1) := by decide +kernel
theorem d_W_measure_43 : decode b_W_measure 43 = .ok (.getfield 26, 3) := by decide +kernel
theorem d_W_measure_46 : decode b_W_measure 46 = .ok (.getfield 44, 3) := by decide +kernel
theorem d_W_measure_49 : decode b_W_measure 49 = .ok (.iload_n 1, 1) := by decide +kernel
theorem d_W_measure_50 : decode b_W_measure 50 = .ok (.iaload, 1) := by decide +kernel
theorem d_W_measure_51 : decode b_W_measure 51 = .ok (.istore_n 3, 1) := by decide +kernel
theorem d_W_measure_52 : decode b_W_measure 52 = .ok (.aload_n 0, 1) := by decide +kernel
theorem d_W_measure_53 : decode b_W_measure 53 = .ok (.iload_n 2, 1) := by decide +kernel
theorem d_W_measure_54 : decode b_W_measure 54 = .ok (.iload_n 3, 1) := by decide +kernel
theorem d_W_measure_55 : decode b_W_measure 55 = .ok (.aload_n 0, 1) := by decide +kernel
theorem d_W_measure_56 : decode b_W_measure 56 = .ok (.iload_n 1, 1) := by decide +kernel
theorem d_W_measure_57 : decode b_W_measure 57 = .ok (.invokevirtual 47, 3) := by decide +kernel
theorem d_W_measure_60 : decode b_W_measure 60 = .ok (.invokevirtual 51, 3) := by decide +kernel
theorem d_W_measure_63 : decode b_W_measure 63 = .ok (.aload_n 0, 1) := by decide +kernel
theorem d_W_measure_64 : decode b_W_measure 64 = .ok (.iload_n 3, 1) := by decide +kernel
theorem d_W_measure_65 : decode b_W_measure 65 = .ok (.iload_n 2, 1) := by decide +kernel
theorem d_W_measure_66 : decode b_W_measure 66 = .ok (.aload_n 0, 1) := by decide +kernel
theorem d_W_measure_67 : decode b_W_measure 67 = .ok (.iload_n 1, 1) := by decide +kernel
theorem d_W_measure_68 : decode b_W_measure 68 = .ok (.invokevirtual 47, 3) := by decide +kernel
theorem d_W_measure_71 : decode b_W_measure 71 = .ok (.invokevirtual 51, 3) := by decide +kernel
theorem d_W_measure_74 : decode b_W_measure 74 = .ok (.iinc 1 1, 3) := by decide +kernel
theorem d_W_measure_77 : decode b_W_measure 77 = .ok (.goto (-56), 3) := by decide +kernel
theorem d_W_measure_80 : decode b_W_measure 80 = .ok (.iconst 0, 1) := by decide +kernel
theorem d_W_measure_81 : decode b_W_measure 81 = .ok (.istore_n 1, 1) := by decide +kernel
theorem d_W_measure_82 : decode b_W_measure 82 = .ok (.iload_n 1, 1) := by decide +kernel
theorem d_W_measure_83 : decode b_W_measure 83 = .ok (.aload_n 0, 1) := by decide +kernel
theorem d_W_measure_84 : decode b_W_measure 84 = .ok (.getfield 26, 3) := by decide +kernel
theorem d_W_measure_87 : decode b_W_measure 87 = .ok (.getfield 55, 3) := by decide +kernel
theorem d_W_measure_90 : decode b_W_measure 90 = .ok (.if_icmp .ge 25, 3) := by decide +kernel
theorem d_W_measure_93 : decode b_W_measure 93 = .ok (.aload_n 0, 1) := by decide +kernel
theorem d_W_measure_94 : decode b_W_measure 94 = .ok (.getfield 26, 3) := by decide +kernel
theorem d_W_measure_97 : decode b_W_measure 97 = .ok (.iload_n 1, 1) := by decide +kernel
theorem d_W_measure_98 : decode b_W_measure 98 = .ok (.invokevirtual 58, 3) := by decide +kernel
theorem d_W_measure_101 : decode b_W_measure 101 = .ok (.ifCond .ne 8, 3) := by decide +kernel
theorem d_W_measure_104 : decode b_W_measure 104 = .ok (.aload_n 0, 1) := by decide +kernel
theorem d_W_measure_105 : decode b_W_measure 105 = .ok (.iload_n 1, 1) := by decide +kernel
theorem d_W_measure_106 : decode b_W_measure 106 = .ok (.invokevirtual 62, 3) := by decide +kernel
theorem d_W_measure_109 : decode b_W_measure 109 = .ok (.iinc 1 1, 3) := by decide +kernel
theorem d_W_measure_112 : decode b_W_measure 112 = .ok (.goto (-30), 3) := by decide +kernel
theorem d_W_measure_115 : decode b_W_measure 115 = .ok (.aload_n 0, 1) := by decide +kernel
theorem d_W_measure_116 : decode b_W_measure 116 = .ok (.aload_n 0, 1) := by decide +kernel
theorem d_W_measure_117 : decode b_W_measure 117 = .ok (.getfield 26, 3) := by decide +kernel
theorem d_W_measure_120 : decode b_W_measure 120 = .ok (.getfield 30, 3) := by decide +kernel
theorem d_W_measure_123 : decode b_W_measure 123 = .ok (.putfield 19, 3) := by decide +kernel
theorem d_W_measure_126 : decode b_W_measure 126 = .ok (.return_, 1) := by decide +kernel
theorem d_W_clearCosts_0 : decode b_W_clearCosts 0 = .ok (.iconst 0, 1) := by decide +kernel
theorem d_W_clearCosts_1 : decode b_W_clearCosts 1 = .ok (.istore_n 1, 1) := by decide +kernel
theorem d_W_clearCosts_2 : decode b_W_clearCosts 2 = .ok (.iload_n 1, 1) := by decide +kernel
theorem d_W_clearCosts_3 : decode b_W_clearCosts 3 = .ok (.aload_n 0, 1) := by decide +kernel
theorem d_W_clearCosts_4 : decode b_W_clearCosts 4 = .ok (.getfield 26, 3) := by decide +kernel
theorem d_W_clearCosts_7 : decode b_W_clearCosts 7 = .ok (.getfield 55, 3) := by decide +kernel
theorem d_W_clearCosts_10 : decode b_W_clearCosts 10 = .ok (.if_icmp .ge 50, 3) := by decide +kernel
theorem d_W_clearCosts_13 : decode b_W_clearCosts 13 = .ok (.iconst 0, 1) := by decide +kernel
theorem d_W_clearCosts_14 : decode b_W_clearCosts 14 = .ok (.istore_n 2, 1) := by decide +kernel
theorem d_W_clearCosts_15 : decode b_W_clearCosts 15 = .ok (.iload_n 2, 1) := by decide +kernel
theorem d_W_clearCosts_16 : decode b_W_clearCosts 16 = .ok (.aload_n 0, 1) := by decide +kernel
theorem d_W_clearCosts_17 : decode b_W_clearCosts 17 = .ok (.getfield 26, 3) := by decide +kernel
theorem d_W_clearCosts_20 : decode b_W_clearCosts 20 = .ok (.getfield 55, 3) := by decide +kernel
theorem d_W_clearCosts_23 : decode b_W_clearCosts 23 = .ok (.if_icmp .ge 31, 3) := by decide +kernel
theorem d_W_clearCosts_26 : decode b_W_clearCosts 26 = .ok (.aload_n 0, 1) := by decide +kernel
theorem d_W_clearCosts_27 : decode b_W_clearCosts 27 = .ok (.getfield 9, 3) := by decide +kernel
theorem d_W_clearCosts_30 : decode b_W_clearCosts 30 = .ok (.iload_n 1, 1) := by decide +kernel
theorem d_W_clearCosts_31 : decode b_W_clearCosts 31 = .ok (.iload_n 2, 1) := by decide +kernel
theorem d_W_clearCosts_32 : decode b_W_clearCosts 32 = .ok (.invokestatic 66, 3) := by decide +kernel
theorem d_W_clearCosts_35 : decode b_W_clearCosts 35 = .ok (.iload_n 1, 1) := by decide +kernel
theorem d_W_clearCosts_36 : decode b_W_clearCosts 36 = .ok (.iload_n 2, 1) := by decide +kernel
theorem d_W_clearCosts_37 : decode b_W_clearCosts 37 = .ok (.if_icmp .ne 7, 3) := by decide +kernel
theorem d_W_clearCosts_40 : decode b_W_clearCosts 40 = .ok (.lconst 0, 1) := by decide +kernel
theorem d_W_clearCosts_41 : decode b_W_clearCosts 41 = .ok (.goto 6, 3) := by decide +kernel
theorem d_W_clearCosts_44 : decode b_W_clearCosts 44 = .ok (.ldc2_w 70, 3) := by decide +kernel
theorem d_W_clearCosts_47 : decode b_W_clearCosts 47 = .ok (.lastore, 1) := by decide +kernel
theorem d_W_clearCosts_48 : decode b_W_clearCosts 48 = .ok (.iinc 2 1, 3) := by decide +kernel
theorem d_W_clearCosts_51 : decode b_W_clearCosts 51 = .ok (.goto (-36), 3) := by decide +kernel
theorem d_W_clearCosts_54 : decode b_W_clearCosts 54 = .ok (.iinc 1 1, 3) := by decide +kernel
theorem d_W_clearCosts_57 : decode b_W_clearCosts 57 = .ok (.goto (-55), 3) := by decide +kernel
theorem d_W_clearCosts_60 : decode b_W_clearCosts 60 = .ok (.return_, 1) := by decide +kernel
theorem d_W_at_0 : decode b_W_at 0 = .ok (.iload_n 0, 1) := by decide +kernel
theorem d_W_at_1 : decode b_W_at 1 = .ok (.bipush 20, 2) := by decide +kernel
theorem d_W_at_3 : decode b_W_at 3 = .ok (.imul, 1) := by decide +kernel
theorem d_W_at_4 : decode b_W_at 4 = .ok (.iload_n 1, 1) := by decide +kernel
theorem d_W_at_5 : decode b_W_at 5 = .ok (.iadd, 1) := by decide +kernel
theorem d_W_at_6 : decode b_W_at 6 = .ok (.ireturn, 1) := by decide +kernel
theorem d_W_edgeCost_0 : decode b_W_edgeCost 0 = .ok (.aload_n 0, 1) := by decide +kernel
theorem d_W_edgeCost_1 : decode b_W_edgeCost 1 = .ok (.getfield 26, 3) := by decide +kernel
theorem d_W_edgeCost_4 : decode b_W_edgeCost 4 = .ok (.iload_n 1, 1) := by decide +kernel
theorem d_W_edgeCost_5 : decode b_W_edgeCost 5 = .ok (.invokevirtual 88, 3) := by decide +kernel
theorem d_W_edgeCost_8 : decode b_W_edgeCost 8 = .ok (.i2l, 1) := by decide +kernel
theorem d_W_edgeCost_9 : decode b_W_edgeCost 9 = .ok (.ldc2_w 72, 3) := by decide +kernel
theorem d_W_edgeCost_12 : decode b_W_edgeCost 12 = .ok (.lmul, 1) := by decide +kernel
theorem d_W_edgeCost_13 : decode b_W_edgeCost 13 = .ok (.lconst 1, 1) := by decide +kernel
theorem d_W_edgeCost_14 : decode b_W_edgeCost 14 = .ok (.ladd, 1) := by decide +kernel
theorem d_W_edgeCost_15 : decode b_W_edgeCost 15 = .ok (.lreturn, 1) := by decide +kernel
theorem d_W_lower_0 : decode b_W_lower 0 = .ok (.lload_n 3, 1) := by decide +kernel
theorem d_W_lower_1 : decode b_W_lower 1 = .ok (.aload_n 0, 1) := by decide +kernel
theorem d_W_lower_2 : decode b_W_lower 2 = .ok (.getfield 9, 3) := by decide +kernel
theorem d_W_lower_5 : decode b_W_lower 5 = .ok (.iload_n 1, 1) := by decide +kernel
theorem d_W_lower_6 : decode b_W_lower 6 = .ok (.iload_n 2, 1) := by decide +kernel
theorem d_W_lower_7 : decode b_W_lower 7 = .ok (.invokestatic 66, 3) := by decide +kernel
theorem d_W_lower_10 : decode b_W_lower 10 = .ok (.laload, 1) := by decide +kernel
theorem d_W_lower_11 : decode b_W_lower 11 = .ok (.lcmp, 1) := by decide +kernel
theorem d_W_lower_12 : decode b_W_lower 12 = .ok (.ifCond .ge 14, 3) := by decide +kernel
theorem d_W_lower_15 : decode b_W_lower 15 = .ok (.aload_n 0, 1) := by decide +kernel
theorem d_W_lower_16 : decode b_W_lower 16 = .ok (.getfield 9, 3) := by decide +kernel
theorem d_W_lower_19 : decode b_W_lower 19 = .ok (.iload_n 1, 1) := by decide +kernel
theorem d_W_lower_20 : decode b_W_lower 20 = .ok (.iload_n 2, 1) := by decide +kernel
theorem d_W_lower_21 : decode b_W_lower 21 = .ok (.invokestatic 66, 3) := by decide +kernel
theorem d_W_lower_24 : decode b_W_lower 24 = .ok (.lload_n 3, 1) := by decide +kernel
theorem d_W_lower_25 : decode b_W_lower 25 = .ok (.lastore, 1) := by decide +kernel
theorem d_W_lower_26 : decode b_W_lower 26 = .ok (.return_, 1) := by decide +kernel
theorem d_W_joinWaysAt_0 : decode b_W_joinWaysAt 0 = .ok (.iconst 0, 1) := by decide +kernel
theorem d_W_joinWaysAt_1 : decode b_W_joinWaysAt 1 = .ok (.istore_n 2, 1) := by decide +kernel
theorem d_W_joinWaysAt_2 : decode b_W_joinWaysAt 2 = .ok (.iload_n 2, 1) := by decide +kernel
theorem d_W_joinWaysAt_3 : decode b_W_joinWaysAt 3 = .ok (.aload_n 0, 1) := by decide +kernel
theorem d_W_joinWaysAt_4 : decode b_W_joinWaysAt 4 = .ok (.getfield 26, 3) := by decide +kernel
theorem d_W_joinWaysAt_7 : decode b_W_joinWaysAt 7 = .ok (.getfield 55, 3) := by decide +kernel
theorem d_W_joinWaysAt_10 : decode b_W_joinWaysAt 10 = .ok (.if_icmp .ge 85, 3) := by decide +kernel
theorem d_W_joinWaysAt_13 : decode b_W_joinWaysAt 13 = .ok (.aload_n 0, 1) := by decide +kernel
theorem d_W_joinWaysAt_14 : decode b_W_joinWaysAt 14 = .ok (.getfield 9, 3) := by decide +kernel
theorem d_W_joinWaysAt_17 : decode b_W_joinWaysAt 17 = .ok (.iload_n 2, 1) := by decide +kernel
theorem d_W_joinWaysAt_18 : decode b_W_joinWaysAt 18 = .ok (.iload_n 1, 1) := by decide +kernel
theorem d_W_joinWaysAt_19 : decode b_W_joinWaysAt 19 = .ok (.invokestatic 66, 3) := by decide +kernel
theorem d_W_joinWaysAt_22 : decode b_W_joinWaysAt 22 = .ok (.laload, 1) := by decide +kernel
theorem d_W_joinWaysAt_23 : decode b_W_joinWaysAt 23 = .ok (.lstore_n 3, 1) := by decide +kernel
theorem d_W_joinWaysAt_24 : decode b_W_joinWaysAt 24 = .ok (.lload_n 3, 1) := by decide +kernel
theorem d_W_joinWaysAt_25 : decode b_W_joinWaysAt 25 = .ok (.ldc2_w 70, 3) := by decide +kernel
theorem d_W_joinWaysAt_28 : decode b_W_joinWaysAt 28 = .ok (.lcmp, 1) := by decide +kernel
theorem d_W_joinWaysAt_29 : decode b_W_joinWaysAt 29 = .ok (.ifCond .ne 6, 3) := by decide +kernel
theorem d_W_joinWaysAt_32 : decode b_W_joinWaysAt 32 = .ok (.goto 57, 3) := by decide +kernel
theorem d_W_joinWaysAt_35 : decode b_W_joinWaysAt 35 = .ok (.iconst 0, 1) := by decide +kernel
theorem d_W_joinWaysAt_36 : decode b_W_joinWaysAt 36 = .ok (.istore 5, 2) := by decide +kernel
theorem d_W_joinWaysAt_38 : decode b_W_joinWaysAt 38 = .ok (.iload 5, 2) := by decide +kernel
theorem d_W_joinWaysAt_40 : decode b_W_joinWaysAt 40 = .ok (.aload_n 0, 1) := by decide +kernel
theorem d_W_joinWaysAt_41 : decode b_W_joinWaysAt 41 = .ok (.getfield 26, 3) := by decide +kernel
theorem d_W_joinWaysAt_44 : decode b_W_joinWaysAt 44 = .ok (.getfield 55, 3) := by decide +kernel
theorem d_W_joinWaysAt_47 : decode b_W_joinWaysAt 47 = .ok (.if_icmp .ge 42, 3) := by decide +kernel
theorem d_W_joinWaysAt_50 : decode b_W_joinWaysAt 50 = .ok (.aload_n 0, 1) := by decide +kernel
theorem d_W_joinWaysAt_51 : decode b_W_joinWaysAt 51 = .ok (.getfield 9, 3) := by decide +kernel
theorem d_W_joinWaysAt_54 : decode b_W_joinWaysAt 54 = .ok (.iload_n 1, 1) := by decide +kernel
theorem d_W_joinWaysAt_55 : decode b_W_joinWaysAt 55 = .ok (.iload 5, 2) := by decide +kernel
theorem d_W_joinWaysAt_57 : decode b_W_joinWaysAt 57 = .ok (.invokestatic 66, 3) := by decide +kernel
theorem d_W_joinWaysAt_60 : decode b_W_joinWaysAt 60 = .ok (.laload, 1) := by decide +kernel
theorem d_W_joinWaysAt_61 : decode b_W_joinWaysAt 61 = .ok (.lstore 6, 2) := by decide +kernel
theorem d_W_joinWaysAt_63 : decode b_W_joinWaysAt 63 = .ok (.lload 6, 2) := by decide +kernel
theorem d_W_joinWaysAt_65 : decode b_W_joinWaysAt 65 = .ok (.ldc2_w 70, 3) := by decide +kernel
theorem d_W_joinWaysAt_68 : decode b_W_joinWaysAt 68 = .ok (.lcmp, 1) := by decide +kernel
theorem d_W_joinWaysAt_69 : decode b_W_joinWaysAt 69 = .ok (.ifCond .eq 14, 3) := by decide +kernel
theorem d_W_joinWaysAt_72 : decode b_W_joinWaysAt 72 = .ok (.aload_n 0, 1) := by decide +kernel
theorem d_W_joinWaysAt_73 : decode b_W_joinWaysAt 73 = .ok (.iload_n 2, 1) := by decide +kernel
theorem d_W_joinWaysAt_74 : decode b_W_joinWaysAt 74 = .ok (.iload 5, 2) := by decide +kernel
theorem d_W_joinWaysAt_76 : decode b_W_joinWaysAt 76 = .ok (.lload_n 3, 1) := by decide +kernel
theorem d_W_joinWaysAt_77 : decode b_W_joinWaysAt 77 = .ok (.lload 6, 2) := by decide +kernel
theorem d_W_joinWaysAt_79 : decode b_W_joinWaysAt 79 = .ok (.ladd, 1) := by decide +kernel
theorem d_W_joinWaysAt_80 : decode b_W_joinWaysAt 80 = .ok (.invokevirtual 51, 3) := by decide +kernel
theorem d_W_joinWaysAt_83 : decode b_W_joinWaysAt 83 = .ok (.iinc 5 1, 3) := by decide +kernel
theorem d_W_joinWaysAt_86 : decode b_W_joinWaysAt 86 = .ok (.goto (-48), 3) := by decide +kernel
theorem d_W_joinWaysAt_89 : decode b_W_joinWaysAt 89 = .ok (.iinc 2 1, 3) := by decide +kernel
theorem d_W_joinWaysAt_92 : decode b_W_joinWaysAt 92 = .ok (.goto (-90), 3) := by decide +kernel
theorem d_W_joinWaysAt_95 : decode b_W_joinWaysAt 95 = .ok (.return_, 1) := by decide +kernel
theorem d_W_isThere_0 : decode b_W_isThere 0 = .ok (.aload_n 0, 1) := by decide +kernel
theorem d_W_isThere_1 : decode b_W_isThere 1 = .ok (.getfield 9, 3) := by decide +kernel
theorem d_W_isThere_4 : decode b_W_isThere 4 = .ok (.iload_n 1, 1) := by decide +kernel
theorem d_W_isThere_5 : decode b_W_isThere 5 = .ok (.iload_n 2, 1) := by decide +kernel
theorem d_W_isThere_6 : decode b_W_isThere 6 = .ok (.invokestatic 66, 3) := by decide +kernel
theorem d_W_isThere_9 : decode b_W_isThere 9 = .ok (.laload, 1) := by decide +kernel
theorem d_W_isThere_10 : decode b_W_isThere 10 = .ok (.ldc2_w 70, 3) := by decide +kernel
theorem d_W_isThere_13 : decode b_W_isThere 13 = .ok (.lcmp, 1) := by decide +kernel
theorem d_W_isThere_14 : decode b_W_isThere 14 = .ok (.ifCond .eq 7, 3) := by decide +kernel
theorem d_W_isThere_17 : decode b_W_isThere 17 = .ok (.iconst 1, 1) := by decide +kernel
theorem d_W_isThere_18 : decode b_W_isThere 18 = .ok (.goto 4, 3) := by decide +kernel
theorem d_W_isThere_21 : decode b_W_isThere 21 = .ok (.iconst 0, 1) := by decide +kernel
theorem d_W_isThere_22 : decode b_W_isThere 22 = .ok (.ireturn, 1) := by decide +kernel
theorem d_W_weightBetween_0 : decode b_W_weightBetween 0 = .ok (.aload_n 0, 1) := by decide +kernel
theorem d_W_weightBetween_1 : decode b_W_weightBetween 1 = .ok (.getfield 9, 3) := by decide +kernel
theorem d_W_weightBetween_4 : decode b_W_weightBetween 4 = .ok (.iload_n 1, 1) := by decide +kernel
theorem d_W_weightBetween_5 : decode b_W_weightBetween 5 = .ok (.iload_n 2, 1) := by decide +kernel
theorem d_W_weightBetween_6 : decode b_W_weightBetween 6 = .ok (.invokestatic 66, 3) := by decide +kernel
theorem d_W_weightBetween_9 : decode b_W_weightBetween 9 = .ok (.laload, 1) := by decide +kernel
theorem d_W_weightBetween_10 : decode b_W_weightBetween 10 = .ok (.ldc2_w 72, 3) := by decide +kernel
theorem d_W_weightBetween_13 : decode b_W_weightBetween 13 = .ok (.ldiv, 1) := by decide +kernel
theorem d_W_weightBetween_14 : decode b_W_weightBetween 14 = .ok (.l2i, 1) := by decide +kernel
theorem d_W_weightBetween_15 : decode b_W_weightBetween 15 = .ok (.ireturn, 1) := by decide +kernel
theorem d_W_trace_0 : decode b_W_trace 0 = .ok (.iload_n 1, 1) := by decide +kernel
theorem d_W_trace_1 : decode b_W_trace 1 = .ok (.iload_n 2, 1) := by decide +kernel
theorem d_W_trace_2 : decode b_W_trace 2 = .ok (.invokestatic 74, 3) := by decide +kernel
theorem d_W_trace_5 : decode b_W_trace 5 = .ok (.istore_n 3, 1) := by decide +kernel
theorem d_W_trace_6 : decode b_W_trace 6 = .ok (.iload_n 1, 1) := by decide +kernel
theorem d_W_trace_7 : decode b_W_trace 7 = .ok (.iload_n 2, 1) := by decide +kernel
theorem d_W_trace_8 : decode b_W_trace 8 = .ok (.invokestatic 79, 3) := by decide +kernel
theorem d_W_trace_11 : decode b_W_trace 11 = .ok (.istore 4, 2) := by decide +kernel
theorem d_W_trace_13 : decode b_W_trace 13 = .ok (.aload_n 0, 1) := by decide +kernel
theorem d_W_trace_14 : decode b_W_trace 14 = .ok (.iconst 0, 1) := by decide +kernel
theorem d_W_trace_15 : decode b_W_trace 15 = .ok (.putfield 23, 3) := by decide +kernel
theorem d_W_trace_18 : decode b_W_trace 18 = .ok (.iload_n 3, 1) := by decide +kernel
theorem d_W_trace_19 : decode b_W_trace 19 = .ok (.iload 4, 2) := by decide +kernel
theorem d_W_trace_21 : decode b_W_trace 21 = .ok (.if_icmp .eq 63, 3) := by decide +kernel
theorem d_W_trace_24 : decode b_W_trace 24 = .ok (.aload_n 0, 1) := by decide +kernel
theorem d_W_trace_25 : decode b_W_trace 25 = .ok (.getfield 23, 3) := by decide +kernel
theorem d_W_trace_28 : decode b_W_trace 28 = .ok (.bipush 20, 2) := by decide +kernel
theorem d_W_trace_30 : decode b_W_trace 30 = .ok (.if_icmp .ge 54, 3) := by decide +kernel
theorem d_W_trace_33 : decode b_W_trace 33 = .ok (.aload_n 0, 1) := by decide +kernel
theorem d_W_trace_34 : decode b_W_trace 34 = .ok (.iload_n 3, 1) := by decide +kernel
theorem d_W_trace_35 : decode b_W_trace 35 = .ok (.iload 4, 2) := by decide +kernel
theorem d_W_trace_37 : decode b_W_trace 37 = .ok (.invokevirtual 82, 3) := by decide +kernel
theorem d_W_trace_40 : decode b_W_trace 40 = .ok (.istore 5, 2) := by decide +kernel
theorem d_W_trace_42 : decode b_W_trace 42 = .ok (.iload 5, 2) := by decide +kernel
theorem d_W_trace_44 : decode b_W_trace 44 = .ok (.iconst (-1), 1) := by decide +kernel
theorem d_W_trace_45 : decode b_W_trace 45 = .ok (.if_icmp .ne 4, 3) := by decide +kernel
theorem d_W_trace_48 : decode b_W_trace 48 = .ok (.return_, 1) := by decide +kernel
theorem d_W_trace_49 : decode b_W_trace 49 = .ok (.aload_n 0, 1) := by decide +kernel
theorem d_W_trace_50 : decode b_W_trace 50 = .ok (.getfield 15, 3) := by decide +kernel
theorem d_W_trace_53 : decode b_W_trace 53 = .ok (.aload_n 0, 1) := by decide +kernel
theorem d_W_trace_54 : decode b_W_trace 54 = .ok (.getfield 23, 3) := by decide +kernel
theorem d_W_trace_57 : decode b_W_trace 57 = .ok (.iload 5, 2) := by decide +kernel
theorem d_W_trace_59 : decode b_W_trace 59 = .ok (.iastore, 1) := by decide +kernel
theorem d_W_trace_60 : decode b_W_trace 60 = .ok (.aload_n 0, 1) := by decide +kernel
theorem d_W_trace_61 : decode b_W_trace 61 = .ok (.dup, 1) := by decide +kernel
theorem d_W_trace_62 : decode b_W_trace 62 = .ok (.getfield 23, 3) := by decide +kernel
theorem d_W_trace_65 : decode b_W_trace 65 = .ok (.iconst 1, 1) := by decide +kernel
theorem d_W_trace_66 : decode b_W_trace 66 = .ok (.iadd, 1) := by decide +kernel
theorem d_W_trace_67 : decode b_W_trace 67 = .ok (.putfield 23, 3) := by decide +kernel
theorem d_W_trace_70 : decode b_W_trace 70 = .ok (.aload_n 0, 1) := by decide +kernel
theorem d_W_trace_71 : decode b_W_trace 71 = .ok (.getfield 26, 3) := by decide +kernel
theorem d_W_trace_74 : decode b_W_trace 74 = .ok (.iload 5, 2) := by decide +kernel
theorem d_W_trace_76 : decode b_W_trace 76 = .ok (.iload_n 3, 1) := by decide +kernel
theorem d_W_trace_77 : decode b_W_trace 77 = .ok (.invokevirtual 85, 3) := by decide +kernel
theorem d_W_trace_80 : decode b_W_trace 80 = .ok (.istore_n 3, 1) := by decide +kernel
theorem d_W_trace_81 : decode b_W_trace 81 = .ok (.goto (-63), 3) := by decide +kernel
theorem d_W_trace_84 : decode b_W_trace 84 = .ok (.return_, 1) := by decide +kernel
theorem d_W_firstEdgeTowards_0 : decode b_W_firstEdgeTowards 0 = .ok (.iconst 0, 1) := by decide +kernel
theorem d_W_firstEdgeTowards_1 : decode b_W_firstEdgeTowards 1 = .ok (.istore_n 3, 1) := by decide +kernel
theorem d_W_firstEdgeTowards_2 : decode b_W_firstEdgeTowards 2 = .ok (.iload_n 3, 1) := by decide +kernel
theorem d_W_firstEdgeTowards_3 : decode b_W_firstEdgeTowards 3 = .ok (.aload_n 0, 1) := by decide +kernel
theorem d_W_firstEdgeTowards_4 : decode b_W_firstEdgeTowards 4 = .ok (.getfield 26, 3) := by decide +kernel
theorem d_W_firstEdgeTowards_7 : decode b_W_firstEdgeTowards 7 = .ok (.getfield 38, 3) := by decide +kernel
theorem d_W_firstEdgeTowards_10 : decode b_W_firstEdgeTowards 10 = .ok (.if_icmp .ge 77, 3) := by decide +kernel
theorem d_W_firstEdgeTowards_13 : decode b_W_firstEdgeTowards 13 = .ok (.aload_n 0, 1) := by decide +kernel
theorem d_W_firstEdgeTowards_14 : decode b_W_firstEdgeTowards 14 = .ok (.getfield 26, 3) := by decide +kernel
theorem d_W_firstEdgeTowards_17 : decode b_W_firstEdgeTowards 17 = .ok (.iload_n 3, 1) := by decide +kernel
theorem d_W_firstEdgeTowards_18 : decode b_W_firstEdgeTowards 18 = .ok (.iload_n 1, 1) := by decide +kernel
theorem d_W_firstEdgeTowards_19 : decode b_W_firstEdgeTowards 19 = .ok (.invokevirtual 85, 3) := by decide +kernel
theorem d_W_firstEdgeTowards_22 : decode b_W_firstEdgeTowards 22 = .ok (.istore 4, 2) := by decide +kernel
theorem d_W_firstEdgeTowards_24 : decode b_W_firstEdgeTowards 24 = .ok (.iload 4, 2) := by decide +kernel
theorem d_W_firstEdgeTowards_26 : decode b_W_firstEdgeTowards 26 = .ok (.iconst (-1), 1) := by decide +kernel
theorem d_W_firstEdgeTowards_27 : decode b_W_firstEdgeTowards 27 = .ok (.if_icmp .eq 54, 3) := by decide +kernel
theorem d_W_firstEdgeTowards_30 : decode b_W_firstEdgeTowards 30 = .ok (.iload 4, 2) := by decide +kernel
theorem d_W_firstEdgeTowards_32 : decode b_W_firstEdgeTowards 32 = .ok (.iload_n 2, 1) := by decide +kernel
theorem d_W_firstEdgeTowards_33 : decode b_W_firstEdgeTowards 33 = .ok (.if_icmp .eq 15, 3) := by decide +kernel
theorem d_W_firstEdgeTowards_36 : decode b_W_firstEdgeTowards 36 = .ok (.aload_n 0, 1) := by decide +kernel
theorem d_W_firstEdgeTowards_37 : decode b_W_firstEdgeTowards 37 = .ok (.getfield 26, 3) := by decide +kernel
theorem d_W_firstEdgeTowards_40 : decode b_W_firstEdgeTowards 40 = .ok (.iload 4, 2) := by decide +kernel
theorem d_W_firstEdgeTowards_42 : decode b_W_firstEdgeTowards 42 = .ok (.invokevirtual 58, 3) := by decide +kernel
theorem d_W_firstEdgeTowards_45 : decode b_W_firstEdgeTowards 45 = .ok (.ifCond .ne 36, 3) := by decide +kernel
theorem d_W_firstEdgeTowards_48 : decode b_W_firstEdgeTowards 48 = .ok (.aload_n 0, 1) := by decide +kernel
theorem d_W_firstEdgeTowards_49 : decode b_W_firstEdgeTowards 49 = .ok (.getfield 9, 3) := by decide +kernel
theorem d_W_firstEdgeTowards_52 : decode b_W_firstEdgeTowards 52 = .ok (.iload 4, 2) := by decide +kernel
theorem d_W_firstEdgeTowards_54 : decode b_W_firstEdgeTowards 54 = .ok (.iload_n 2, 1) := by decide +kernel
theorem d_W_firstEdgeTowards_55 : decode b_W_firstEdgeTowards 55 = .ok (.invokestatic 66, 3) := by decide +kernel
theorem d_W_firstEdgeTowards_58 : decode b_W_firstEdgeTowards 58 = .ok (.laload, 1) := by decide +kernel
theorem d_W_firstEdgeTowards_59 : decode b_W_firstEdgeTowards 59 = .ok (.aload_n 0, 1) := by decide +kernel
theorem d_W_firstEdgeTowards_60 : decode b_W_firstEdgeTowards 60 = .ok (.getfield 9, 3) := by decide +kernel
theorem d_W_firstEdgeTowards_63 : decode b_W_firstEdgeTowards 63 = .ok (.iload_n 1, 1) := by decide +kernel
theorem d_W_firstEdgeTowards_64 : decode b_W_firstEdgeTowards 64 = .ok (.iload_n 2, 1) := by decide +kernel
theorem d_W_firstEdgeTowards_65 : decode b_W_firstEdgeTowards 65 = .ok (.invokestatic 66, 3) := by decide +kernel
theorem d_W_firstEdgeTowards_68 : decode b_W_firstEdgeTowards 68 = .ok (.laload, 1) := by decide +kernel
theorem d_W_firstEdgeTowards_69 : decode b_W_firstEdgeTowards 69 = .ok (.aload_n 0, 1) := by decide +kernel
theorem d_W_firstEdgeTowards_70 : decode b_W_firstEdgeTowards 70 = .ok (.iload_n 3, 1) := by decide +kernel
theorem d_W_firstEdgeTowards_71 : decode b_W_firstEdgeTowards 71 = .ok (.invokevirtual 47, 3) := by decide +kernel
theorem d_W_firstEdgeTowards_74 : decode b_W_firstEdgeTowards 74 = .ok (.lsub, 1) := by decide +kernel
theorem d_W_firstEdgeTowards_75 : decode b_W_firstEdgeTowards 75 = .ok (.lcmp, 1) := by decide +kernel
theorem d_W_firstEdgeTowards_76 : decode b_W_firstEdgeTowards 76 = .ok (.ifCond .ne 5, 3) := by decide +kernel
theorem d_W_firstEdgeTowards_79 : decode b_W_firstEdgeTowards 79 = .ok (.iload_n 3, 1) := by decide +kernel
theorem d_W_firstEdgeTowards_80 : decode b_W_firstEdgeTowards 80 = .ok (.ireturn, 1) := by decide +kernel
theorem d_W_firstEdgeTowards_81 : decode b_W_firstEdgeTowards 81 = .ok (.iinc 3 1, 3) := by decide +kernel
theorem d_W_firstEdgeTowards_84 : decode b_W_firstEdgeTowards 84 = .ok (.goto (-82), 3) := by decide +kernel
theorem d_W_firstEdgeTowards_87 : decode b_W_firstEdgeTowards 87 = .ok (.iconst (-1), 1) := by decide +kernel
theorem d_W_firstEdgeTowards_88 : decode b_W_firstEdgeTowards 88 = .ok (.ireturn, 1) := by decide +kernel
theorem d_W_trailEdge_0 : decode b_W_trailEdge 0 = .ok (.iload_n 1, 1) := by decide +kernel
theorem d_W_trailEdge_1 : decode b_W_trailEdge 1 = .ok (.ifCond .lt 11, 3) := by decide +kernel
theorem d_W_trailEdge_4 : decode b_W_trailEdge 4 = .ok (.iload_n 1, 1) := by decide +kernel
theorem d_W_trailEdge_5 : decode b_W_trailEdge 5 = .ok (.aload_n 0, 1) := by decide +kernel
theorem d_W_trailEdge_6 : decode b_W_trailEdge 6 = .ok (.getfield 23, 3) := by decide +kernel
theorem d_W_trailEdge_9 : decode b_W_trailEdge 9 = .ok (.if_icmp .lt 5, 3) := by decide +kernel
theorem d_W_trailEdge_12 : decode b_W_trailEdge 12 = .ok (.iconst (-1), 1) := by decide +kernel
theorem d_W_trailEdge_13 : decode b_W_trailEdge 13 = .ok (.ireturn, 1) := by decide +kernel
theorem d_W_trailEdge_14 : decode b_W_trailEdge 14 = .ok (.iload_n 2, 1) := by decide +kernel
theorem d_W_trailEdge_15 : decode b_W_trailEdge 15 = .ok (.ifCond .eq 19, 3) := by decide +kernel
theorem d_W_trailEdge_18 : decode b_W_trailEdge 18 = .ok (.aload_n 0, 1) := by decide +kernel
theorem d_W_trailEdge_19 : decode b_W_trailEdge 19 = .ok (.getfield 15, 3) := by decide +kernel
theorem d_W_trailEdge_22 : decode b_W_trailEdge 22 = .ok (.aload_n 0, 1) := by decide +kernel
theorem d_W_trailEdge_23 : decode b_W_trailEdge 23 = .ok (.getfield 23, 3) := by decide +kernel
theorem d_W_trailEdge_26 : decode b_W_trailEdge 26 = .ok (.iconst 1, 1) := by decide +kernel
theorem d_W_trailEdge_27 : decode b_W_trailEdge 27 = .ok (.isub, 1) := by decide +kernel
theorem d_W_trailEdge_28 : decode b_W_trailEdge 28 = .ok (.iload_n 1, 1) := by decide +kernel
theorem d_W_trailEdge_29 : decode b_W_trailEdge 29 = .ok (.isub, 1) := by decide +kernel
theorem d_W_trailEdge_30 : decode b_W_trailEdge 30 = .ok (.iaload, 1) := by decide +kernel
theorem d_W_trailEdge_31 : decode b_W_trailEdge 31 = .ok (.goto 9, 3) := by decide +kernel
theorem d_W_trailEdge_34 : decode b_W_trailEdge 34 = .ok (.aload_n 0, 1) := by decide +kernel
theorem d_W_trailEdge_35 : decode b_W_trailEdge 35 = .ok (.getfield 15, 3) := by decide +kernel
theorem d_W_trailEdge_38 : decode b_W_trailEdge 38 = .ok (.iload_n 1, 1) := by decide +kernel
theorem d_W_trailEdge_39 : decode b_W_trailEdge 39 = .ok (.iaload, 1) := by decide +kernel
theorem d_W_trailEdge_40 : decode b_W_trailEdge 40 = .ok (.ireturn, 1) := by decide +kernel
theorem d_W_trailAsSet_0 : decode b_W_trailAsSet 0 = .ok (.lconst 0, 1) := by decide +kernel
theorem d_W_trailAsSet_1 : decode b_W_trailAsSet 1 = .ok (.lstore_n 1, 1) := by decide +kernel
theorem d_W_trailAsSet_2 : decode b_W_trailAsSet 2 = .ok (.iconst 0, 1) := by decide +kernel
theorem d_W_trailAsSet_3 : decode b_W_trailAsSet 3 = .ok (.istore_n 3, 1) := by decide +kernel
theorem d_W_trailAsSet_4 : decode b_W_trailAsSet 4 = .ok (.iload_n 3, 1) := by decide +kernel
theorem d_W_trailAsSet_5 : decode b_W_trailAsSet 5 = .ok (.aload_n 0, 1) := by decide +kernel
theorem d_W_trailAsSet_6 : decode b_W_trailAsSet 6 = .ok (.getfield 23, 3) := by decide +kernel
theorem d_W_trailAsSet_9 : decode b_W_trailAsSet 9 = .ok (.if_icmp .ge 20, 3) := by decide +kernel
theorem d_W_trailAsSet_12 : decode b_W_trailAsSet 12 = .ok (.lload_n 1, 1) := by decide +kernel
theorem d_W_trailAsSet_13 : decode b_W_trailAsSet 13 = .ok (.lconst 1, 1) := by decide +kernel
theorem d_W_trailAsSet_14 : decode b_W_trailAsSet 14 = .ok (.aload_n 0, 1) := by decide +kernel
theorem d_W_trailAsSet_15 : decode b_W_trailAsSet 15 = .ok (.getfield 15, 3) := by decide +kernel
theorem d_W_trailAsSet_18 : decode b_W_trailAsSet 18 = .ok (.iload_n 3, 1) := by decide +kernel
theorem d_W_trailAsSet_19 : decode b_W_trailAsSet 19 = .ok (.iaload, 1) := by decide +kernel
theorem d_W_trailAsSet_20 : decode b_W_trailAsSet 20 = .ok (.lshl, 1) := by decide +kernel
theorem d_W_trailAsSet_21 : decode b_W_trailAsSet 21 = .ok (.lor, 1) := by decide +kernel
theorem d_W_trailAsSet_22 : decode b_W_trailAsSet 22 = .ok (.lstore_n 1, 1) := by decide +kernel
theorem d_W_trailAsSet_23 : decode b_W_trailAsSet 23 = .ok (.iinc 3 1, 3) := by decide +kernel
theorem d_W_trailAsSet_26 : decode b_W_trailAsSet 26 = .ok (.goto (-22), 3) := by decide +kernel
theorem d_W_trailAsSet_29 : decode b_W_trailAsSet 29 = .ok (.lload_n 1, 1) := by decide +kernel
theorem d_W_trailAsSet_30 : decode b_W_trailAsSet 30 = .ok (.lreturn, 1) := by decide +kernel
end
section
theorem d_F_init_0 : decode b_F_init 0 = .ok (.aload_n 0, 1) := by decide +kernel
theorem d_F_init_1 : decode b_F_init 1 = .ok (.invokespecial 3, 3) := by decide +kernel
theorem d_F_init_4 : decode b_F_init 4 = .ok (.aload_n 0, 1) := by decide +kernel
theorem d_F_init_5 : decode b_F_init 5 = .ok (.bipush 10, 2) := by decide +kernel
theorem d_F_init_7 : decode b_F_init 7 = .ok (.newarray .int, 2) := by decide +kernel
theorem d_F_init_9 : decode b_F_init 9 = .ok (.putfield 9, 3) := by decide +kernel
theorem d_F_init_12 : decode b_F_init 12 = .ok (.aload_n 0, 1) := by decide +kernel
theorem d_F_init_13 : decode b_F_init 13 = .ok (.bipush 10, 2) := by decide +kernel
theorem d_F_init_15 : decode b_F_init 15 = .ok (.newarray .int, 2) := by decide +kernel
theorem d_F_init_17 : decode b_F_init 17 = .ok (.putfield 15, 3) := by decide +kernel
theorem d_F_init_20 : decode b_F_init 20 = .ok (.aload_n 0, 1) := by decide +kernel
theorem d_F_init_21 : decode b_F_init 21 = .ok (.iconst 0, 1) := by decide +kernel
theorem d_F_init_22 : decode b_F_init 22 = .ok (.putfield 18, 3) := by decide +kernel
theorem d_F_init_25 : decode b_F_init 25 = .ok (.aload_n 0, 1) := by decide +kernel
theorem d_F_init_26 : decode b_F_init 26 = .ok (.iconst 0, 1) := by decide +kernel
theorem d_F_init_27 : decode b_F_init 27 = .ok (.putfield 22, 3) := by decide +kernel
theorem d_F_init_30 : decode b_F_init 30 = .ok (.aload_n 0, 1) := by decide +kernel
theorem d_F_init_31 : decode b_F_init 31 = .ok (.iconst 0, 1) := by decide +kernel
theorem d_F_init_32 : decode b_F_init 32 = .ok (.putfield 25, 3) := by decide +kernel
theorem d_F_init_35 : decode b_F_init 35 = .ok (.aload_n 0, 1) := by decide +kernel
theorem d_F_init_36 : decode b_F_init 36 = .ok (.lconst 0, 1) := by decide +kernel
theorem d_F_init_37 : decode b_F_init 37 = .ok (.putfield 28, 3) := by decide +kernel
theorem d_F_init_40 : decode b_F_init 40 = .ok (.return_, 1) := by decide +kernel
theorem d_JI_bitCount_0 : decode b_JI_bitCount 0 = .ok (.iload_n 0, 1) := by decide +kernel
theorem d_JI_bitCount_1 : decode b_JI_bitCount 1 = .ok (.iload_n 0, 1) := by decide +kernel
theorem d_JI_bitCount_2 : decode b_JI_bitCount 2 = .ok (.iconst 1, 1) := by decide +kernel
theorem d_JI_bitCount_3 : decode b_JI_bitCount 3 = .ok (.iushr, 1) := by decide +kernel
theorem d_JI_bitCount_4 : decode b_JI_bitCount 4 = .ok (.ldc_w 265, 3) := by decide +kernel
theorem d_JI_bitCount_7 : decode b_JI_bitCount 7 = .ok (.iand, 1) := by decide +kernel
theorem d_JI_bitCount_8 : decode b_JI_bitCount 8 = .ok (.isub, 1) := by decide +kernel
theorem d_JI_bitCount_9 : decode b_JI_bitCount 9 = .ok (.istore_n 0, 1) := by decide +kernel
theorem d_JI_bitCount_10 : decode b_JI_bitCount 10 = .ok (.iload_n 0, 1) := by decide +kernel
theorem d_JI_bitCount_11 : decode b_JI_bitCount 11 = .ok (.ldc_w 266, 3) := by decide +kernel
theorem d_JI_bitCount_14 : decode b_JI_bitCount 14 = .ok (.iand, 1) := by decide +kernel
theorem d_JI_bitCount_15 : decode b_JI_bitCount 15 = .ok (.iload_n 0, 1) := by decide +kernel
theorem d_JI_bitCount_16 : decode b_JI_bitCount 16 = .ok (.iconst 2, 1) := by decide +kernel
theorem d_JI_bitCount_17 : decode b_JI_bitCount 17 = .ok (.iushr, 1) := by decide +kernel
theorem d_JI_bitCount_18 : decode b_JI_bitCount 18 = .ok (.ldc_w 266, 3) := by decide +kernel
theorem d_JI_bitCount_21 : decode b_JI_bitCount 21 = .ok (.iand, 1) := by decide +kernel
theorem d_JI_bitCount_22 : decode b_JI_bitCount 22 = .ok (.iadd, 1) := by decide +kernel
theorem d_JI_bitCount_23 : decode b_JI_bitCount 23 = .ok (.istore_n 0, 1) := by decide +kernel
theorem d_JI_bitCount_24 : decode b_JI_bitCount 24 = .ok (.iload_n 0, 1) := by decide +kernel
theorem d_JI_bitCount_25 : decode b_JI_bitCount 25 = .ok (.iload_n 0, 1) := by decide +kernel
theorem d_JI_bitCount_26 : decode b_JI_bitCount 26 = .ok (.iconst 4, 1) := by decide +kernel
theorem d_JI_bitCount_27 : decode b_JI_bitCount 27 = .ok (.iushr, 1) := by decide +kernel
theorem d_JI_bitCount_28 : decode b_JI_bitCount 28 = .ok (.iadd, 1) := by decide +kernel
theorem d_JI_bitCount_29 : decode b_JI_bitCount 29 = .ok (.ldc_w 267, 3) := by decide +kernel
theorem d_JI_bitCount_32 : decode b_JI_bitCount 32 = .ok (.iand, 1) := by decide +kernel
theorem d_JI_bitCount_33 : decode b_JI_bitCount 33 = .ok (.istore_n 0, 1) := by decide +kernel
theorem d_JI_bitCount_34 : decode b_JI_bitCount 34 = .ok (.iload_n 0, 1) := by decide +kernel
theorem d_JI_bitCount_35 : decode b_JI_bitCount 35 = .ok (.iload_n 0, 1) := by decide +kernel
theorem d_JI_bitCount_36 : decode b_JI_bitCount 36 = .ok (.bipush 8, 2) := by decide +kernel
theorem d_JI_bitCount_38 : decode b_JI_bitCount 38 = .ok (.iushr, 1) := by decide +kernel
theorem d_JI_bitCount_39 : decode b_JI_bitCount 39 = .ok (.iadd, 1) := by decide +kernel
theorem d_JI_bitCount_40 : decode b_JI_bitCount 40 = .ok (.istore_n 0, 1) := by decide +kernel
theorem d_JI_bitCount_41 : decode b_JI_bitCount 41 = .ok (.iload_n 0, 1) := by decide +kernel
theorem d_JI_bitCount_42 : decode b_JI_bitCount 42 = .ok (.iload_n 0, 1) := by decide +kernel
theorem d_JI_bitCount_43 : decode b_JI_bitCount 43 = .ok (.bipush 16, 2) := by decide +kernel
theorem d_JI_bitCount_45 : decode b_JI_bitCount 45 = .ok (.iushr, 1) := by decide +kernel
theorem d_JI_bitCount_46 : decode b_JI_bitCount 46 = .ok (.iadd, 1) := by decide +kernel
theorem d_JI_bitCount_47 : decode b_JI_bitCount 47 = .ok (.istore_n 0, 1) := by decide +kernel
theorem d_JI_bitCount_48 : decode b_JI_bitCount 48 = .ok (.iload_n 0, 1) := by decide +kernel
theorem d_JI_bitCount_49 : decode b_JI_bitCount 49 = .ok (.bipush 63, 2) := by decide +kernel
theorem d_JI_bitCount_51 : decode b_JI_bitCount 51 = .ok (.iand, 1) := by decide +kernel
theorem d_JI_bitCount_52 : decode b_JI_bitCount 52 = .ok (.ireturn, 1) := by decide +kernel
theorem d_JL_bitCount_0 : decode b_JL_bitCount 0 = .ok (.lload_n 0, 1) := by decide +kernel
theorem d_JL_bitCount_1 : decode b_JL_bitCount 1 = .ok (.lload_n 0, 1) := by decide +kernel
theorem d_JL_bitCount_2 : decode b_JL_bitCount 2 = .ok (.iconst 1, 1) := by decide +kernel
theorem d_JL_bitCount_3 : decode b_JL_bitCount 3 = .ok (.lushr, 1) := by decide +kernel
theorem d_JL_bitCount_4 : decode b_JL_bitCount 4 = .ok (.ldc2_w 314, 3) := by decide +kernel
theorem d_JL_bitCount_7 : decode b_JL_bitCount 7 = .ok (.land, 1) := by decide +kernel
theorem d_JL_bitCount_8 : decode b_JL_bitCount 8 = .ok (.lsub, 1) := by decide +kernel
theorem d_JL_bitCount_9 : decode b_JL_bitCount 9 = .ok (.lstore_n 0, 1) := by decide +kernel
theorem d_JL_bitCount_10 : decode b_JL_bitCount 10 = .ok (.lload_n 0, 1) := by decide +kernel
theorem d_JL_bitCount_11 : decode b_JL_bitCount 11 = .ok (.ldc2_w 316, 3) := by decide +kernel
theorem d_JL_bitCount_14 : decode b_JL_bitCount 14 = .ok (.land, 1) := by decide +kernel
theorem d_JL_bitCount_15 : decode b_JL_bitCount 15 = .ok (.lload_n 0, 1) := by decide +kernel
theorem d_JL_bitCount_16 : decode b_JL_bitCount 16 = .ok (.iconst 2, 1) := by decide +kernel
theorem d_JL_bitCount_17 : decode b_JL_bitCount 17 = .ok (.lushr, 1) := by decide +kernel
theorem d_JL_bitCount_18 : decode b_JL_bitCount 18 = .ok (.ldc2_w 316, 3) := by decide +kernel
theorem d_JL_bitCount_21 : decode b_JL_bitCount 21 = .ok (.land, 1) := by decide +kernel
theorem d_JL_bitCount_22 : decode b_JL_bitCount 22 = .ok (.ladd, 1) := by decide +kernel
theorem d_JL_bitCount_23 : decode b_JL_bitCount 23 = .ok (.lstore_n 0, 1) := by decide +kernel
theorem d_JL_bitCount_24 : decode b_JL_bitCount 24 = .ok (.lload_n 0, 1) := by decide +kernel
theorem d_JL_bitCount_25 : decode b_JL_bitCount 25 = .ok (.lload_n 0, 1) := by decide +kernel
theorem d_JL_bitCount_26 : decode b_JL_bitCount 26 = .ok (.iconst 4, 1) := by decide +kernel
theorem d_JL_bitCount_27 : decode b_JL_bitCount 27 = .ok (.lushr, 1) := by decide +kernel
theorem d_JL_bitCount_28 : decode b_JL_bitCount 28 = .ok (.ladd, 1) := by decide +kernel
theorem d_JL_bitCount_29 : decode b_JL_bitCount 29 = .ok (.ldc2_w 318, 3) := by decide +kernel
theorem d_JL_bitCount_32 : decode b_JL_bitCount 32 = .ok (.land, 1) := by decide +kernel
theorem d_JL_bitCount_33 : decode b_JL_bitCount 33 = .ok (.lstore_n 0, 1) := by decide +kernel
theorem d_JL_bitCount_34 : decode b_JL_bitCount 34 = .ok (.lload_n 0, 1) := by decide +kernel
theorem d_JL_bitCount_35 : decode b_JL_bitCount 35 = .ok (.lload_n 0, 1) := by decide +kernel
theorem d_JL_bitCount_36 : decode b_JL_bitCount 36 = .ok (.bipush 8, 2) := by decide +kernel
theorem d_JL_bitCount_38 : decode b_JL_bitCount 38 = .ok (.lushr, 1) := by decide +kernel
theorem d_JL_bitCount_39 : decode b_JL_bitCount 39 = .ok (.ladd, 1) := by decide +kernel
theorem d_JL_bitCount_40 : decode b_JL_bitCount 40 = .ok (.lstore_n 0, 1) := by decide +kernel
theorem d_JL_bitCount_41 : decode b_JL_bitCount 41 = .ok (.lload_n 0, 1) := by decide +kernel
theorem d_JL_bitCount_42 : decode b_JL_bitCount 42 = .ok (.lload_n 0, 1) := by decide +kernel
theorem d_JL_bitCount_43 : decode b_JL_bitCount 43 = .ok (.bipush 16, 2) := by decide +kernel
theorem d_JL_bitCount_45 : decode b_JL_bitCount 45 = .ok (.lushr, 1) := by decide +kernel
theorem d_JL_bitCount_46 : decode b_JL_bitCount 46 = .ok (.ladd, 1) := by decide +kernel
theorem d_JL_bitCount_47 : decode b_JL_bitCount 47 = .ok (.lstore_n 0, 1) := by decide +kernel
theorem d_JL_bitCount_48 : decode b_JL_bitCount 48 = .ok (.lload_n 0, 1) := by decide +kernel
theorem d_JL_bitCount_49 : decode b_JL_bitCount 49 = .ok (.lload_n 0, 1) := by decide +kernel
theorem d_JL_bitCount_50 : decode b_JL_bitCount 50 = .ok (.bipush 32, 2) := by decide +kernel
theorem d_JL_bitCount_52 : decode b_JL_bitCount 52 = .ok (.lushr, 1) := by decide +kernel
theorem d_JL_bitCount_53 : decode b_JL_bitCount 53 = .ok (.ladd, 1) := by decide +kernel
theorem d_JL_bitCount_54 : decode b_JL_bitCount 54 = .ok (.lstore_n 0, 1) := by decide +kernel
theorem d_JL_bitCount_55 : decode b_JL_bitCount 55 = .ok (.lload_n 0, 1) := by decide +kernel
theorem d_JL_bitCount_56 : decode b_JL_bitCount 56 = .ok (.l2i, 1) := by decide +kernel
theorem d_JL_bitCount_57 : decode b_JL_bitCount 57 = .ok (.bipush 127, 2) := by decide +kernel
theorem d_JL_bitCount_59 : decode b_JL_bitCount 59 = .ok (.iand, 1) := by decide +kernel
theorem d_JL_bitCount_60 : decode b_JL_bitCount 60 = .ok (.ireturn, 1) := by decide +kernel
theorem d_F_begin_0 : decode b_F_begin 0 = .ok (.aload_n 0, 1) := by decide +kernel
theorem d_F_begin_1 : decode b_F_begin 1 = .ok (.iconst 0, 1) := by decide +kernel
theorem d_F_begin_2 : decode b_F_begin 2 = .ok (.putfield 18, 3) := by decide +kernel
theorem d_F_begin_5 : decode b_F_begin 5 = .ok (.aload_n 0, 1) := by decide +kernel
theorem d_F_begin_6 : decode b_F_begin 6 = .ok (.iload_n 1, 1) := by decide +kernel
theorem d_F_begin_7 : decode b_F_begin 7 = .ok (.putfield 22, 3) := by decide +kernel
theorem d_F_begin_10 : decode b_F_begin 10 = .ok (.aload_n 0, 1) := by decide +kernel
theorem d_F_begin_11 : decode b_F_begin 11 = .ok (.iload_n 2, 1) := by decide +kernel
theorem d_F_begin_12 : decode b_F_begin 12 = .ok (.putfield 25, 3) := by decide +kernel
theorem d_F_begin_15 : decode b_F_begin 15 = .ok (.aload_n 0, 1) := by decide +kernel
theorem d_F_begin_16 : decode b_F_begin 16 = .ok (.lconst 0, 1) := by decide +kernel
theorem d_F_begin_17 : decode b_F_begin 17 = .ok (.putfield 28, 3) := by decide +kernel
theorem d_F_begin_20 : decode b_F_begin 20 = .ok (.return_, 1) := by decide +kernel
theorem d_F_addPair_0 : decode b_F_addPair 0 = .ok (.aload_n 0, 1) := by decide +kernel
theorem d_F_addPair_1 : decode b_F_addPair 1 = .ok (.getfield 18, 3) := by decide +kernel
theorem d_F_addPair_4 : decode b_F_addPair 4 = .ok (.bipush 10, 2) := by decide +kernel
theorem d_F_addPair_6 : decode b_F_addPair 6 = .ok (.if_icmp .lt 4, 3) := by decide +kernel
theorem d_F_addPair_9 : decode b_F_addPair 9 = .ok (.return_, 1) := by decide +kernel
theorem d_F_addPair_10 : decode b_F_addPair 10 = .ok (.aload_n 0, 1) := by decide +kernel
theorem d_F_addPair_11 : decode b_F_addPair 11 = .ok (.getfield 9, 3) := by decide +kernel
theorem d_F_addPair_14 : decode b_F_addPair 14 = .ok (.aload_n 0, 1) := by decide +kernel
theorem d_F_addPair_15 : decode b_F_addPair 15 = .ok (.getfield 18, 3) := by decide +kernel
theorem d_F_addPair_18 : decode b_F_addPair 18 = .ok (.iload_n 1, 1) := by decide +kernel
theorem d_F_addPair_19 : decode b_F_addPair 19 = .ok (.iastore, 1) := by decide +kernel
theorem d_F_addPair_20 : decode b_F_addPair 20 = .ok (.aload_n 0, 1) := by decide +kernel
theorem d_F_addPair_21 : decode b_F_addPair 21 = .ok (.getfield 15, 3) := by decide +kernel
theorem d_F_addPair_24 : decode b_F_addPair 24 = .ok (.aload_n 0, 1) := by decide +kernel
theorem d_F_addPair_25 : decode b_F_addPair 25 = .ok (.getfield 18, 3) := by decide +kernel
theorem d_F_addPair_28 : decode b_F_addPair 28 = .ok (.iload_n 2, 1) := by decide +kernel
theorem d_F_addPair_29 : decode b_F_addPair 29 = .ok (.iastore, 1) := by decide +kernel
theorem d_F_addPair_30 : decode b_F_addPair 30 = .ok (.aload_n 0, 1) := by decide +kernel
theorem d_F_addPair_31 : decode b_F_addPair 31 = .ok (.dup, 1) := by decide +kernel
theorem d_F_addPair_32 : decode b_F_addPair 32 = .ok (.getfield 18, 3) := by decide +kernel
theorem d_F_addPair_35 : decode b_F_addPair 35 = .ok (.iconst 1, 1) := by decide +kernel
theorem d_F_addPair_36 : decode b_F_addPair 36 = .ok (.iadd, 1) := by decide +kernel
theorem d_F_addPair_37 : decode b_F_addPair 37 = .ok (.putfield 18, 3) := by decide +kernel
theorem d_F_addPair_40 : decode b_F_addPair 40 = .ok (.aload_n 0, 1) := by decide +kernel
theorem d_F_addPair_41 : decode b_F_addPair 41 = .ok (.dup, 1) := by decide +kernel
theorem d_F_addPair_42 : decode b_F_addPair 42 = .ok (.getfield 28, 3) := by decide +kernel
theorem d_F_addPair_45 : decode b_F_addPair 45 = .ok (.lload_n 3, 1) := by decide +kernel
theorem d_F_addPair_46 : decode b_F_addPair 46 = .ok (.lxor, 1) := by decide +kernel
theorem d_F_addPair_47 : decode b_F_addPair 47 = .ok (.putfield 28, 3) := by decide +kernel
theorem d_F_addPair_50 : decode b_F_addPair 50 = .ok (.return_, 1) := by decide +kernel
end
section
theorem d_M_init_0 : decode b_M_init 0 = .ok (.aload_n 0, 1) := by decide +kernel
theorem d_M_init_1 : decode b_M_init 1 = .ok (.invokespecial 3, 3) := by decide +kernel
theorem d_M_init_4 : decode b_M_init 4 = .ok (.aload_n 0, 1) := by decide +kernel
theorem d_M_init_5 : decode b_M_init 5 = .ok (.bipush 10, 2) := by decide +kernel
theorem d_M_init_7 : decode b_M_init 7 = .ok (.newarray .int, 2) := by decide +kernel
theorem d_M_init_9 : decode b_M_init 9 = .ok (.putfield 9, 3) := by decide +kernel
theorem d_M_init_12 : decode b_M_init 12 = .ok (.aload_n 0, 1) := by decide +kernel
theorem d_M_init_13 : decode b_M_init 13 = .ok (.bipush 10, 2) := by decide +kernel
theorem d_M_init_15 : decode b_M_init 15 = .ok (.newarray .int, 2) := by decide +kernel
theorem d_M_init_17 : decode b_M_init 17 = .ok (.putfield 15, 3) := by decide +kernel
theorem d_M_init_20 : decode b_M_init 20 = .ok (.aload_n 0, 1) := by decide +kernel
theorem d_M_init_21 : decode b_M_init 21 = .ok (.bipush 100, 2) := by decide +kernel
theorem d_M_init_23 : decode b_M_init 23 = .ok (.newarray .int, 2) := by decide +kernel
theorem d_M_init_25 : decode b_M_init 25 = .ok (.putfield 18, 3) := by decide +kernel
theorem d_M_init_28 : decode b_M_init 28 = .ok (.aload_n 0, 1) := by decide +kernel
theorem d_M_init_29 : decode b_M_init 29 = .ok (.sipush 1024, 3) := by decide +kernel
theorem d_M_init_32 : decode b_M_init 32 = .ok (.newarray .int, 2) := by decide +kernel
theorem d_M_init_34 : decode b_M_init 34 = .ok (.putfield 21, 3) := by decide +kernel
theorem d_M_init_37 : decode b_M_init 37 = .ok (.aload_n 0, 1) := by decide +kernel
theorem d_M_init_38 : decode b_M_init 38 = .ok (.sipush 1024, 3) := by decide +kernel
theorem d_M_init_41 : decode b_M_init 41 = .ok (.newarray .int, 2) := by decide +kernel
theorem d_M_init_43 : decode b_M_init 43 = .ok (.putfield 24, 3) := by decide +kernel
theorem d_M_init_46 : decode b_M_init 46 = .ok (.aload_n 0, 1) := by decide +kernel
theorem d_M_init_47 : decode b_M_init 47 = .ok (.iconst 0, 1) := by decide +kernel
theorem d_M_init_48 : decode b_M_init 48 = .ok (.putfield 27, 3) := by decide +kernel
theorem d_M_init_51 : decode b_M_init 51 = .ok (.aload_n 0, 1) := by decide +kernel
theorem d_M_init_52 : decode b_M_init 52 = .ok (.aload_n 1, 1) := by decide +kernel
theorem d_M_init_53 : decode b_M_init 53 = .ok (.putfield 31, 3) := by decide +kernel
theorem d_M_init_56 : decode b_M_init 56 = .ok (.aload_n 0, 1) := by decide +kernel
theorem d_M_init_57 : decode b_M_init 57 = .ok (.aload_n 2, 1) := by decide +kernel
theorem d_M_init_58 : decode b_M_init 58 = .ok (.putfield 35, 3) := by decide +kernel
theorem d_M_init_61 : decode b_M_init 61 = .ok (.return_, 1) := by decide +kernel
theorem d_M_solve_0 : decode b_M_solve 0 = .ok (.aload_n 0, 1) := by decide +kernel
theorem d_M_solve_1 : decode b_M_solve 1 = .ok (.iload_n 1, 1) := by decide +kernel
theorem d_M_solve_2 : decode b_M_solve 2 = .ok (.invokevirtual 39, 3) := by decide +kernel
theorem d_M_solve_5 : decode b_M_solve 5 = .ok (.aload_n 0, 1) := by decide +kernel
theorem d_M_solve_6 : decode b_M_solve 6 = .ok (.invokevirtual 43, 3) := by decide +kernel
theorem d_M_solve_9 : decode b_M_solve 9 = .ok (.aload_n 0, 1) := by decide +kernel
theorem d_M_solve_10 : decode b_M_solve 10 = .ok (.getfield 21, 3) := by decide +kernel
theorem d_M_solve_13 : decode b_M_solve 13 = .ok (.iconst 0, 1) := by decide +kernel
theorem d_M_solve_14 : decode b_M_solve 14 = .ok (.iconst 0, 1) := by decide +kernel
theorem d_M_solve_15 : decode b_M_solve 15 = .ok (.iastore, 1) := by decide +kernel
theorem d_M_solve_16 : decode b_M_solve 16 = .ok (.aload_n 0, 1) := by decide +kernel
theorem d_M_solve_17 : decode b_M_solve 17 = .ok (.getfield 24, 3) := by decide +kernel
theorem d_M_solve_20 : decode b_M_solve 20 = .ok (.iconst 0, 1) := by decide +kernel
theorem d_M_solve_21 : decode b_M_solve 21 = .ok (.iconst 1, 1) := by decide +kernel
theorem d_M_solve_22 : decode b_M_solve 22 = .ok (.iastore, 1) := by decide +kernel
theorem d_M_solve_23 : decode b_M_solve 23 = .ok (.iconst 1, 1) := by decide +kernel
theorem d_M_solve_24 : decode b_M_solve 24 = .ok (.istore_n 2, 1) := by decide +kernel
theorem d_M_solve_25 : decode b_M_solve 25 = .ok (.iload_n 2, 1) := by decide +kernel
theorem d_M_solve_26 : decode b_M_solve 26 = .ok (.aload_n 0, 1) := by decide +kernel
theorem d_M_solve_27 : decode b_M_solve 27 = .ok (.invokevirtual 46, 3) := by decide +kernel
theorem d_M_solve_30 : decode b_M_solve 30 = .ok (.if_icmp .gt 14, 3) := by decide +kernel
theorem d_M_solve_33 : decode b_M_solve 33 = .ok (.aload_n 0, 1) := by decide +kernel
theorem d_M_solve_34 : decode b_M_solve 34 = .ok (.iload_n 2, 1) := by decide +kernel
theorem d_M_solve_35 : decode b_M_solve 35 = .ok (.invokevirtual 50, 3) := by decide +kernel
theorem d_M_solve_38 : decode b_M_solve 38 = .ok (.iinc 2 1, 3) := by decide +kernel
theorem d_M_solve_41 : decode b_M_solve 41 = .ok (.goto (-16), 3) := by decide +kernel
theorem d_M_solve_44 : decode b_M_solve 44 = .ok (.aload_n 0, 1) := by decide +kernel
theorem d_M_solve_45 : decode b_M_solve 45 = .ok (.getfield 21, 3) := by decide +kernel
theorem d_M_solve_48 : decode b_M_solve 48 = .ok (.aload_n 0, 1) := by decide +kernel
theorem d_M_solve_49 : decode b_M_solve 49 = .ok (.invokevirtual 46, 3) := by decide +kernel
theorem d_M_solve_52 : decode b_M_solve 52 = .ok (.iaload, 1) := by decide +kernel
theorem d_M_solve_53 : decode b_M_solve 53 = .ok (.ldc 53, 2) := by decide +kernel
theorem d_M_solve_55 : decode b_M_solve 55 = .ok (.if_icmp .eq 7, 3) := by decide +kernel
theorem d_M_solve_58 : decode b_M_solve 58 = .ok (.iconst 1, 1) := by decide +kernel
theorem d_M_solve_59 : decode b_M_solve 59 = .ok (.goto 4, 3) := by decide +kernel
theorem d_M_solve_62 : decode b_M_solve 62 = .ok (.iconst 0, 1) := by decide +kernel
theorem d_M_solve_63 : decode b_M_solve 63 = .ok (.ireturn, 1) := by decide +kernel
theorem d_M_layRow_0 : decode b_M_layRow 0 = .ok (.aload_n 0, 1) := by decide +kernel
theorem d_M_layRow_1 : decode b_M_layRow 1 = .ok (.iconst 0, 1) := by decide +kernel
theorem d_M_layRow_2 : decode b_M_layRow 2 = .ok (.putfield 27, 3) := by decide +kernel
theorem d_M_layRow_5 : decode b_M_layRow 5 = .ok (.iconst 0, 1) := by decide +kernel
theorem d_M_layRow_6 : decode b_M_layRow 6 = .ok (.istore_n 2, 1) := by decide +kernel
theorem d_M_layRow_7 : decode b_M_layRow 7 = .ok (.iload_n 2, 1) := by decide +kernel
theorem d_M_layRow_8 : decode b_M_layRow 8 = .ok (.aload_n 0, 1) := by decide +kernel
theorem d_M_layRow_9 : decode b_M_layRow 9 = .ok (.getfield 31, 3) := by decide +kernel
theorem d_M_layRow_12 : decode b_M_layRow 12 = .ok (.getfield 84, 3) := by decide +kernel
theorem d_M_layRow_15 : decode b_M_layRow 15 = .ok (.if_icmp .ge 61, 3) := by decide +kernel
theorem d_M_layRow_18 : decode b_M_layRow 18 = .ok (.aload_n 0, 1) := by decide +kernel
theorem d_M_layRow_19 : decode b_M_layRow 19 = .ok (.getfield 27, 3) := by decide +kernel
theorem d_M_layRow_22 : decode b_M_layRow 22 = .ok (.bipush 10, 2) := by decide +kernel
theorem d_M_layRow_24 : decode b_M_layRow 24 = .ok (.if_icmp .ge 52, 3) := by decide +kernel
theorem d_M_layRow_27 : decode b_M_layRow 27 = .ok (.iload_n 1, 1) := by decide +kernel
theorem d_M_layRow_28 : decode b_M_layRow 28 = .ok (.iload_n 2, 1) := by decide +kernel
theorem d_M_layRow_29 : decode b_M_layRow 29 = .ok (.ishr, 1) := by decide +kernel
theorem d_M_layRow_30 : decode b_M_layRow 30 = .ok (.iconst 1, 1) := by decide +kernel
theorem d_M_layRow_31 : decode b_M_layRow 31 = .ok (.iand, 1) := by decide +kernel
theorem d_M_layRow_32 : decode b_M_layRow 32 = .ok (.iconst 1, 1) := by decide +kernel
theorem d_M_layRow_33 : decode b_M_layRow 33 = .ok (.if_icmp .ne 37, 3) := by decide +kernel
theorem d_M_layRow_36 : decode b_M_layRow 36 = .ok (.aload_n 0, 1) := by decide +kernel
theorem d_M_layRow_37 : decode b_M_layRow 37 = .ok (.getfield 9, 3) := by decide +kernel
theorem d_M_layRow_40 : decode b_M_layRow 40 = .ok (.aload_n 0, 1) := by decide +kernel
theorem d_M_layRow_41 : decode b_M_layRow 41 = .ok (.getfield 27, 3) := by decide +kernel
theorem d_M_layRow_44 : decode b_M_layRow 44 = .ok (.iload_n 2, 1) := by decide +kernel
theorem d_M_layRow_45 : decode b_M_layRow 45 = .ok (.iastore, 1) := by decide +kernel
theorem d_M_layRow_46 : decode b_M_layRow 46 = .ok (.aload_n 0, 1) := by decide +kernel
theorem d_M_layRow_47 : decode b_M_layRow 47 = .ok (.getfield 15, 3) := by decide +kernel
theorem d_M_layRow_50 : decode b_M_layRow 50 = .ok (.aload_n 0, 1) := by decide +kernel
theorem d_M_layRow_51 : decode b_M_layRow 51 = .ok (.getfield 27, 3) := by decide +kernel
theorem d_M_layRow_54 : decode b_M_layRow 54 = .ok (.aload_n 0, 1) := by decide +kernel
theorem d_M_layRow_55 : decode b_M_layRow 55 = .ok (.iload_n 2, 1) := by decide +kernel
theorem d_M_layRow_56 : decode b_M_layRow 56 = .ok (.invokevirtual 89, 3) := by decide +kernel
theorem d_M_layRow_59 : decode b_M_layRow 59 = .ok (.iastore, 1) := by decide +kernel
theorem d_M_layRow_60 : decode b_M_layRow 60 = .ok (.aload_n 0, 1) := by decide +kernel
theorem d_M_layRow_61 : decode b_M_layRow 61 = .ok (.dup, 1) := by decide +kernel
theorem d_M_layRow_62 : decode b_M_layRow 62 = .ok (.getfield 27, 3) := by decide +kernel
theorem d_M_layRow_65 : decode b_M_layRow 65 = .ok (.iconst 1, 1) := by decide +kernel
theorem d_M_layRow_66 : decode b_M_layRow 66 = .ok (.iadd, 1) := by decide +kernel
theorem d_M_layRow_67 : decode b_M_layRow 67 = .ok (.putfield 27, 3) := by decide +kernel
theorem d_M_layRow_70 : decode b_M_layRow 70 = .ok (.iinc 2 1, 3) := by decide +kernel
theorem d_M_layRow_73 : decode b_M_layRow 73 = .ok (.goto (-66), 3) := by decide +kernel
theorem d_M_layRow_76 : decode b_M_layRow 76 = .ok (.return_, 1) := by decide +kernel
theorem d_M_nearestBoundary_0 : decode b_M_nearestBoundary 0 = .ok (.iconst (-1), 1) := by decide +kernel
theorem d_M_nearestBoundary_1 : decode b_M_nearestBoundary 1 = .ok (.istore_n 2, 1) := by decide +kernel
theorem d_M_nearestBoundary_2 : decode b_M_nearestBoundary 2 = .ok (.iconst 0, 1) := by decide +kernel
theorem d_M_nearestBoundary_3 : decode b_M_nearestBoundary 3 = .ok (.istore_n 3, 1) := by decide +kernel
theorem d_M_nearestBoundary_4 : decode b_M_nearestBoundary 4 = .ok (.iload_n 3, 1) := by decide +kernel
theorem d_M_nearestBoundary_5 : decode b_M_nearestBoundary 5 = .ok (.aload_n 0, 1) := by decide +kernel
theorem d_M_nearestBoundary_6 : decode b_M_nearestBoundary 6 = .ok (.getfield 31, 3) := by decide +kernel
theorem d_M_nearestBoundary_9 : decode b_M_nearestBoundary 9 = .ok (.getfield 84, 3) := by decide +kernel
theorem d_M_nearestBoundary_12 : decode b_M_nearestBoundary 12 = .ok (.if_icmp .ge 60, 3) := by decide +kernel
theorem d_M_nearestBoundary_15 : decode b_M_nearestBoundary 15 = .ok (.aload_n 0, 1) := by decide +kernel
theorem d_M_nearestBoundary_16 : decode b_M_nearestBoundary 16 = .ok (.getfield 31, 3) := by decide +kernel
theorem d_M_nearestBoundary_19 : decode b_M_nearestBoundary 19 = .ok (.iload_n 3, 1) := by decide +kernel
theorem d_M_nearestBoundary_20 : decode b_M_nearestBoundary 20 = .ok (.invokevirtual 93, 3) := by decide +kernel
theorem d_M_nearestBoundary_23 : decode b_M_nearestBoundary 23 = .ok (.ifCond .eq 43, 3) := by decide +kernel
theorem d_M_nearestBoundary_26 : decode b_M_nearestBoundary 26 = .ok (.aload_n 0, 1) := by decide +kernel
theorem d_M_nearestBoundary_27 : decode b_M_nearestBoundary 27 = .ok (.getfield 35, 3) := by decide +kernel
theorem d_M_nearestBoundary_30 : decode b_M_nearestBoundary 30 = .ok (.iload_n 1, 1) := by decide +kernel
theorem d_M_nearestBoundary_31 : decode b_M_nearestBoundary 31 = .ok (.iload_n 3, 1) := by decide +kernel
theorem d_M_nearestBoundary_32 : decode b_M_nearestBoundary 32 = .ok (.invokevirtual 97, 3) := by decide +kernel
theorem d_M_nearestBoundary_35 : decode b_M_nearestBoundary 35 = .ok (.ifCond .eq 31, 3) := by decide +kernel
theorem d_M_nearestBoundary_38 : decode b_M_nearestBoundary 38 = .ok (.iload_n 2, 1) := by decide +kernel
theorem d_M_nearestBoundary_39 : decode b_M_nearestBoundary 39 = .ok (.iconst (-1), 1) := by decide +kernel
theorem d_M_nearestBoundary_40 : decode b_M_nearestBoundary 40 = .ok (.if_icmp .eq 24, 3) := by decide +kernel
theorem d_M_nearestBoundary_43 : decode b_M_nearestBoundary 43 = .ok (.aload_n 0, 1) := by decide +kernel
theorem d_M_nearestBoundary_44 : decode b_M_nearestBoundary 44 = .ok (.getfield 35, 3) := by decide +kernel
theorem d_M_nearestBoundary_47 : decode b_M_nearestBoundary 47 = .ok (.iload_n 1, 1) := by decide +kernel
theorem d_M_nearestBoundary_48 : decode b_M_nearestBoundary 48 = .ok (.iload_n 3, 1) := by decide +kernel
theorem d_M_nearestBoundary_49 : decode b_M_nearestBoundary 49 = .ok (.invokevirtual 101, 3) := by decide +kernel
theorem d_M_nearestBoundary_52 : decode b_M_nearestBoundary 52 = .ok (.aload_n 0, 1) := by decide +kernel
theorem d_M_nearestBoundary_53 : decode b_M_nearestBoundary 53 = .ok (.getfield 35, 3) := by decide +kernel
theorem d_M_nearestBoundary_56 : decode b_M_nearestBoundary 56 = .ok (.iload_n 1, 1) := by decide +kernel
theorem d_M_nearestBoundary_57 : decode b_M_nearestBoundary 57 = .ok (.iload_n 2, 1) := by decide +kernel
theorem d_M_nearestBoundary_58 : decode b_M_nearestBoundary 58 = .ok (.invokevirtual 101, 3) := by decide +kernel
theorem d_M_nearestBoundary_61 : decode b_M_nearestBoundary 61 = .ok (.if_icmp .ge 5, 3) := by decide +kernel
theorem d_M_nearestBoundary_64 : decode b_M_nearestBoundary 64 = .ok (.iload_n 3, 1) := by decide +kernel
theorem d_M_nearestBoundary_65 : decode b_M_nearestBoundary 65 = .ok (.istore_n 2, 1) := by decide +kernel
theorem d_M_nearestBoundary_66 : decode b_M_nearestBoundary 66 = .ok (.iinc 3 1, 3) := by decide +kernel
theorem d_M_nearestBoundary_69 : decode b_M_nearestBoundary 69 = .ok (.goto (-65), 3) := by decide +kernel
theorem d_M_nearestBoundary_72 : decode b_M_nearestBoundary 72 = .ok (.iload_n 2, 1) := by decide +kernel
theorem d_M_nearestBoundary_73 : decode b_M_nearestBoundary 73 = .ok (.ireturn, 1) := by decide +kernel
theorem d_M_weighPairs_0 : decode b_M_weighPairs 0 = .ok (.iconst 0, 1) := by decide +kernel
theorem d_M_weighPairs_1 : decode b_M_weighPairs 1 = .ok (.istore_n 1, 1) := by decide +kernel
theorem d_M_weighPairs_2 : decode b_M_weighPairs 2 = .ok (.iload_n 1, 1) := by decide +kernel
theorem d_M_weighPairs_3 : decode b_M_weighPairs 3 = .ok (.aload_n 0, 1) := by decide +kernel
theorem d_M_weighPairs_4 : decode b_M_weighPairs 4 = .ok (.getfield 27, 3) := by decide +kernel
theorem d_M_weighPairs_7 : decode b_M_weighPairs 7 = .ok (.if_icmp .ge 84, 3) := by decide +kernel
theorem d_M_weighPairs_10 : decode b_M_weighPairs 10 = .ok (.iload_n 1, 1) := by decide +kernel
theorem d_M_weighPairs_11 : decode b_M_weighPairs 11 = .ok (.istore_n 2, 1) := by decide +kernel
theorem d_M_weighPairs_12 : decode b_M_weighPairs 12 = .ok (.iload_n 2, 1) := by decide +kernel
theorem d_M_weighPairs_13 : decode b_M_weighPairs 13 = .ok (.aload_n 0, 1) := by decide +kernel
theorem d_M_weighPairs_14 : decode b_M_weighPairs 14 = .ok (.getfield 27, 3) := by decide +kernel
theorem d_M_weighPairs_17 : decode b_M_weighPairs 17 = .ok (.if_icmp .ge 68, 3) := by decide +kernel
theorem d_M_weighPairs_20 : decode b_M_weighPairs 20 = .ok (.aload_n 0, 1) := by decide +kernel
theorem d_M_weighPairs_21 : decode b_M_weighPairs 21 = .ok (.iload_n 1, 1) := by decide +kernel
theorem d_M_weighPairs_22 : decode b_M_weighPairs 22 = .ok (.iload_n 2, 1) := by decide +kernel
theorem d_M_weighPairs_23 : decode b_M_weighPairs 23 = .ok (.invokevirtual 64, 3) := by decide +kernel
theorem d_M_weighPairs_26 : decode b_M_weighPairs 26 = .ok (.istore_n 3, 1) := by decide +kernel
theorem d_M_weighPairs_27 : decode b_M_weighPairs 27 = .ok (.aload_n 0, 1) := by decide +kernel
theorem d_M_weighPairs_28 : decode b_M_weighPairs 28 = .ok (.getfield 18, 3) := by decide +kernel
theorem d_M_weighPairs_31 : decode b_M_weighPairs 31 = .ok (.iload_n 1, 1) := by decide +kernel
theorem d_M_weighPairs_32 : decode b_M_weighPairs 32 = .ok (.bipush 10, 2) := by decide +kernel
theorem d_M_weighPairs_34 : decode b_M_weighPairs 34 = .ok (.imul, 1) := by decide +kernel
theorem d_M_weighPairs_35 : decode b_M_weighPairs 35 = .ok (.iload_n 2, 1) := by decide +kernel
theorem d_M_weighPairs_36 : decode b_M_weighPairs 36 = .ok (.iadd, 1) := by decide +kernel
theorem d_M_weighPairs_37 : decode b_M_weighPairs 37 = .ok (.iload_n 3, 1) := by decide +kernel
theorem d_M_weighPairs_38 : decode b_M_weighPairs 38 = .ok (.iconst (-1), 1) := by decide +kernel
theorem d_M_weighPairs_39 : decode b_M_weighPairs 39 = .ok (.if_icmp .eq 37, 3) := by decide +kernel
theorem d_M_weighPairs_42 : decode b_M_weighPairs 42 = .ok (.aload_n 0, 1) := by decide +kernel
theorem d_M_weighPairs_43 : decode b_M_weighPairs 43 = .ok (.getfield 35, 3) := by decide +kernel
theorem d_M_weighPairs_46 : decode b_M_weighPairs 46 = .ok (.aload_n 0, 1) := by decide +kernel
theorem d_M_weighPairs_47 : decode b_M_weighPairs 47 = .ok (.getfield 9, 3) := by decide +kernel
theorem d_M_weighPairs_50 : decode b_M_weighPairs 50 = .ok (.iload_n 1, 1) := by decide +kernel
theorem d_M_weighPairs_51 : decode b_M_weighPairs 51 = .ok (.iaload, 1) := by decide +kernel
theorem d_M_weighPairs_52 : decode b_M_weighPairs 52 = .ok (.iload_n 3, 1) := by decide +kernel
theorem d_M_weighPairs_53 : decode b_M_weighPairs 53 = .ok (.invokevirtual 97, 3) := by decide +kernel
theorem d_M_weighPairs_56 : decode b_M_weighPairs 56 = .ok (.ifCond .eq 20, 3) := by decide +kernel
theorem d_M_weighPairs_59 : decode b_M_weighPairs 59 = .ok (.aload_n 0, 1) := by decide +kernel
theorem d_M_weighPairs_60 : decode b_M_weighPairs 60 = .ok (.getfield 35, 3) := by decide +kernel
theorem d_M_weighPairs_63 : decode b_M_weighPairs 63 = .ok (.aload_n 0, 1) := by decide +kernel
theorem d_M_weighPairs_64 : decode b_M_weighPairs 64 = .ok (.getfield 9, 3) := by decide +kernel
theorem d_M_weighPairs_67 : decode b_M_weighPairs 67 = .ok (.iload_n 1, 1) := by decide +kernel
theorem d_M_weighPairs_68 : decode b_M_weighPairs 68 = .ok (.iaload, 1) := by decide +kernel
theorem d_M_weighPairs_69 : decode b_M_weighPairs 69 = .ok (.iload_n 3, 1) := by decide +kernel
theorem d_M_weighPairs_70 : decode b_M_weighPairs 70 = .ok (.invokevirtual 101, 3) := by decide +kernel
theorem d_M_weighPairs_73 : decode b_M_weighPairs 73 = .ok (.goto 5, 3) := by decide +kernel
theorem d_M_weighPairs_76 : decode b_M_weighPairs 76 = .ok (.ldc 53, 2) := by decide +kernel
theorem d_M_weighPairs_78 : decode b_M_weighPairs 78 = .ok (.iastore, 1) := by decide +kernel
theorem d_M_weighPairs_79 : decode b_M_weighPairs 79 = .ok (.iinc 2 1, 3) := by decide +kernel
theorem d_M_weighPairs_82 : decode b_M_weighPairs 82 = .ok (.goto (-70), 3) := by decide +kernel
theorem d_M_weighPairs_85 : decode b_M_weighPairs 85 = .ok (.iinc 1 1, 3) := by decide +kernel
theorem d_M_weighPairs_88 : decode b_M_weighPairs 88 = .ok (.goto (-86), 3) := by decide +kernel
theorem d_M_weighPairs_91 : decode b_M_weighPairs 91 = .ok (.return_, 1) := by decide +kernel
theorem d_M_pointOf_0 : decode b_M_pointOf 0 = .ok (.iload_n 2, 1) := by decide +kernel
theorem d_M_pointOf_1 : decode b_M_pointOf 1 = .ok (.iload_n 1, 1) := by decide +kernel
theorem d_M_pointOf_2 : decode b_M_pointOf 2 = .ok (.if_icmp .ne 12, 3) := by decide +kernel
theorem d_M_pointOf_5 : decode b_M_pointOf 5 = .ok (.aload_n 0, 1) := by decide +kernel
theorem d_M_pointOf_6 : decode b_M_pointOf 6 = .ok (.getfield 15, 3) := by decide +kernel
theorem d_M_pointOf_9 : decode b_M_pointOf 9 = .ok (.iload_n 1, 1) := by decide +kernel
theorem d_M_pointOf_10 : decode b_M_pointOf 10 = .ok (.iaload, 1) := by decide +kernel
theorem d_M_pointOf_11 : decode b_M_pointOf 11 = .ok (.goto 9, 3) := by decide +kernel
theorem d_M_pointOf_14 : decode b_M_pointOf 14 = .ok (.aload_n 0, 1) := by decide +kernel
theorem d_M_pointOf_15 : decode b_M_pointOf 15 = .ok (.getfield 9, 3) := by decide +kernel
theorem d_M_pointOf_18 : decode b_M_pointOf 18 = .ok (.iload_n 2, 1) := by decide +kernel
theorem d_M_pointOf_19 : decode b_M_pointOf 19 = .ok (.iaload, 1) := by decide +kernel
theorem d_M_pointOf_20 : decode b_M_pointOf 20 = .ok (.ireturn, 1) := by decide +kernel
theorem d_M_wholeGroup_0 : decode b_M_wholeGroup 0 = .ok (.iconst 1, 1) := by decide +kernel
theorem d_M_wholeGroup_1 : decode b_M_wholeGroup 1 = .ok (.aload_n 0, 1) := by decide +kernel
theorem d_M_wholeGroup_2 : decode b_M_wholeGroup 2 = .ok (.getfield 27, 3) := by decide +kernel
theorem d_M_wholeGroup_5 : decode b_M_wholeGroup 5 = .ok (.ishl, 1) := by decide +kernel
theorem d_M_wholeGroup_6 : decode b_M_wholeGroup 6 = .ok (.iconst 1, 1) := by decide +kernel
theorem d_M_wholeGroup_7 : decode b_M_wholeGroup 7 = .ok (.isub, 1) := by decide +kernel
theorem d_M_wholeGroup_8 : decode b_M_wholeGroup 8 = .ok (.ireturn, 1) := by decide +kernel
theorem d_M_solveGroup_0 : decode b_M_solveGroup 0 = .ok (.aload_n 0, 1) := by decide +kernel
theorem d_M_solveGroup_1 : decode b_M_solveGroup 1 = .ok (.iload_n 1, 1) := by decide +kernel
theorem d_M_solveGroup_2 : decode b_M_solveGroup 2 = .ok (.invokevirtual 104, 3) := by decide +kernel
theorem d_M_solveGroup_5 : decode b_M_solveGroup 5 = .ok (.istore_n 2, 1) := by decide +kernel
theorem d_M_solveGroup_6 : decode b_M_solveGroup 6 = .ok (.aload_n 0, 1) := by decide +kernel
theorem d_M_solveGroup_7 : decode b_M_solveGroup 7 = .ok (.getfield 21, 3) := by decide +kernel
theorem d_M_solveGroup_10 : decode b_M_solveGroup 10 = .ok (.iload_n 1, 1) := by decide +kernel
theorem d_M_solveGroup_11 : decode b_M_solveGroup 11 = .ok (.ldc 53, 2) := by decide +kernel
theorem d_M_solveGroup_13 : decode b_M_solveGroup 13 = .ok (.iastore, 1) := by decide +kernel
theorem d_M_solveGroup_14 : decode b_M_solveGroup 14 = .ok (.aload_n 0, 1) := by decide +kernel
theorem d_M_solveGroup_15 : decode b_M_solveGroup 15 = .ok (.getfield 24, 3) := by decide +kernel
theorem d_M_solveGroup_18 : decode b_M_solveGroup 18 = .ok (.iload_n 1, 1) := by decide +kernel
theorem d_M_solveGroup_19 : decode b_M_solveGroup 19 = .ok (.iconst 0, 1) := by decide +kernel
theorem d_M_solveGroup_20 : decode b_M_solveGroup 20 = .ok (.iastore, 1) := by decide +kernel
theorem d_M_solveGroup_21 : decode b_M_solveGroup 21 = .ok (.iload_n 2, 1) := by decide +kernel
theorem d_M_solveGroup_22 : decode b_M_solveGroup 22 = .ok (.istore_n 3, 1) := by decide +kernel
theorem d_M_solveGroup_23 : decode b_M_solveGroup 23 = .ok (.iload_n 3, 1) := by decide +kernel
theorem d_M_solveGroup_24 : decode b_M_solveGroup 24 = .ok (.aload_n 0, 1) := by decide +kernel
theorem d_M_solveGroup_25 : decode b_M_solveGroup 25 = .ok (.getfield 27, 3) := by decide +kernel
theorem d_M_solveGroup_28 : decode b_M_solveGroup 28 = .ok (.if_icmp .ge 41, 3) := by decide +kernel
theorem d_M_solveGroup_31 : decode b_M_solveGroup 31 = .ok (.iload_n 1, 1) := by decide +kernel
theorem d_M_solveGroup_32 : decode b_M_solveGroup 32 = .ok (.iload_n 3, 1) := by decide +kernel
theorem d_M_solveGroup_33 : decode b_M_solveGroup 33 = .ok (.ishr, 1) := by decide +kernel
theorem d_M_solveGroup_34 : decode b_M_solveGroup 34 = .ok (.iconst 1, 1) := by decide +kernel
theorem d_M_solveGroup_35 : decode b_M_solveGroup 35 = .ok (.iand, 1) := by decide +kernel
theorem d_M_solveGroup_36 : decode b_M_solveGroup 36 = .ok (.iconst 1, 1) := by decide +kernel
theorem d_M_solveGroup_37 : decode b_M_solveGroup 37 = .ok (.if_icmp .ne 26, 3) := by decide +kernel
theorem d_M_solveGroup_40 : decode b_M_solveGroup 40 = .ok (.aload_n 0, 1) := by decide +kernel
theorem d_M_solveGroup_41 : decode b_M_solveGroup 41 = .ok (.iload_n 1, 1) := by decide +kernel
theorem d_M_solveGroup_42 : decode b_M_solveGroup 42 = .ok (.aload_n 0, 1) := by decide +kernel
theorem d_M_solveGroup_43 : decode b_M_solveGroup 43 = .ok (.iload_n 1, 1) := by decide +kernel
theorem d_M_solveGroup_44 : decode b_M_solveGroup 44 = .ok (.iload_n 2, 1) := by decide +kernel
theorem d_M_solveGroup_45 : decode b_M_solveGroup 45 = .ok (.iload_n 3, 1) := by decide +kernel
theorem d_M_solveGroup_46 : decode b_M_solveGroup 46 = .ok (.invokevirtual 107, 3) := by decide +kernel
theorem d_M_solveGroup_49 : decode b_M_solveGroup 49 = .ok (.aload_n 0, 1) := by decide +kernel
theorem d_M_solveGroup_50 : decode b_M_solveGroup 50 = .ok (.getfield 24, 3) := by decide +kernel
theorem d_M_solveGroup_53 : decode b_M_solveGroup 53 = .ok (.iload_n 1, 1) := by decide +kernel
theorem d_M_solveGroup_54 : decode b_M_solveGroup 54 = .ok (.iload_n 2, 1) := by decide +kernel
theorem d_M_solveGroup_55 : decode b_M_solveGroup 55 = .ok (.iload_n 3, 1) := by decide +kernel
theorem d_M_solveGroup_56 : decode b_M_solveGroup 56 = .ok (.invokestatic 80, 3) := by decide +kernel
theorem d_M_solveGroup_59 : decode b_M_solveGroup 59 = .ok (.iaload, 1) := by decide +kernel
theorem d_M_solveGroup_60 : decode b_M_solveGroup 60 = .ok (.invokevirtual 110, 3) := by decide +kernel
theorem d_M_solveGroup_63 : decode b_M_solveGroup 63 = .ok (.iinc 3 1, 3) := by decide +kernel
theorem d_M_solveGroup_66 : decode b_M_solveGroup 66 = .ok (.goto (-43), 3) := by decide +kernel
theorem d_M_solveGroup_69 : decode b_M_solveGroup 69 = .ok (.return_, 1) := by decide +kernel
theorem d_M_leastPlace_0 : decode b_M_leastPlace 0 = .ok (.iconst 0, 1) := by decide +kernel
theorem d_M_leastPlace_1 : decode b_M_leastPlace 1 = .ok (.istore_n 2, 1) := by decide +kernel
theorem d_M_leastPlace_2 : decode b_M_leastPlace 2 = .ok (.iload_n 2, 1) := by decide +kernel
theorem d_M_leastPlace_3 : decode b_M_leastPlace 3 = .ok (.aload_n 0, 1) := by decide +kernel
theorem d_M_leastPlace_4 : decode b_M_leastPlace 4 = .ok (.getfield 27, 3) := by decide +kernel
theorem d_M_leastPlace_7 : decode b_M_leastPlace 7 = .ok (.iconst 1, 1) := by decide +kernel
theorem d_M_leastPlace_8 : decode b_M_leastPlace 8 = .ok (.isub, 1) := by decide +kernel
theorem d_M_leastPlace_9 : decode b_M_leastPlace 9 = .ok (.if_icmp .ge 17, 3) := by decide +kernel
theorem d_M_leastPlace_12 : decode b_M_leastPlace 12 = .ok (.iload_n 1, 1) := by decide +kernel
theorem d_M_leastPlace_13 : decode b_M_leastPlace 13 = .ok (.iload_n 2, 1) := by decide +kernel
theorem d_M_leastPlace_14 : decode b_M_leastPlace 14 = .ok (.ishr, 1) := by decide +kernel
theorem d_M_leastPlace_15 : decode b_M_leastPlace 15 = .ok (.iconst 1, 1) := by decide +kernel
theorem d_M_leastPlace_16 : decode b_M_leastPlace 16 = .ok (.iand, 1) := by decide +kernel
theorem d_M_leastPlace_17 : decode b_M_leastPlace 17 = .ok (.ifCond .ne 9, 3) := by decide +kernel
theorem d_M_leastPlace_20 : decode b_M_leastPlace 20 = .ok (.iinc 2 1, 3) := by decide +kernel
theorem d_M_leastPlace_23 : decode b_M_leastPlace 23 = .ok (.goto (-21), 3) := by decide +kernel
theorem d_M_leastPlace_26 : decode b_M_leastPlace 26 = .ok (.iload_n 2, 1) := by decide +kernel
theorem d_M_leastPlace_27 : decode b_M_leastPlace 27 = .ok (.ireturn, 1) := by decide +kernel
theorem d_M_weightWith_0 : decode b_M_weightWith 0 = .ok (.aload_n 0, 1) := by decide +kernel
theorem d_M_weightWith_1 : decode b_M_weightWith 1 = .ok (.getfield 18, 3) := by decide +kernel
theorem d_M_weightWith_4 : decode b_M_weightWith 4 = .ok (.iload_n 2, 1) := by decide +kernel
theorem d_M_weightWith_5 : decode b_M_weightWith 5 = .ok (.bipush 10, 2) := by decide +kernel
theorem d_M_weightWith_7 : decode b_M_weightWith 7 = .ok (.imul, 1) := by decide +kernel
theorem d_M_weightWith_8 : decode b_M_weightWith 8 = .ok (.iload_n 3, 1) := by decide +kernel
theorem d_M_weightWith_9 : decode b_M_weightWith 9 = .ok (.iadd, 1) := by decide +kernel
theorem d_M_weightWith_10 : decode b_M_weightWith 10 = .ok (.iaload, 1) := by decide +kernel
theorem d_M_weightWith_11 : decode b_M_weightWith 11 = .ok (.istore 4, 2) := by decide +kernel
theorem d_M_weightWith_13 : decode b_M_weightWith 13 = .ok (.aload_n 0, 1) := by decide +kernel
theorem d_M_weightWith_14 : decode b_M_weightWith 14 = .ok (.getfield 21, 3) := by decide +kernel
theorem d_M_weightWith_17 : decode b_M_weightWith 17 = .ok (.iload_n 1, 1) := by decide +kernel
theorem d_M_weightWith_18 : decode b_M_weightWith 18 = .ok (.iload_n 2, 1) := by decide +kernel
theorem d_M_weightWith_19 : decode b_M_weightWith 19 = .ok (.iload_n 3, 1) := by decide +kernel
theorem d_M_weightWith_20 : decode b_M_weightWith 20 = .ok (.invokestatic 80, 3) := by decide +kernel
theorem d_M_weightWith_23 : decode b_M_weightWith 23 = .ok (.iaload, 1) := by decide +kernel
theorem d_M_weightWith_24 : decode b_M_weightWith 24 = .ok (.istore 5, 2) := by decide +kernel
theorem d_M_weightWith_26 : decode b_M_weightWith 26 = .ok (.iload 4, 2) := by decide +kernel
theorem d_M_weightWith_28 : decode b_M_weightWith 28 = .ok (.ldc 53, 2) := by decide +kernel
theorem d_M_weightWith_30 : decode b_M_weightWith 30 = .ok (.if_icmp .eq 10, 3) := by decide +kernel
theorem d_M_weightWith_33 : decode b_M_weightWith 33 = .ok (.iload 5, 2) := by decide +kernel
theorem d_M_weightWith_35 : decode b_M_weightWith 35 = .ok (.ldc 53, 2) := by decide +kernel
theorem d_M_weightWith_37 : decode b_M_weightWith 37 = .ok (.if_icmp .ne 8, 3) := by decide +kernel
theorem d_M_weightWith_40 : decode b_M_weightWith 40 = .ok (.ldc 53, 2) := by decide +kernel
theorem d_M_weightWith_42 : decode b_M_weightWith 42 = .ok (.goto 8, 3) := by decide +kernel
theorem d_M_weightWith_45 : decode b_M_weightWith 45 = .ok (.iload 4, 2) := by decide +kernel
theorem d_M_weightWith_47 : decode b_M_weightWith 47 = .ok (.iload 5, 2) := by decide +kernel
theorem d_M_weightWith_49 : decode b_M_weightWith 49 = .ok (.iadd, 1) := by decide +kernel
theorem d_M_weightWith_50 : decode b_M_weightWith 50 = .ok (.ireturn, 1) := by decide +kernel
theorem d_M_without_0 : decode b_M_without 0 = .ok (.iload_n 0, 1) := by decide +kernel
theorem d_M_without_1 : decode b_M_without 1 = .ok (.iconst 1, 1) := by decide +kernel
theorem d_M_without_2 : decode b_M_without 2 = .ok (.iload_n 1, 1) := by decide +kernel
theorem d_M_without_3 : decode b_M_without 3 = .ok (.ishl, 1) := by decide +kernel
theorem d_M_without_4 : decode b_M_without 4 = .ok (.iconst 1, 1) := by decide +kernel
theorem d_M_without_5 : decode b_M_without 5 = .ok (.iload_n 2, 1) := by decide +kernel
theorem d_M_without_6 : decode b_M_without 6 = .ok (.ishl, 1) := by decide +kernel
theorem d_M_without_7 : decode b_M_without 7 = .ok (.ior, 1) := by decide +kernel
theorem d_M_without_8 : decode b_M_without 8 = .ok (.iconst (-1), 1) := by decide +kernel
theorem d_M_without_9 : decode b_M_without 9 = .ok (.ixor, 1) := by decide +kernel
theorem d_M_without_10 : decode b_M_without 10 = .ok (.iand, 1) := by decide +kernel
theorem d_M_without_11 : decode b_M_without 11 = .ok (.ireturn, 1) := by decide +kernel
theorem d_M_weighIn_0 : decode b_M_weighIn 0 = .ok (.iload_n 2, 1) := by decide +kernel
theorem d_M_weighIn_1 : decode b_M_weighIn 1 = .ok (.aload_n 0, 1) := by decide +kernel
theorem d_M_weighIn_2 : decode b_M_weighIn 2 = .ok (.getfield 21, 3) := by decide +kernel
theorem d_M_weighIn_5 : decode b_M_weighIn 5 = .ok (.iload_n 1, 1) := by decide +kernel
theorem d_M_weighIn_6 : decode b_M_weighIn 6 = .ok (.iaload, 1) := by decide +kernel
theorem d_M_weighIn_7 : decode b_M_weighIn 7 = .ok (.if_icmp .ge 20, 3) := by decide +kernel
theorem d_M_weighIn_10 : decode b_M_weighIn 10 = .ok (.aload_n 0, 1) := by decide +kernel
theorem d_M_weighIn_11 : decode b_M_weighIn 11 = .ok (.getfield 21, 3) := by decide +kernel
theorem d_M_weighIn_14 : decode b_M_weighIn 14 = .ok (.iload_n 1, 1) := by decide +kernel
theorem d_M_weighIn_15 : decode b_M_weighIn 15 = .ok (.iload_n 2, 1) := by decide +kernel
theorem d_M_weighIn_16 : decode b_M_weighIn 16 = .ok (.iastore, 1) := by decide +kernel
theorem d_M_weighIn_17 : decode b_M_weighIn 17 = .ok (.aload_n 0, 1) := by decide +kernel
theorem d_M_weighIn_18 : decode b_M_weighIn 18 = .ok (.getfield 24, 3) := by decide +kernel
theorem d_M_weighIn_21 : decode b_M_weighIn 21 = .ok (.iload_n 1, 1) := by decide +kernel
theorem d_M_weighIn_22 : decode b_M_weighIn 22 = .ok (.iload_n 3, 1) := by decide +kernel
theorem d_M_weighIn_23 : decode b_M_weighIn 23 = .ok (.iastore, 1) := by decide +kernel
theorem d_M_weighIn_24 : decode b_M_weighIn 24 = .ok (.goto 29, 3) := by decide +kernel
theorem d_M_weighIn_27 : decode b_M_weighIn 27 = .ok (.iload_n 2, 1) := by decide +kernel
theorem d_M_weighIn_28 : decode b_M_weighIn 28 = .ok (.aload_n 0, 1) := by decide +kernel
theorem d_M_weighIn_29 : decode b_M_weighIn 29 = .ok (.getfield 21, 3) := by decide +kernel
theorem d_M_weighIn_32 : decode b_M_weighIn 32 = .ok (.iload_n 1, 1) := by decide +kernel
theorem d_M_weighIn_33 : decode b_M_weighIn 33 = .ok (.iaload, 1) := by decide +kernel
theorem d_M_weighIn_34 : decode b_M_weighIn 34 = .ok (.if_icmp .ne 19, 3) := by decide +kernel
theorem d_M_weighIn_37 : decode b_M_weighIn 37 = .ok (.iload_n 2, 1) := by decide +kernel
theorem d_M_weighIn_38 : decode b_M_weighIn 38 = .ok (.ldc 53, 2) := by decide +kernel
theorem d_M_weighIn_40 : decode b_M_weighIn 40 = .ok (.if_icmp .eq 13, 3) := by decide +kernel
theorem d_M_weighIn_43 : decode b_M_weighIn 43 = .ok (.aload_n 0, 1) := by decide +kernel
theorem d_M_weighIn_44 : decode b_M_weighIn 44 = .ok (.getfield 24, 3) := by decide +kernel
theorem d_M_weighIn_47 : decode b_M_weighIn 47 = .ok (.iload_n 1, 1) := by decide +kernel
theorem d_M_weighIn_48 : decode b_M_weighIn 48 = .ok (.dup2, 1) := by decide +kernel
theorem d_M_weighIn_49 : decode b_M_weighIn 49 = .ok (.iaload, 1) := by decide +kernel
theorem d_M_weighIn_50 : decode b_M_weighIn 50 = .ok (.iload_n 3, 1) := by decide +kernel
theorem d_M_weighIn_51 : decode b_M_weighIn 51 = .ok (.iadd, 1) := by decide +kernel
theorem d_M_weighIn_52 : decode b_M_weighIn 52 = .ok (.iastore, 1) := by decide +kernel
theorem d_M_weighIn_53 : decode b_M_weighIn 53 = .ok (.return_, 1) := by decide +kernel
theorem d_M_tellFirst_0 : decode b_M_tellFirst 0 = .ok (.aload_n 0, 1) := by decide +kernel
theorem d_M_tellFirst_1 : decode b_M_tellFirst 1 = .ok (.invokevirtual 46, 3) := by decide +kernel
theorem d_M_tellFirst_4 : decode b_M_tellFirst 4 = .ok (.istore_n 2, 1) := by decide +kernel
theorem d_M_tellFirst_5 : decode b_M_tellFirst 5 = .ok (.aload_n 1, 1) := by decide +kernel
theorem d_M_tellFirst_6 : decode b_M_tellFirst 6 = .ok (.aload_n 0, 1) := by decide +kernel
theorem d_M_tellFirst_7 : decode b_M_tellFirst 7 = .ok (.getfield 21, 3) := by decide +kernel
theorem d_M_tellFirst_10 : decode b_M_tellFirst 10 = .ok (.iload_n 2, 1) := by decide +kernel
theorem d_M_tellFirst_11 : decode b_M_tellFirst 11 = .ok (.iaload, 1) := by decide +kernel
theorem d_M_tellFirst_12 : decode b_M_tellFirst 12 = .ok (.aload_n 0, 1) := by decide +kernel
theorem d_M_tellFirst_13 : decode b_M_tellFirst 13 = .ok (.getfield 24, 3) := by decide +kernel
theorem d_M_tellFirst_16 : decode b_M_tellFirst 16 = .ok (.iload_n 2, 1) := by decide +kernel
theorem d_M_tellFirst_17 : decode b_M_tellFirst 17 = .ok (.iaload, 1) := by decide +kernel
theorem d_M_tellFirst_18 : decode b_M_tellFirst 18 = .ok (.invokevirtual 54, 3) := by decide +kernel
theorem d_M_tellFirst_21 : decode b_M_tellFirst 21 = .ok (.iconst 0, 1) := by decide +kernel
theorem d_M_tellFirst_22 : decode b_M_tellFirst 22 = .ok (.istore_n 3, 1) := by decide +kernel
theorem d_M_tellFirst_23 : decode b_M_tellFirst 23 = .ok (.iload_n 3, 1) := by decide +kernel
theorem d_M_tellFirst_24 : decode b_M_tellFirst 24 = .ok (.aload_n 0, 1) := by decide +kernel
theorem d_M_tellFirst_25 : decode b_M_tellFirst 25 = .ok (.getfield 27, 3) := by decide +kernel
theorem d_M_tellFirst_28 : decode b_M_tellFirst 28 = .ok (.if_icmp .ge 77, 3) := by decide +kernel
theorem d_M_tellFirst_31 : decode b_M_tellFirst 31 = .ok (.iload_n 2, 1) := by decide +kernel
theorem d_M_tellFirst_32 : decode b_M_tellFirst 32 = .ok (.iload_n 3, 1) := by decide +kernel
theorem d_M_tellFirst_33 : decode b_M_tellFirst 33 = .ok (.ishr, 1) := by decide +kernel
theorem d_M_tellFirst_34 : decode b_M_tellFirst 34 = .ok (.iconst 1, 1) := by decide +kernel
theorem d_M_tellFirst_35 : decode b_M_tellFirst 35 = .ok (.iand, 1) := by decide +kernel
theorem d_M_tellFirst_36 : decode b_M_tellFirst 36 = .ok (.iconst 1, 1) := by decide +kernel
theorem d_M_tellFirst_37 : decode b_M_tellFirst 37 = .ok (.if_icmp .ne 62, 3) := by decide +kernel
theorem d_M_tellFirst_40 : decode b_M_tellFirst 40 = .ok (.aload_n 0, 1) := by decide +kernel
theorem d_M_tellFirst_41 : decode b_M_tellFirst 41 = .ok (.iload_n 2, 1) := by decide +kernel
theorem d_M_tellFirst_42 : decode b_M_tellFirst 42 = .ok (.iload_n 3, 1) := by decide +kernel
theorem d_M_tellFirst_43 : decode b_M_tellFirst 43 = .ok (.invokevirtual 60, 3) := by decide +kernel
theorem d_M_tellFirst_46 : decode b_M_tellFirst 46 = .ok (.istore 4, 2) := by decide +kernel
theorem d_M_tellFirst_48 : decode b_M_tellFirst 48 = .ok (.aload_n 0, 1) := by decide +kernel
theorem d_M_tellFirst_49 : decode b_M_tellFirst 49 = .ok (.iload_n 3, 1) := by decide +kernel
theorem d_M_tellFirst_50 : decode b_M_tellFirst 50 = .ok (.iload 4, 2) := by decide +kernel
theorem d_M_tellFirst_52 : decode b_M_tellFirst 52 = .ok (.invokevirtual 64, 3) := by decide +kernel
theorem d_M_tellFirst_55 : decode b_M_tellFirst 55 = .ok (.istore 5, 2) := by decide +kernel
theorem d_M_tellFirst_57 : decode b_M_tellFirst 57 = .ok (.aload_n 0, 1) := by decide +kernel
theorem d_M_tellFirst_58 : decode b_M_tellFirst 58 = .ok (.getfield 35, 3) := by decide +kernel
theorem d_M_tellFirst_61 : decode b_M_tellFirst 61 = .ok (.aload_n 0, 1) := by decide +kernel
theorem d_M_tellFirst_62 : decode b_M_tellFirst 62 = .ok (.getfield 9, 3) := by decide +kernel
theorem d_M_tellFirst_65 : decode b_M_tellFirst 65 = .ok (.iload_n 3, 1) := by decide +kernel
theorem d_M_tellFirst_66 : decode b_M_tellFirst 66 = .ok (.iaload, 1) := by decide +kernel
theorem d_M_tellFirst_67 : decode b_M_tellFirst 67 = .ok (.iload 5, 2) := by decide +kernel
theorem d_M_tellFirst_69 : decode b_M_tellFirst 69 = .ok (.invokevirtual 67, 3) := by decide +kernel
theorem d_M_tellFirst_72 : decode b_M_tellFirst 72 = .ok (.aload_n 1, 1) := by decide +kernel
theorem d_M_tellFirst_73 : decode b_M_tellFirst 73 = .ok (.aload_n 0, 1) := by decide +kernel
theorem d_M_tellFirst_74 : decode b_M_tellFirst 74 = .ok (.getfield 9, 3) := by decide +kernel
theorem d_M_tellFirst_77 : decode b_M_tellFirst 77 = .ok (.iload_n 3, 1) := by decide +kernel
theorem d_M_tellFirst_78 : decode b_M_tellFirst 78 = .ok (.iaload, 1) := by decide +kernel
theorem d_M_tellFirst_79 : decode b_M_tellFirst 79 = .ok (.iload 5, 2) := by decide +kernel
theorem d_M_tellFirst_81 : decode b_M_tellFirst 81 = .ok (.aload_n 0, 1) := by decide +kernel
theorem d_M_tellFirst_82 : decode b_M_tellFirst 82 = .ok (.getfield 35, 3) := by decide +kernel
theorem d_M_tellFirst_85 : decode b_M_tellFirst 85 = .ok (.invokevirtual 72, 3) := by decide +kernel
theorem d_M_tellFirst_88 : decode b_M_tellFirst 88 = .ok (.invokevirtual 76, 3) := by decide +kernel
theorem d_M_tellFirst_91 : decode b_M_tellFirst 91 = .ok (.iload_n 2, 1) := by decide +kernel
theorem d_M_tellFirst_92 : decode b_M_tellFirst 92 = .ok (.iload_n 3, 1) := by decide +kernel
theorem d_M_tellFirst_93 : decode b_M_tellFirst 93 = .ok (.iload 4, 2) := by decide +kernel
theorem d_M_tellFirst_95 : decode b_M_tellFirst 95 = .ok (.invokestatic 80, 3) := by decide +kernel
theorem d_M_tellFirst_98 : decode b_M_tellFirst 98 = .ok (.istore_n 2, 1) := by decide +kernel
theorem d_M_tellFirst_99 : decode b_M_tellFirst 99 = .ok (.iinc 3 1, 3) := by decide +kernel
theorem d_M_tellFirst_102 : decode b_M_tellFirst 102 = .ok (.goto (-79), 3) := by decide +kernel
theorem d_M_tellFirst_105 : decode b_M_tellFirst 105 = .ok (.return_, 1) := by decide +kernel
theorem d_M_firstPartner_0 : decode b_M_firstPartner 0 = .ok (.iload_n 2, 1) := by decide +kernel
theorem d_M_firstPartner_1 : decode b_M_firstPartner 1 = .ok (.iconst 1, 1) := by decide +kernel
theorem d_M_firstPartner_2 : decode b_M_firstPartner 2 = .ok (.iadd, 1) := by decide +kernel
theorem d_M_firstPartner_3 : decode b_M_firstPartner 3 = .ok (.istore_n 3, 1) := by decide +kernel
theorem d_M_firstPartner_4 : decode b_M_firstPartner 4 = .ok (.iload_n 3, 1) := by decide +kernel
theorem d_M_firstPartner_5 : decode b_M_firstPartner 5 = .ok (.aload_n 0, 1) := by decide +kernel
theorem d_M_firstPartner_6 : decode b_M_firstPartner 6 = .ok (.getfield 27, 3) := by decide +kernel
theorem d_M_firstPartner_9 : decode b_M_firstPartner 9 = .ok (.if_icmp .ge 36, 3) := by decide +kernel
theorem d_M_firstPartner_12 : decode b_M_firstPartner 12 = .ok (.iload_n 1, 1) := by decide +kernel
theorem d_M_firstPartner_13 : decode b_M_firstPartner 13 = .ok (.iload_n 3, 1) := by decide +kernel
theorem d_M_firstPartner_14 : decode b_M_firstPartner 14 = .ok (.ishr, 1) := by decide +kernel
theorem d_M_firstPartner_15 : decode b_M_firstPartner 15 = .ok (.iconst 1, 1) := by decide +kernel
theorem d_M_firstPartner_16 : decode b_M_firstPartner 16 = .ok (.iand, 1) := by decide +kernel
theorem d_M_firstPartner_17 : decode b_M_firstPartner 17 = .ok (.iconst 1, 1) := by decide +kernel
theorem d_M_firstPartner_18 : decode b_M_firstPartner 18 = .ok (.if_icmp .ne 21, 3) := by decide +kernel
theorem d_M_firstPartner_21 : decode b_M_firstPartner 21 = .ok (.aload_n 0, 1) := by decide +kernel
theorem d_M_firstPartner_22 : decode b_M_firstPartner 22 = .ok (.iload_n 1, 1) := by decide +kernel
theorem d_M_firstPartner_23 : decode b_M_firstPartner 23 = .ok (.iload_n 2, 1) := by decide +kernel
theorem d_M_firstPartner_24 : decode b_M_firstPartner 24 = .ok (.iload_n 3, 1) := by decide +kernel
theorem d_M_firstPartner_25 : decode b_M_firstPartner 25 = .ok (.invokevirtual 107, 3) := by decide +kernel
theorem d_M_firstPartner_28 : decode b_M_firstPartner 28 = .ok (.aload_n 0, 1) := by decide +kernel
theorem d_M_firstPartner_29 : decode b_M_firstPartner 29 = .ok (.getfield 21, 3) := by decide +kernel
theorem d_M_firstPartner_32 : decode b_M_firstPartner 32 = .ok (.iload_n 1, 1) := by decide +kernel
theorem d_M_firstPartner_33 : decode b_M_firstPartner 33 = .ok (.iaload, 1) := by decide +kernel
theorem d_M_firstPartner_34 : decode b_M_firstPartner 34 = .ok (.if_icmp .ne 5, 3) := by decide +kernel
theorem d_M_firstPartner_37 : decode b_M_firstPartner 37 = .ok (.iload_n 3, 1) := by decide +kernel
theorem d_M_firstPartner_38 : decode b_M_firstPartner 38 = .ok (.ireturn, 1) := by decide +kernel
theorem d_M_firstPartner_39 : decode b_M_firstPartner 39 = .ok (.iinc 3 1, 3) := by decide +kernel
theorem d_M_firstPartner_42 : decode b_M_firstPartner 42 = .ok (.goto (-38), 3) := by decide +kernel
theorem d_M_firstPartner_45 : decode b_M_firstPartner 45 = .ok (.iload_n 2, 1) := by decide +kernel
theorem d_M_firstPartner_46 : decode b_M_firstPartner 46 = .ok (.ireturn, 1) := by decide +kernel
end
section
theorem d_P_init_0 : decode b_P_init 0 = .ok (.aload_n 0, 1) := by decide +kernel
theorem d_P_init_1 : decode b_P_init 1 = .ok (.invokespecial 1, 3) := by decide +kernel
theorem d_P_init_4 : decode b_P_init 4 = .ok (.aload_n 0, 1) := by decide +kernel
theorem d_P_init_5 : decode b_P_init 5 = .ok (.new 7, 3) := by decide +kernel
theorem d_P_init_8 : decode b_P_init 8 = .ok (.dup, 1) := by decide +kernel
theorem d_P_init_9 : decode b_P_init 9 = .ok (.invokespecial 9, 3) := by decide +kernel
theorem d_P_init_12 : decode b_P_init 12 = .ok (.putfield 10, 3) := by decide +kernel
theorem d_P_init_15 : decode b_P_init 15 = .ok (.aload_n 0, 1) := by decide +kernel
theorem d_P_init_16 : decode b_P_init 16 = .ok (.new 16, 3) := by decide +kernel
theorem d_P_init_19 : decode b_P_init 19 = .ok (.dup, 1) := by decide +kernel
theorem d_P_init_20 : decode b_P_init 20 = .ok (.aload_n 0, 1) := by decide +kernel
theorem d_P_init_21 : decode b_P_init 21 = .ok (.getfield 10, 3) := by decide +kernel
theorem d_P_init_24 : decode b_P_init 24 = .ok (.invokespecial 18, 3) := by decide +kernel
theorem d_P_init_27 : decode b_P_init 27 = .ok (.putfield 21, 3) := by decide +kernel
theorem d_P_init_30 : decode b_P_init 30 = .ok (.aload_n 0, 1) := by decide +kernel
theorem d_P_init_31 : decode b_P_init 31 = .ok (.new 25, 3) := by decide +kernel
theorem d_P_init_34 : decode b_P_init 34 = .ok (.dup, 1) := by decide +kernel
theorem d_P_init_35 : decode b_P_init 35 = .ok (.aload_n 0, 1) := by decide +kernel
theorem d_P_init_36 : decode b_P_init 36 = .ok (.getfield 10, 3) := by decide +kernel
theorem d_P_init_39 : decode b_P_init 39 = .ok (.aload_n 0, 1) := by decide +kernel
theorem d_P_init_40 : decode b_P_init 40 = .ok (.getfield 21, 3) := by decide +kernel
theorem d_P_init_43 : decode b_P_init 43 = .ok (.invokespecial 27, 3) := by decide +kernel
theorem d_P_init_46 : decode b_P_init 46 = .ok (.putfield 30, 3) := by decide +kernel
theorem d_P_init_49 : decode b_P_init 49 = .ok (.aload_n 0, 1) := by decide +kernel
theorem d_P_init_50 : decode b_P_init 50 = .ok (.new 34, 3) := by decide +kernel
theorem d_P_init_53 : decode b_P_init 53 = .ok (.dup, 1) := by decide +kernel
theorem d_P_init_54 : decode b_P_init 54 = .ok (.invokespecial 36, 3) := by decide +kernel
theorem d_P_init_57 : decode b_P_init 57 = .ok (.putfield 37, 3) := by decide +kernel
theorem d_P_init_60 : decode b_P_init 60 = .ok (.aload_n 0, 1) := by decide +kernel
theorem d_P_init_61 : decode b_P_init 61 = .ok (.iconst 0, 1) := by decide +kernel
theorem d_P_init_62 : decode b_P_init 62 = .ok (.putfield 41, 3) := by decide +kernel
theorem d_P_init_65 : decode b_P_init 65 = .ok (.aload_n 0, 1) := by decide +kernel
theorem d_P_init_66 : decode b_P_init 66 = .ok (.lconst 0, 1) := by decide +kernel
theorem d_P_init_67 : decode b_P_init 67 = .ok (.putfield 45, 3) := by decide +kernel
theorem d_P_init_70 : decode b_P_init 70 = .ok (.return_, 1) := by decide +kernel
theorem d_P_point_0 : decode b_P_point 0 = .ok (.iload_n 2, 1) := by decide +kernel
theorem d_P_point_1 : decode b_P_point 1 = .ok (.ifCond .lt 21, 3) := by decide +kernel
theorem d_P_point_4 : decode b_P_point 4 = .ok (.iload_n 2, 1) := by decide +kernel
theorem d_P_point_5 : decode b_P_point 5 = .ok (.bipush 10, 2) := by decide +kernel
theorem d_P_point_7 : decode b_P_point 7 = .ok (.if_icmp .ge 15, 3) := by decide +kernel
theorem d_P_point_10 : decode b_P_point 10 = .ok (.aload_n 0, 1) := by decide +kernel
theorem d_P_point_11 : decode b_P_point 11 = .ok (.getfield 10, 3) := by decide +kernel
theorem d_P_point_14 : decode b_P_point 14 = .ok (.getfield 49, 3) := by decide +kernel
theorem d_P_point_17 : decode b_P_point 17 = .ok (.bipush 20, 2) := by decide +kernel
theorem d_P_point_19 : decode b_P_point 19 = .ok (.if_icmp .lt 5, 3) := by decide +kernel
theorem d_P_point_22 : decode b_P_point 22 = .ok (.iconst (-1), 1) := by decide +kernel
theorem d_P_point_23 : decode b_P_point 23 = .ok (.ireturn, 1) := by decide +kernel
theorem d_P_point_24 : decode b_P_point 24 = .ok (.aload_n 0, 1) := by decide +kernel
theorem d_P_point_25 : decode b_P_point 25 = .ok (.getfield 10, 3) := by decide +kernel
theorem d_P_point_28 : decode b_P_point 28 = .ok (.iload_n 1, 1) := by decide +kernel
theorem d_P_point_29 : decode b_P_point 29 = .ok (.iload_n 2, 1) := by decide +kernel
theorem d_P_point_30 : decode b_P_point 30 = .ok (.invokevirtual 52, 3) := by decide +kernel
theorem d_P_point_33 : decode b_P_point 33 = .ok (.ireturn, 1) := by decide +kernel
theorem d_P_edge_0 : decode b_P_edge 0 = .ok (.aload_n 0, 1) := by decide +kernel
theorem d_P_edge_1 : decode b_P_edge 1 = .ok (.getfield 10, 3) := by decide +kernel
theorem d_P_edge_4 : decode b_P_edge 4 = .ok (.iload_n 1, 1) := by decide +kernel
theorem d_P_edge_5 : decode b_P_edge 5 = .ok (.iload_n 2, 1) := by decide +kernel
theorem d_P_edge_6 : decode b_P_edge 6 = .ok (.invokevirtual 56, 3) := by decide +kernel
theorem d_P_edge_9 : decode b_P_edge 9 = .ok (.ifCond .eq 23, 3) := by decide +kernel
theorem d_P_edge_12 : decode b_P_edge 12 = .ok (.iload_n 3, 1) := by decide +kernel
theorem d_P_edge_13 : decode b_P_edge 13 = .ok (.iload 4, 2) := by decide +kernel
theorem d_P_edge_15 : decode b_P_edge 15 = .ok (.invokestatic 60, 3) := by decide +kernel
theorem d_P_edge_18 : decode b_P_edge 18 = .ok (.ifCond .eq 14, 3) := by decide +kernel
theorem d_P_edge_21 : decode b_P_edge 21 = .ok (.aload_n 0, 1) := by decide +kernel
theorem d_P_edge_22 : decode b_P_edge 22 = .ok (.getfield 10, 3) := by decide +kernel
theorem d_P_edge_25 : decode b_P_edge 25 = .ok (.iconst 1, 1) := by decide +kernel
theorem d_P_edge_26 : decode b_P_edge 26 = .ok (.invokevirtual 63, 3) := by decide +kernel
theorem d_P_edge_29 : decode b_P_edge 29 = .ok (.ifCond .ne 5, 3) := by decide +kernel
theorem d_P_edge_32 : decode b_P_edge 32 = .ok (.iconst (-1), 1) := by decide +kernel
theorem d_P_edge_33 : decode b_P_edge 33 = .ok (.ireturn, 1) := by decide +kernel
theorem d_P_edge_34 : decode b_P_edge 34 = .ok (.aload_n 0, 1) := by decide +kernel
theorem d_P_edge_35 : decode b_P_edge 35 = .ok (.getfield 10, 3) := by decide +kernel
theorem d_P_edge_38 : decode b_P_edge 38 = .ok (.iload_n 1, 1) := by decide +kernel
theorem d_P_edge_39 : decode b_P_edge 39 = .ok (.iload_n 2, 1) := by decide +kernel
theorem d_P_edge_40 : decode b_P_edge 40 = .ok (.iload_n 3, 1) := by decide +kernel
theorem d_P_edge_41 : decode b_P_edge 41 = .ok (.iload 4, 2) := by decide +kernel
theorem d_P_edge_43 : decode b_P_edge 43 = .ok (.invokevirtual 67, 3) := by decide +kernel
theorem d_P_edge_46 : decode b_P_edge 46 = .ok (.ireturn, 1) := by decide +kernel
theorem d_P_areEdgeValues_0 : decode b_P_areEdgeValues 0 = .ok (.iload_n 0, 1) := by decide +kernel
theorem d_P_areEdgeValues_1 : decode b_P_areEdgeValues 1 = .ok (.ifCond .lt 24, 3) := by decide +kernel
theorem d_P_areEdgeValues_4 : decode b_P_areEdgeValues 4 = .ok (.iload_n 0, 1) := by decide +kernel
theorem d_P_areEdgeValues_5 : decode b_P_areEdgeValues 5 = .ok (.ldc 184, 2) := by decide +kernel
theorem d_P_areEdgeValues_7 : decode b_P_areEdgeValues 7 = .ok (.if_icmp .gt 18, 3) := by decide +kernel
theorem d_P_areEdgeValues_10 : decode b_P_areEdgeValues 10 = .ok (.iload_n 1, 1) := by decide +kernel
theorem d_P_areEdgeValues_11 : decode b_P_areEdgeValues 11 = .ok (.ifCond .lt 14, 3) := by decide +kernel
theorem d_P_areEdgeValues_14 : decode b_P_areEdgeValues 14 = .ok (.iload_n 1, 1) := by decide +kernel
theorem d_P_areEdgeValues_15 : decode b_P_areEdgeValues 15 = .ok (.sipush 255, 3) := by decide +kernel
theorem d_P_areEdgeValues_18 : decode b_P_areEdgeValues 18 = .ok (.if_icmp .gt 7, 3) := by decide +kernel
theorem d_P_areEdgeValues_21 : decode b_P_areEdgeValues 21 = .ok (.iconst 1, 1) := by decide +kernel
theorem d_P_areEdgeValues_22 : decode b_P_areEdgeValues 22 = .ok (.goto 4, 3) := by decide +kernel
theorem d_P_areEdgeValues_25 : decode b_P_areEdgeValues 25 = .ok (.iconst 0, 1) := by decide +kernel
theorem d_P_areEdgeValues_26 : decode b_P_areEdgeValues 26 = .ok (.ireturn, 1) := by decide +kernel
theorem d_P_fault_0 : decode b_P_fault 0 = .ok (.aload_n 0, 1) := by decide +kernel
theorem d_P_fault_1 : decode b_P_fault 1 = .ok (.getfield 10, 3) := by decide +kernel
theorem d_P_fault_4 : decode b_P_fault 4 = .ok (.iload_n 1, 1) := by decide +kernel
theorem d_P_fault_5 : decode b_P_fault 5 = .ok (.invokevirtual 71, 3) := by decide +kernel
theorem d_P_fault_8 : decode b_P_fault 8 = .ok (.ifCond .eq 10, 3) := by decide +kernel
theorem d_P_fault_11 : decode b_P_fault 11 = .ok (.iload_n 1, 1) := by decide +kernel
theorem d_P_fault_12 : decode b_P_fault 12 = .ok (.invokestatic 74, 3) := by decide +kernel
theorem d_P_fault_15 : decode b_P_fault 15 = .ok (.goto 4, 3) := by decide +kernel
theorem d_P_fault_18 : decode b_P_fault 18 = .ok (.iconst 0, 1) := by decide +kernel
theorem d_P_fault_19 : decode b_P_fault 19 = .ok (.istore 4, 2) := by decide +kernel
theorem d_P_fault_21 : decode b_P_fault 21 = .ok (.iload 4, 2) := by decide +kernel
theorem d_P_fault_23 : decode b_P_fault 23 = .ok (.iconst 3, 1) := by decide +kernel
theorem d_P_fault_24 : decode b_P_fault 24 = .ok (.if_icmp .eq 11, 3) := by decide +kernel
theorem d_P_fault_27 : decode b_P_fault 27 = .ok (.iload 4, 2) := by decide +kernel
theorem d_P_fault_29 : decode b_P_fault 29 = .ok (.iconst 4, 1) := by decide +kernel
theorem d_P_fault_30 : decode b_P_fault 30 = .ok (.if_icmp .eq 5, 3) := by decide +kernel
theorem d_P_fault_33 : decode b_P_fault 33 = .ok (.iconst (-1), 1) := by decide +kernel
theorem d_P_fault_34 : decode b_P_fault 34 = .ok (.ireturn, 1) := by decide +kernel
theorem d_P_fault_35 : decode b_P_fault 35 = .ok (.iload_n 1, 1) := by decide +kernel
theorem d_P_fault_36 : decode b_P_fault 36 = .ok (.iconst 0, 1) := by decide +kernel
theorem d_P_fault_37 : decode b_P_fault 37 = .ok (.invokestatic 80, 3) := by decide +kernel
theorem d_P_fault_40 : decode b_P_fault 40 = .ok (.istore 5, 2) := by decide +kernel
theorem d_P_fault_42 : decode b_P_fault 42 = .ok (.iload_n 1, 1) := by decide +kernel
theorem d_P_fault_43 : decode b_P_fault 43 = .ok (.iconst 1, 1) := by decide +kernel
theorem d_P_fault_44 : decode b_P_fault 44 = .ok (.invokestatic 80, 3) := by decide +kernel
theorem d_P_fault_47 : decode b_P_fault 47 = .ok (.istore 6, 2) := by decide +kernel
theorem d_P_fault_49 : decode b_P_fault 49 = .ok (.iload_n 1, 1) := by decide +kernel
theorem d_P_fault_50 : decode b_P_fault 50 = .ok (.iconst 2, 1) := by decide +kernel
theorem d_P_fault_51 : decode b_P_fault 51 = .ok (.invokestatic 80, 3) := by decide +kernel
theorem d_P_fault_54 : decode b_P_fault 54 = .ok (.istore 7, 2) := by decide +kernel
theorem d_P_fault_56 : decode b_P_fault 56 = .ok (.iload 4, 2) := by decide +kernel
theorem d_P_fault_58 : decode b_P_fault 58 = .ok (.iconst 4, 1) := by decide +kernel
theorem d_P_fault_59 : decode b_P_fault 59 = .ok (.if_icmp .ne 11, 3) := by decide +kernel
theorem d_P_fault_62 : decode b_P_fault 62 = .ok (.iload_n 1, 1) := by decide +kernel
theorem d_P_fault_63 : decode b_P_fault 63 = .ok (.iconst 3, 1) := by decide +kernel
theorem d_P_fault_64 : decode b_P_fault 64 = .ok (.invokestatic 80, 3) := by decide +kernel
theorem d_P_fault_67 : decode b_P_fault 67 = .ok (.goto 10, 3) := by decide +kernel
theorem d_P_fault_70 : decode b_P_fault 70 = .ok (.aload_n 0, 1) := by decide +kernel
theorem d_P_fault_71 : decode b_P_fault 71 = .ok (.getfield 10, 3) := by decide +kernel
theorem d_P_fault_74 : decode b_P_fault 74 = .ok (.invokevirtual 84, 3) := by decide +kernel
theorem d_P_fault_77 : decode b_P_fault 77 = .ok (.istore 8, 2) := by decide +kernel
theorem d_P_fault_79 : decode b_P_fault 79 = .ok (.aload_n 0, 1) := by decide +kernel
theorem d_P_fault_80 : decode b_P_fault 80 = .ok (.getfield 10, 3) := by decide +kernel
theorem d_P_fault_83 : decode b_P_fault 83 = .ok (.iload 5, 2) := by decide +kernel
theorem d_P_fault_85 : decode b_P_fault 85 = .ok (.iload 6, 2) := by decide +kernel
theorem d_P_fault_87 : decode b_P_fault 87 = .ok (.invokevirtual 56, 3) := by decide +kernel
theorem d_P_fault_90 : decode b_P_fault 90 = .ok (.ifCond .eq 36, 3) := by decide +kernel
theorem d_P_fault_93 : decode b_P_fault 93 = .ok (.aload_n 0, 1) := by decide +kernel
theorem d_P_fault_94 : decode b_P_fault 94 = .ok (.getfield 10, 3) := by decide +kernel
theorem d_P_fault_97 : decode b_P_fault 97 = .ok (.iload 7, 2) := by decide +kernel
theorem d_P_fault_99 : decode b_P_fault 99 = .ok (.iload 8, 2) := by decide +kernel
theorem d_P_fault_101 : decode b_P_fault 101 = .ok (.invokevirtual 56, 3) := by decide +kernel
theorem d_P_fault_104 : decode b_P_fault 104 = .ok (.ifCond .eq 22, 3) := by decide +kernel
theorem d_P_fault_107 : decode b_P_fault 107 = .ok (.iload_n 2, 1) := by decide +kernel
theorem d_P_fault_108 : decode b_P_fault 108 = .ok (.iload_n 3, 1) := by decide +kernel
theorem d_P_fault_109 : decode b_P_fault 109 = .ok (.invokestatic 60, 3) := by decide +kernel
theorem d_P_fault_112 : decode b_P_fault 112 = .ok (.ifCond .eq 14, 3) := by decide +kernel
theorem d_P_fault_115 : decode b_P_fault 115 = .ok (.aload_n 0, 1) := by decide +kernel
theorem d_P_fault_116 : decode b_P_fault 116 = .ok (.getfield 10, 3) := by decide +kernel
theorem d_P_fault_119 : decode b_P_fault 119 = .ok (.iconst 2, 1) := by decide +kernel
theorem d_P_fault_120 : decode b_P_fault 120 = .ok (.invokevirtual 63, 3) := by decide +kernel
theorem d_P_fault_123 : decode b_P_fault 123 = .ok (.ifCond .ne 5, 3) := by decide +kernel
theorem d_P_fault_126 : decode b_P_fault 126 = .ok (.iconst (-1), 1) := by decide +kernel
theorem d_P_fault_127 : decode b_P_fault 127 = .ok (.ireturn, 1) := by decide +kernel
theorem d_P_fault_128 : decode b_P_fault 128 = .ok (.aload_n 0, 1) := by decide +kernel
theorem d_P_fault_129 : decode b_P_fault 129 = .ok (.getfield 10, 3) := by decide +kernel
theorem d_P_fault_132 : decode b_P_fault 132 = .ok (.iload 5, 2) := by decide +kernel
theorem d_P_fault_134 : decode b_P_fault 134 = .ok (.iload 6, 2) := by decide +kernel
theorem d_P_fault_136 : decode b_P_fault 136 = .ok (.iload_n 2, 1) := by decide +kernel
theorem d_P_fault_137 : decode b_P_fault 137 = .ok (.iload_n 3, 1) := by decide +kernel
theorem d_P_fault_138 : decode b_P_fault 138 = .ok (.invokevirtual 67, 3) := by decide +kernel
theorem d_P_fault_141 : decode b_P_fault 141 = .ok (.istore 9, 2) := by decide +kernel
theorem d_P_fault_143 : decode b_P_fault 143 = .ok (.aload_n 0, 1) := by decide +kernel
theorem d_P_fault_144 : decode b_P_fault 144 = .ok (.getfield 10, 3) := by decide +kernel
theorem d_P_fault_147 : decode b_P_fault 147 = .ok (.iload 7, 2) := by decide +kernel
theorem d_P_fault_149 : decode b_P_fault 149 = .ok (.iload 8, 2) := by decide +kernel
theorem d_P_fault_151 : decode b_P_fault 151 = .ok (.iconst 0, 1) := by decide +kernel
theorem d_P_fault_152 : decode b_P_fault 152 = .ok (.iconst 0, 1) := by decide +kernel
theorem d_P_fault_153 : decode b_P_fault 153 = .ok (.invokevirtual 67, 3) := by decide +kernel
theorem d_P_fault_156 : decode b_P_fault 156 = .ok (.pop, 1) := by decide +kernel
theorem d_P_fault_157 : decode b_P_fault 157 = .ok (.iload 9, 2) := by decide +kernel
theorem d_P_fault_159 : decode b_P_fault 159 = .ok (.ireturn, 1) := by decide +kernel
theorem d_P_memberOf_0 : decode b_P_memberOf 0 = .ok (.iload_n 1, 1) := by decide +kernel
theorem d_P_memberOf_1 : decode b_P_memberOf 1 = .ok (.istore_n 2, 1) := by decide +kernel
theorem d_P_memberOf_2 : decode b_P_memberOf 2 = .ok (.iconst 0, 1) := by decide +kernel
theorem d_P_memberOf_3 : decode b_P_memberOf 3 = .ok (.istore_n 3, 1) := by decide +kernel
theorem d_P_memberOf_4 : decode b_P_memberOf 4 = .ok (.iload_n 3, 1) := by decide +kernel
theorem d_P_memberOf_5 : decode b_P_memberOf 5 = .ok (.bipush 20, 2) := by decide +kernel
theorem d_P_memberOf_7 : decode b_P_memberOf 7 = .ok (.if_icmp .ge 27, 3) := by decide +kernel
theorem d_P_memberOf_10 : decode b_P_memberOf 10 = .ok (.iload_n 0, 1) := by decide +kernel
theorem d_P_memberOf_11 : decode b_P_memberOf 11 = .ok (.iload_n 3, 1) := by decide +kernel
theorem d_P_memberOf_12 : decode b_P_memberOf 12 = .ok (.ishr, 1) := by decide +kernel
theorem d_P_memberOf_13 : decode b_P_memberOf 13 = .ok (.iconst 1, 1) := by decide +kernel
theorem d_P_memberOf_14 : decode b_P_memberOf 14 = .ok (.iand, 1) := by decide +kernel
theorem d_P_memberOf_15 : decode b_P_memberOf 15 = .ok (.iconst 1, 1) := by decide +kernel
theorem d_P_memberOf_16 : decode b_P_memberOf 16 = .ok (.if_icmp .ne 12, 3) := by decide +kernel
theorem d_P_memberOf_19 : decode b_P_memberOf 19 = .ok (.iload_n 2, 1) := by decide +kernel
theorem d_P_memberOf_20 : decode b_P_memberOf 20 = .ok (.ifCond .ne 5, 3) := by decide +kernel
theorem d_P_memberOf_23 : decode b_P_memberOf 23 = .ok (.iload_n 3, 1) := by decide +kernel
theorem d_P_memberOf_24 : decode b_P_memberOf 24 = .ok (.ireturn, 1) := by decide +kernel
theorem d_P_memberOf_25 : decode b_P_memberOf 25 = .ok (.iinc 2 (-1), 3) := by decide +kernel
theorem d_P_memberOf_28 : decode b_P_memberOf 28 = .ok (.iinc 3 1, 3) := by decide +kernel
theorem d_P_memberOf_31 : decode b_P_memberOf 31 = .ok (.goto (-27), 3) := by decide +kernel
theorem d_P_memberOf_34 : decode b_P_memberOf 34 = .ok (.iconst (-1), 1) := by decide +kernel
theorem d_P_memberOf_35 : decode b_P_memberOf 35 = .ok (.ireturn, 1) := by decide +kernel
theorem d_P_fire_0 : decode b_P_fire 0 = .ok (.aload_n 0, 1) := by decide +kernel
theorem d_P_fire_1 : decode b_P_fire 1 = .ok (.getfield 10, 3) := by decide +kernel
theorem d_P_fire_4 : decode b_P_fire 4 = .ok (.iload_n 1, 1) := by decide +kernel
theorem d_P_fire_5 : decode b_P_fire 5 = .ok (.invokevirtual 88, 3) := by decide +kernel
theorem d_P_fire_8 : decode b_P_fire 8 = .ok (.ifCond .eq 23, 3) := by decide +kernel
theorem d_P_fire_11 : decode b_P_fire 11 = .ok (.aload_n 0, 1) := by decide +kernel
theorem d_P_fire_12 : decode b_P_fire 12 = .ok (.getfield 10, 3) := by decide +kernel
theorem d_P_fire_15 : decode b_P_fire 15 = .ok (.iload_n 1, 1) := by decide +kernel
theorem d_P_fire_16 : decode b_P_fire 16 = .ok (.invokevirtual 91, 3) := by decide +kernel
theorem d_P_fire_19 : decode b_P_fire 19 = .ok (.ifCond .ne 12, 3) := by decide +kernel
theorem d_P_fire_22 : decode b_P_fire 22 = .ok (.aload_n 0, 1) := by decide +kernel
theorem d_P_fire_23 : decode b_P_fire 23 = .ok (.iload_n 1, 1) := by decide +kernel
theorem d_P_fire_24 : decode b_P_fire 24 = .ok (.invokevirtual 94, 3) := by decide +kernel
theorem d_P_fire_27 : decode b_P_fire 27 = .ok (.iload_n 2, 1) := by decide +kernel
theorem d_P_fire_28 : decode b_P_fire 28 = .ok (.if_icmp .ne 5, 3) := by decide +kernel
theorem d_P_fire_31 : decode b_P_fire 31 = .ok (.iconst 0, 1) := by decide +kernel
theorem d_P_fire_32 : decode b_P_fire 32 = .ok (.ireturn, 1) := by decide +kernel
theorem d_P_fire_33 : decode b_P_fire 33 = .ok (.iload_n 2, 1) := by decide +kernel
theorem d_P_fire_34 : decode b_P_fire 34 = .ok (.ifCond .eq 17, 3) := by decide +kernel
theorem d_P_fire_37 : decode b_P_fire 37 = .ok (.aload_n 0, 1) := by decide +kernel
theorem d_P_fire_38 : decode b_P_fire 38 = .ok (.getfield 41, 3) := by decide +kernel
theorem d_P_fire_41 : decode b_P_fire 41 = .ok (.invokestatic 74, 3) := by decide +kernel
theorem d_P_fire_44 : decode b_P_fire 44 = .ok (.bipush 10, 2) := by decide +kernel
theorem d_P_fire_46 : decode b_P_fire 46 = .ok (.if_icmp .lt 5, 3) := by decide +kernel
theorem d_P_fire_49 : decode b_P_fire 49 = .ok (.iconst 0, 1) := by decide +kernel
theorem d_P_fire_50 : decode b_P_fire 50 = .ok (.ireturn, 1) := by decide +kernel
theorem d_P_fire_51 : decode b_P_fire 51 = .ok (.aload_n 0, 1) := by decide +kernel
theorem d_P_fire_52 : decode b_P_fire 52 = .ok (.dup, 1) := by decide +kernel
theorem d_P_fire_53 : decode b_P_fire 53 = .ok (.getfield 41, 3) := by decide +kernel
theorem d_P_fire_56 : decode b_P_fire 56 = .ok (.iconst 1, 1) := by decide +kernel
theorem d_P_fire_57 : decode b_P_fire 57 = .ok (.iload_n 1, 1) := by decide +kernel
theorem d_P_fire_58 : decode b_P_fire 58 = .ok (.ishl, 1) := by decide +kernel
theorem d_P_fire_59 : decode b_P_fire 59 = .ok (.ixor, 1) := by decide +kernel
theorem d_P_fire_60 : decode b_P_fire 60 = .ok (.putfield 41, 3) := by decide +kernel
theorem d_P_fire_63 : decode b_P_fire 63 = .ok (.iconst 1, 1) := by decide +kernel
theorem d_P_fire_64 : decode b_P_fire 64 = .ok (.ireturn, 1) := by decide +kernel
theorem d_P_isFired_0 : decode b_P_isFired 0 = .ok (.aload_n 0, 1) := by decide +kernel
theorem d_P_isFired_1 : decode b_P_isFired 1 = .ok (.getfield 41, 3) := by decide +kernel
theorem d_P_isFired_4 : decode b_P_isFired 4 = .ok (.iload_n 1, 1) := by decide +kernel
theorem d_P_isFired_5 : decode b_P_isFired 5 = .ok (.ishr, 1) := by decide +kernel
theorem d_P_isFired_6 : decode b_P_isFired 6 = .ok (.iconst 1, 1) := by decide +kernel
theorem d_P_isFired_7 : decode b_P_isFired 7 = .ok (.iand, 1) := by decide +kernel
theorem d_P_isFired_8 : decode b_P_isFired 8 = .ok (.iconst 1, 1) := by decide +kernel
theorem d_P_isFired_9 : decode b_P_isFired 9 = .ok (.if_icmp .ne 7, 3) := by decide +kernel
theorem d_P_isFired_12 : decode b_P_isFired 12 = .ok (.iconst 1, 1) := by decide +kernel
theorem d_P_isFired_13 : decode b_P_isFired 13 = .ok (.goto 4, 3) := by decide +kernel
theorem d_P_isFired_16 : decode b_P_isFired 16 = .ok (.iconst 0, 1) := by decide +kernel
theorem d_P_isFired_17 : decode b_P_isFired 17 = .ok (.ireturn, 1) := by decide +kernel
theorem d_P_erase_0 : decode b_P_erase 0 = .ok (.aload_n 0, 1) := by decide +kernel
theorem d_P_erase_1 : decode b_P_erase 1 = .ok (.getfield 10, 3) := by decide +kernel
theorem d_P_erase_4 : decode b_P_erase 4 = .ok (.iload_n 1, 1) := by decide +kernel
theorem d_P_erase_5 : decode b_P_erase 5 = .ok (.invokevirtual 97, 3) := by decide +kernel
theorem d_P_erase_8 : decode b_P_erase 8 = .ok (.ifCond .eq 15, 3) := by decide +kernel
theorem d_P_erase_11 : decode b_P_erase 11 = .ok (.aload_n 0, 1) := by decide +kernel
theorem d_P_erase_12 : decode b_P_erase 12 = .ok (.getfield 10, 3) := by decide +kernel
theorem d_P_erase_15 : decode b_P_erase 15 = .ok (.iload_n 1, 1) := by decide +kernel
theorem d_P_erase_16 : decode b_P_erase 16 = .ok (.invokevirtual 100, 3) := by decide +kernel
theorem d_P_erase_19 : decode b_P_erase 19 = .ok (.iload_n 2, 1) := by decide +kernel
theorem d_P_erase_20 : decode b_P_erase 20 = .ok (.if_icmp .ne 5, 3) := by decide +kernel
theorem d_P_erase_23 : decode b_P_erase 23 = .ok (.iconst 0, 1) := by decide +kernel
theorem d_P_erase_24 : decode b_P_erase 24 = .ok (.ireturn, 1) := by decide +kernel
theorem d_P_erase_25 : decode b_P_erase 25 = .ok (.aload_n 0, 1) := by decide +kernel
theorem d_P_erase_26 : decode b_P_erase 26 = .ok (.getfield 10, 3) := by decide +kernel
theorem d_P_erase_29 : decode b_P_erase 29 = .ok (.iload_n 1, 1) := by decide +kernel
theorem d_P_erase_30 : decode b_P_erase 30 = .ok (.invokevirtual 103, 3) := by decide +kernel
theorem d_P_erase_33 : decode b_P_erase 33 = .ok (.iconst 1, 1) := by decide +kernel
theorem d_P_erase_34 : decode b_P_erase 34 = .ok (.ireturn, 1) := by decide +kernel
theorem d_P_way_0 : decode b_P_way 0 = .ok (.aload_n 0, 1) := by decide +kernel
theorem d_P_way_1 : decode b_P_way 1 = .ok (.getfield 10, 3) := by decide +kernel
theorem d_P_way_4 : decode b_P_way 4 = .ok (.iload_n 1, 1) := by decide +kernel
theorem d_P_way_5 : decode b_P_way 5 = .ok (.invokevirtual 88, 3) := by decide +kernel
theorem d_P_way_8 : decode b_P_way 8 = .ok (.ifCond .eq 23, 3) := by decide +kernel
theorem d_P_way_11 : decode b_P_way 11 = .ok (.aload_n 0, 1) := by decide +kernel
theorem d_P_way_12 : decode b_P_way 12 = .ok (.getfield 10, 3) := by decide +kernel
theorem d_P_way_15 : decode b_P_way 15 = .ok (.iload_n 2, 1) := by decide +kernel
theorem d_P_way_16 : decode b_P_way 16 = .ok (.invokevirtual 88, 3) := by decide +kernel
theorem d_P_way_19 : decode b_P_way 19 = .ok (.ifCond .eq 12, 3) := by decide +kernel
theorem d_P_way_22 : decode b_P_way 22 = .ok (.iload_n 1, 1) := by decide +kernel
theorem d_P_way_23 : decode b_P_way 23 = .ok (.iload_n 2, 1) := by decide +kernel
theorem d_P_way_24 : decode b_P_way 24 = .ok (.if_icmp .eq 7, 3) := by decide +kernel
theorem d_P_way_27 : decode b_P_way 27 = .ok (.iload_n 3, 1) := by decide +kernel
theorem d_P_way_28 : decode b_P_way 28 = .ok (.ifCond .ge 5, 3) := by decide +kernel
theorem d_P_way_31 : decode b_P_way 31 = .ok (.iconst (-1), 1) := by decide +kernel
theorem d_P_way_32 : decode b_P_way 32 = .ok (.ireturn, 1) := by decide +kernel
theorem d_P_way_33 : decode b_P_way 33 = .ok (.aload_n 0, 1) := by decide +kernel
theorem d_P_way_34 : decode b_P_way 34 = .ok (.getfield 21, 3) := by decide +kernel
theorem d_P_way_37 : decode b_P_way 37 = .ok (.invokevirtual 107, 3) := by decide +kernel
theorem d_P_way_40 : decode b_P_way 40 = .ok (.aload_n 0, 1) := by decide +kernel
theorem d_P_way_41 : decode b_P_way 41 = .ok (.getfield 21, 3) := by decide +kernel
theorem d_P_way_44 : decode b_P_way 44 = .ok (.iload_n 1, 1) := by decide +kernel
theorem d_P_way_45 : decode b_P_way 45 = .ok (.iload_n 2, 1) := by decide +kernel
theorem d_P_way_46 : decode b_P_way 46 = .ok (.invokevirtual 110, 3) := by decide +kernel
theorem d_P_way_49 : decode b_P_way 49 = .ok (.ifCond .ne 5, 3) := by decide +kernel
theorem d_P_way_52 : decode b_P_way 52 = .ok (.iconst (-1), 1) := by decide +kernel
theorem d_P_way_53 : decode b_P_way 53 = .ok (.ireturn, 1) := by decide +kernel
theorem d_P_way_54 : decode b_P_way 54 = .ok (.iload_n 3, 1) := by decide +kernel
theorem d_P_way_55 : decode b_P_way 55 = .ok (.ifCond .ne 13, 3) := by decide +kernel
theorem d_P_way_58 : decode b_P_way 58 = .ok (.aload_n 0, 1) := by decide +kernel
theorem d_P_way_59 : decode b_P_way 59 = .ok (.getfield 21, 3) := by decide +kernel
theorem d_P_way_62 : decode b_P_way 62 = .ok (.iload_n 1, 1) := by decide +kernel
theorem d_P_way_63 : decode b_P_way 63 = .ok (.iload_n 2, 1) := by decide +kernel
theorem d_P_way_64 : decode b_P_way 64 = .ok (.invokevirtual 113, 3) := by decide +kernel
theorem d_P_way_67 : decode b_P_way 67 = .ok (.ireturn, 1) := by decide +kernel
theorem d_P_way_68 : decode b_P_way 68 = .ok (.aload_n 0, 1) := by decide +kernel
theorem d_P_way_69 : decode b_P_way 69 = .ok (.getfield 21, 3) := by decide +kernel
theorem d_P_way_72 : decode b_P_way 72 = .ok (.iload_n 1, 1) := by decide +kernel
theorem d_P_way_73 : decode b_P_way 73 = .ok (.iload_n 2, 1) := by decide +kernel
theorem d_P_way_74 : decode b_P_way 74 = .ok (.invokevirtual 116, 3) := by decide +kernel
theorem d_P_way_77 : decode b_P_way 77 = .ok (.iload_n 3, 1) := by decide +kernel
theorem d_P_way_78 : decode b_P_way 78 = .ok (.iconst 1, 1) := by decide +kernel
theorem d_P_way_79 : decode b_P_way 79 = .ok (.if_icmp .ne 13, 3) := by decide +kernel
theorem d_P_way_82 : decode b_P_way 82 = .ok (.aload_n 0, 1) := by decide +kernel
theorem d_P_way_83 : decode b_P_way 83 = .ok (.getfield 21, 3) := by decide +kernel
theorem d_P_way_86 : decode b_P_way 86 = .ok (.getfield 120, 3) := by decide +kernel
theorem d_P_way_89 : decode b_P_way 89 = .ok (.goto 23, 3) := by decide +kernel
theorem d_P_way_92 : decode b_P_way 92 = .ok (.aload_n 0, 1) := by decide +kernel
theorem d_P_way_93 : decode b_P_way 93 = .ok (.getfield 21, 3) := by decide +kernel
theorem d_P_way_96 : decode b_P_way 96 = .ok (.iload_n 3, 1) := by decide +kernel
theorem d_P_way_97 : decode b_P_way 97 = .ok (.iconst 2, 1) := by decide +kernel
theorem d_P_way_98 : decode b_P_way 98 = .ok (.isub, 1) := by decide +kernel
theorem d_P_way_99 : decode b_P_way 99 = .ok (.iload_n 1, 1) := by decide +kernel
theorem d_P_way_100 : decode b_P_way 100 = .ok (.iload_n 2, 1) := by decide +kernel
theorem d_P_way_101 : decode b_P_way 101 = .ok (.if_icmp .le 7, 3) := by decide +kernel
theorem d_P_way_104 : decode b_P_way 104 = .ok (.iconst 1, 1) := by decide +kernel
theorem d_P_way_105 : decode b_P_way 105 = .ok (.goto 4, 3) := by decide +kernel
theorem d_P_way_108 : decode b_P_way 108 = .ok (.iconst 0, 1) := by decide +kernel
theorem d_P_way_109 : decode b_P_way 109 = .ok (.invokevirtual 123, 3) := by decide +kernel
theorem d_P_way_112 : decode b_P_way 112 = .ok (.ireturn, 1) := by decide +kernel
theorem d_P_pair_0 : decode b_P_pair 0 = .ok (.iload_n 1, 1) := by decide +kernel
theorem d_P_pair_1 : decode b_P_pair 1 = .ok (.ifCond .lt 14, 3) := by decide +kernel
theorem d_P_pair_4 : decode b_P_pair 4 = .ok (.iload_n 1, 1) := by decide +kernel
theorem d_P_pair_5 : decode b_P_pair 5 = .ok (.aload_n 0, 1) := by decide +kernel
theorem d_P_pair_6 : decode b_P_pair 6 = .ok (.getfield 37, 3) := by decide +kernel
theorem d_P_pair_9 : decode b_P_pair 9 = .ok (.getfield 141, 3) := by decide +kernel
theorem d_P_pair_12 : decode b_P_pair 12 = .ok (.if_icmp .lt 5, 3) := by decide +kernel
theorem d_P_pair_15 : decode b_P_pair 15 = .ok (.iconst (-1), 1) := by decide +kernel
theorem d_P_pair_16 : decode b_P_pair 16 = .ok (.ireturn, 1) := by decide +kernel
theorem d_P_pair_17 : decode b_P_pair 17 = .ok (.iload_n 2, 1) := by decide +kernel
theorem d_P_pair_18 : decode b_P_pair 18 = .ok (.ifCond .ne 13, 3) := by decide +kernel
theorem d_P_pair_21 : decode b_P_pair 21 = .ok (.aload_n 0, 1) := by decide +kernel
theorem d_P_pair_22 : decode b_P_pair 22 = .ok (.getfield 37, 3) := by decide +kernel
theorem d_P_pair_25 : decode b_P_pair 25 = .ok (.getfield 144, 3) := by decide +kernel
theorem d_P_pair_28 : decode b_P_pair 28 = .ok (.iload_n 1, 1) := by decide +kernel
theorem d_P_pair_29 : decode b_P_pair 29 = .ok (.iaload, 1) := by decide +kernel
theorem d_P_pair_30 : decode b_P_pair 30 = .ok (.ireturn, 1) := by decide +kernel
theorem d_P_pair_31 : decode b_P_pair 31 = .ok (.iload_n 2, 1) := by decide +kernel
theorem d_P_pair_32 : decode b_P_pair 32 = .ok (.iconst 1, 1) := by decide +kernel
theorem d_P_pair_33 : decode b_P_pair 33 = .ok (.if_icmp .ne 15, 3) := by decide +kernel
theorem d_P_pair_36 : decode b_P_pair 36 = .ok (.aload_n 0, 1) := by decide +kernel
theorem d_P_pair_37 : decode b_P_pair 37 = .ok (.getfield 37, 3) := by decide +kernel
theorem d_P_pair_40 : decode b_P_pair 40 = .ok (.getfield 148, 3) := by decide +kernel
theorem d_P_pair_43 : decode b_P_pair 43 = .ok (.iload_n 1, 1) := by decide +kernel
theorem d_P_pair_44 : decode b_P_pair 44 = .ok (.iaload, 1) := by decide +kernel
theorem d_P_pair_45 : decode b_P_pair 45 = .ok (.goto 4, 3) := by decide +kernel
theorem d_P_pair_48 : decode b_P_pair 48 = .ok (.iconst (-1), 1) := by decide +kernel
theorem d_P_pair_49 : decode b_P_pair 49 = .ok (.ireturn, 1) := by decide +kernel
theorem d_P_least_0 : decode b_P_least 0 = .ok (.aload_n 0, 1) := by decide +kernel
theorem d_P_least_1 : decode b_P_least 1 = .ok (.getfield 37, 3) := by decide +kernel
theorem d_P_least_4 : decode b_P_least 4 = .ok (.getfield 151, 3) := by decide +kernel
theorem d_P_least_7 : decode b_P_least 7 = .ok (.ireturn, 1) := by decide +kernel
theorem d_P_fix_0 : decode b_P_fix 0 = .ok (.aload_n 0, 1) := by decide +kernel
theorem d_P_fix_1 : decode b_P_fix 1 = .ok (.getfield 37, 3) := by decide +kernel
theorem d_P_fix_4 : decode b_P_fix 4 = .ok (.getfield 154, 3) := by decide +kernel
theorem d_P_fix_7 : decode b_P_fix 7 = .ok (.lreturn, 1) := by decide +kernel
theorem d_P_signs_0 : decode b_P_signs 0 = .ok (.aload_n 0, 1) := by decide +kernel
theorem d_P_signs_1 : decode b_P_signs 1 = .ok (.getfield 10, 3) := by decide +kernel
theorem d_P_signs_4 : decode b_P_signs 4 = .ok (.lload_n 1, 1) := by decide +kernel
theorem d_P_signs_5 : decode b_P_signs 5 = .ok (.invokevirtual 157, 3) := by decide +kernel
theorem d_P_signs_8 : decode b_P_signs 8 = .ok (.ifCond .eq 14, 3) := by decide +kernel
theorem d_P_signs_11 : decode b_P_signs 11 = .ok (.aload_n 0, 1) := by decide +kernel
theorem d_P_signs_12 : decode b_P_signs 12 = .ok (.getfield 10, 3) := by decide +kernel
theorem d_P_signs_15 : decode b_P_signs 15 = .ok (.lload_n 1, 1) := by decide +kernel
theorem d_P_signs_16 : decode b_P_signs 16 = .ok (.invokevirtual 161, 3) := by decide +kernel
theorem d_P_signs_19 : decode b_P_signs 19 = .ok (.goto 4, 3) := by decide +kernel
theorem d_P_signs_22 : decode b_P_signs 22 = .ok (.iconst (-1), 1) := by decide +kernel
theorem d_P_signs_23 : decode b_P_signs 23 = .ok (.ireturn, 1) := by decide +kernel
theorem d_P_syndrome_0 : decode b_P_syndrome 0 = .ok (.aload_n 0, 1) := by decide +kernel
theorem d_P_syndrome_1 : decode b_P_syndrome 1 = .ok (.getfield 10, 3) := by decide +kernel
theorem d_P_syndrome_4 : decode b_P_syndrome 4 = .ok (.lload_n 1, 1) := by decide +kernel
theorem d_P_syndrome_5 : decode b_P_syndrome 5 = .ok (.invokevirtual 157, 3) := by decide +kernel
theorem d_P_syndrome_8 : decode b_P_syndrome 8 = .ok (.ifCond .eq 14, 3) := by decide +kernel
theorem d_P_syndrome_11 : decode b_P_syndrome 11 = .ok (.aload_n 0, 1) := by decide +kernel
theorem d_P_syndrome_12 : decode b_P_syndrome 12 = .ok (.getfield 10, 3) := by decide +kernel
theorem d_P_syndrome_15 : decode b_P_syndrome 15 = .ok (.lload_n 1, 1) := by decide +kernel
theorem d_P_syndrome_16 : decode b_P_syndrome 16 = .ok (.invokevirtual 165, 3) := by decide +kernel
theorem d_P_syndrome_19 : decode b_P_syndrome 19 = .ok (.goto 4, 3) := by decide +kernel
theorem d_P_syndrome_22 : decode b_P_syndrome 22 = .ok (.iconst (-1), 1) := by decide +kernel
theorem d_P_syndrome_23 : decode b_P_syndrome 23 = .ok (.ireturn, 1) := by decide +kernel
theorem d_P_kept_0 : decode b_P_kept 0 = .ok (.aload_n 0, 1) := by decide +kernel
theorem d_P_kept_1 : decode b_P_kept 1 = .ok (.getfield 45, 3) := by decide +kernel
theorem d_P_kept_4 : decode b_P_kept 4 = .ok (.lreturn, 1) := by decide +kernel
theorem d_P_total_0 : decode b_P_total 0 = .ok (.iload_n 1, 1) := by decide +kernel
theorem d_P_total_1 : decode b_P_total 1 = .ok (.tableswitch 75 0 4 #[35, 43, 51, 56, 64], 35) := by decide +kernel
theorem d_P_total_36 : decode b_P_total 36 = .ok (.aload_n 0, 1) := by decide +kernel
theorem d_P_total_37 : decode b_P_total 37 = .ok (.getfield 10, 3) := by decide +kernel
theorem d_P_total_40 : decode b_P_total 40 = .ok (.getfield 49, 3) := by decide +kernel
theorem d_P_total_43 : decode b_P_total 43 = .ok (.ireturn, 1) := by decide +kernel
theorem d_P_total_44 : decode b_P_total 44 = .ok (.aload_n 0, 1) := by decide +kernel
theorem d_P_total_45 : decode b_P_total 45 = .ok (.getfield 10, 3) := by decide +kernel
theorem d_P_total_48 : decode b_P_total 48 = .ok (.getfield 174, 3) := by decide +kernel
theorem d_P_total_51 : decode b_P_total 51 = .ok (.ireturn, 1) := by decide +kernel
theorem d_P_total_52 : decode b_P_total 52 = .ok (.aload_n 0, 1) := by decide +kernel
theorem d_P_total_53 : decode b_P_total 53 = .ok (.getfield 41, 3) := by decide +kernel
theorem d_P_total_56 : decode b_P_total 56 = .ok (.ireturn, 1) := by decide +kernel
theorem d_P_total_57 : decode b_P_total 57 = .ok (.aload_n 0, 1) := by decide +kernel
theorem d_P_total_58 : decode b_P_total 58 = .ok (.getfield 37, 3) := by decide +kernel
theorem d_P_total_61 : decode b_P_total 61 = .ok (.getfield 141, 3) := by decide +kernel
theorem d_P_total_64 : decode b_P_total 64 = .ok (.ireturn, 1) := by decide +kernel
theorem d_P_total_65 : decode b_P_total 65 = .ok (.aload_n 0, 1) := by decide +kernel
theorem d_P_total_66 : decode b_P_total 66 = .ok (.getfield 10, 3) := by decide +kernel
theorem d_P_total_69 : decode b_P_total 69 = .ok (.getfield 177, 3) := by decide +kernel
theorem d_P_total_72 : decode b_P_total 72 = .ok (.invokestatic 180, 3) := by decide +kernel
theorem d_P_total_75 : decode b_P_total 75 = .ok (.ireturn, 1) := by decide +kernel
theorem d_P_total_76 : decode b_P_total 76 = .ok (.iconst (-1), 1) := by decide +kernel
theorem d_P_total_77 : decode b_P_total 77 = .ok (.ireturn, 1) := by decide +kernel
theorem d_P_decode_0 : decode b_P_decode 0 = .ok (.aload_n 0, 1) := by decide +kernel
theorem d_P_decode_1 : decode b_P_decode 1 = .ok (.invokevirtual 127, 3) := by decide +kernel
theorem d_P_decode_4 : decode b_P_decode 4 = .ok (.ifCond .ne 13, 3) := by decide +kernel
theorem d_P_decode_7 : decode b_P_decode 7 = .ok (.new 131, 3) := by decide +kernel
theorem d_P_decode_10 : decode b_P_decode 10 = .ok (.dup, 1) := by decide +kernel
theorem d_P_decode_11 : decode b_P_decode 11 = .ok (.ldc 133, 2) := by decide +kernel
theorem d_P_decode_13 : decode b_P_decode 13 = .ok (.invokespecial 135, 3) := by decide +kernel
theorem d_P_decode_16 : decode b_P_decode 16 = .ok (.athrow, 1) := by decide +kernel
theorem d_P_decode_17 : decode b_P_decode 17 = .ok (.aload_n 0, 1) := by decide +kernel
theorem d_P_decode_18 : decode b_P_decode 18 = .ok (.getfield 37, 3) := by decide +kernel
theorem d_P_decode_21 : decode b_P_decode 21 = .ok (.getfield 138, 3) := by decide +kernel
theorem d_P_decode_24 : decode b_P_decode 24 = .ok (.ireturn, 1) := by decide +kernel
theorem d_P_findPairing_0 : decode b_P_findPairing 0 = .ok (.aload_n 0, 1) := by decide +kernel
theorem d_P_findPairing_1 : decode b_P_findPairing 1 = .ok (.getfield 21, 3) := by decide +kernel
theorem d_P_findPairing_4 : decode b_P_findPairing 4 = .ok (.invokevirtual 107, 3) := by decide +kernel
theorem d_P_findPairing_7 : decode b_P_findPairing 7 = .ok (.aload_n 0, 1) := by decide +kernel
theorem d_P_findPairing_8 : decode b_P_findPairing 8 = .ok (.getfield 30, 3) := by decide +kernel
theorem d_P_findPairing_11 : decode b_P_findPairing 11 = .ok (.aload_n 0, 1) := by decide +kernel
theorem d_P_findPairing_12 : decode b_P_findPairing 12 = .ok (.getfield 41, 3) := by decide +kernel
theorem d_P_findPairing_15 : decode b_P_findPairing 15 = .ok (.invokevirtual 185, 3) := by decide +kernel
theorem d_P_findPairing_18 : decode b_P_findPairing 18 = .ok (.ifCond .ne 5, 3) := by decide +kernel
theorem d_P_findPairing_21 : decode b_P_findPairing 21 = .ok (.iconst 0, 1) := by decide +kernel
theorem d_P_findPairing_22 : decode b_P_findPairing 22 = .ok (.ireturn, 1) := by decide +kernel
theorem d_P_findPairing_23 : decode b_P_findPairing 23 = .ok (.aload_n 0, 1) := by decide +kernel
theorem d_P_findPairing_24 : decode b_P_findPairing 24 = .ok (.getfield 30, 3) := by decide +kernel
theorem d_P_findPairing_27 : decode b_P_findPairing 27 = .ok (.aload_n 0, 1) := by decide +kernel
theorem d_P_findPairing_28 : decode b_P_findPairing 28 = .ok (.getfield 37, 3) := by decide +kernel
theorem d_P_findPairing_31 : decode b_P_findPairing 31 = .ok (.invokevirtual 188, 3) := by decide +kernel
theorem d_P_findPairing_34 : decode b_P_findPairing 34 = .ok (.iconst 1, 1) := by decide +kernel
theorem d_P_findPairing_35 : decode b_P_findPairing 35 = .ok (.ireturn, 1) := by decide +kernel
theorem d_P_commit_0 : decode b_P_commit 0 = .ok (.iload_n 1, 1) := by decide +kernel
theorem d_P_commit_1 : decode b_P_commit 1 = .ok (.ifCond .lt 9, 3) := by decide +kernel
theorem d_P_commit_4 : decode b_P_commit 4 = .ok (.iload_n 1, 1) := by decide +kernel
theorem d_P_commit_5 : decode b_P_commit 5 = .ok (.bipush 10, 2) := by decide +kernel
theorem d_P_commit_7 : decode b_P_commit 7 = .ok (.if_icmp .le 5, 3) := by decide +kernel
theorem d_P_commit_10 : decode b_P_commit 10 = .ok (.iconst (-1), 1) := by decide +kernel
theorem d_P_commit_11 : decode b_P_commit 11 = .ok (.ireturn, 1) := by decide +kernel
theorem d_P_commit_12 : decode b_P_commit 12 = .ok (.aload_n 0, 1) := by decide +kernel
theorem d_P_commit_13 : decode b_P_commit 13 = .ok (.invokevirtual 127, 3) := by decide +kernel
theorem d_P_commit_16 : decode b_P_commit 16 = .ok (.ifCond .ne 13, 3) := by decide +kernel
theorem d_P_commit_19 : decode b_P_commit 19 = .ok (.new 131, 3) := by decide +kernel
theorem d_P_commit_22 : decode b_P_commit 22 = .ok (.dup, 1) := by decide +kernel
theorem d_P_commit_23 : decode b_P_commit 23 = .ok (.ldc 133, 2) := by decide +kernel
theorem d_P_commit_25 : decode b_P_commit 25 = .ok (.invokespecial 135, 3) := by decide +kernel
theorem d_P_commit_28 : decode b_P_commit 28 = .ok (.athrow, 1) := by decide +kernel
theorem d_P_commit_29 : decode b_P_commit 29 = .ok (.aload_n 0, 1) := by decide +kernel
theorem d_P_commit_30 : decode b_P_commit 30 = .ok (.getfield 41, 3) := by decide +kernel
theorem d_P_commit_33 : decode b_P_commit 33 = .ok (.invokestatic 74, 3) := by decide +kernel
theorem d_P_commit_36 : decode b_P_commit 36 = .ok (.istore_n 2, 1) := by decide +kernel
theorem d_P_commit_37 : decode b_P_commit 37 = .ok (.iconst 0, 1) := by decide +kernel
theorem d_P_commit_38 : decode b_P_commit 38 = .ok (.istore_n 3, 1) := by decide +kernel
theorem d_P_commit_39 : decode b_P_commit 39 = .ok (.iload_n 3, 1) := by decide +kernel
theorem d_P_commit_40 : decode b_P_commit 40 = .ok (.aload_n 0, 1) := by decide +kernel
theorem d_P_commit_41 : decode b_P_commit 41 = .ok (.getfield 37, 3) := by decide +kernel
theorem d_P_commit_44 : decode b_P_commit 44 = .ok (.getfield 141, 3) := by decide +kernel
theorem d_P_commit_47 : decode b_P_commit 47 = .ok (.if_icmp .ge 23, 3) := by decide +kernel
theorem d_P_commit_50 : decode b_P_commit 50 = .ok (.aload_n 0, 1) := by decide +kernel
theorem d_P_commit_51 : decode b_P_commit 51 = .ok (.iload_n 3, 1) := by decide +kernel
theorem d_P_commit_52 : decode b_P_commit 52 = .ok (.iload_n 1, 1) := by decide +kernel
theorem d_P_commit_53 : decode b_P_commit 53 = .ok (.invokevirtual 168, 3) := by decide +kernel
theorem d_P_commit_56 : decode b_P_commit 56 = .ok (.ifCond .eq 8, 3) := by decide +kernel
theorem d_P_commit_59 : decode b_P_commit 59 = .ok (.aload_n 0, 1) := by decide +kernel
theorem d_P_commit_60 : decode b_P_commit 60 = .ok (.iload_n 3, 1) := by decide +kernel
theorem d_P_commit_61 : decode b_P_commit 61 = .ok (.invokevirtual 171, 3) := by decide +kernel
theorem d_P_commit_64 : decode b_P_commit 64 = .ok (.iinc 3 1, 3) := by decide +kernel
theorem d_P_commit_67 : decode b_P_commit 67 = .ok (.goto (-28), 3) := by decide +kernel
theorem d_P_commit_70 : decode b_P_commit 70 = .ok (.iload_n 2, 1) := by decide +kernel
theorem d_P_commit_71 : decode b_P_commit 71 = .ok (.aload_n 0, 1) := by decide +kernel
theorem d_P_commit_72 : decode b_P_commit 72 = .ok (.getfield 41, 3) := by decide +kernel
theorem d_P_commit_75 : decode b_P_commit 75 = .ok (.invokestatic 74, 3) := by decide +kernel
theorem d_P_commit_78 : decode b_P_commit 78 = .ok (.isub, 1) := by decide +kernel
theorem d_P_commit_79 : decode b_P_commit 79 = .ok (.ireturn, 1) := by decide +kernel
theorem d_P_isPairBefore_0 : decode b_P_isPairBefore 0 = .ok (.aload_n 0, 1) := by decide +kernel
theorem d_P_isPairBefore_1 : decode b_P_isPairBefore 1 = .ok (.getfield 37, 3) := by decide +kernel
theorem d_P_isPairBefore_4 : decode b_P_isPairBefore 4 = .ok (.getfield 148, 3) := by decide +kernel
theorem d_P_isPairBefore_7 : decode b_P_isPairBefore 7 = .ok (.iload_n 1, 1) := by decide +kernel
theorem d_P_isPairBefore_8 : decode b_P_isPairBefore 8 = .ok (.iaload, 1) := by decide +kernel
theorem d_P_isPairBefore_9 : decode b_P_isPairBefore 9 = .ok (.istore_n 3, 1) := by decide +kernel
theorem d_P_isPairBefore_10 : decode b_P_isPairBefore 10 = .ok (.aload_n 0, 1) := by decide +kernel
theorem d_P_isPairBefore_11 : decode b_P_isPairBefore 11 = .ok (.getfield 10, 3) := by decide +kernel
theorem d_P_isPairBefore_14 : decode b_P_isPairBefore 14 = .ok (.getfield 192, 3) := by decide +kernel
theorem d_P_isPairBefore_17 : decode b_P_isPairBefore 17 = .ok (.aload_n 0, 1) := by decide +kernel
theorem d_P_isPairBefore_18 : decode b_P_isPairBefore 18 = .ok (.getfield 37, 3) := by decide +kernel
theorem d_P_isPairBefore_21 : decode b_P_isPairBefore 21 = .ok (.getfield 144, 3) := by decide +kernel
theorem d_P_isPairBefore_24 : decode b_P_isPairBefore 24 = .ok (.iload_n 1, 1) := by decide +kernel
theorem d_P_isPairBefore_25 : decode b_P_isPairBefore 25 = .ok (.iaload, 1) := by decide +kernel
theorem d_P_isPairBefore_26 : decode b_P_isPairBefore 26 = .ok (.iaload, 1) := by decide +kernel
theorem d_P_isPairBefore_27 : decode b_P_isPairBefore 27 = .ok (.iload_n 2, 1) := by decide +kernel
theorem d_P_isPairBefore_28 : decode b_P_isPairBefore 28 = .ok (.if_icmp .ge 31, 3) := by decide +kernel
theorem d_P_isPairBefore_31 : decode b_P_isPairBefore 31 = .ok (.aload_n 0, 1) := by decide +kernel
theorem d_P_isPairBefore_32 : decode b_P_isPairBefore 32 = .ok (.getfield 10, 3) := by decide +kernel
theorem d_P_isPairBefore_35 : decode b_P_isPairBefore 35 = .ok (.iload_n 3, 1) := by decide +kernel
theorem d_P_isPairBefore_36 : decode b_P_isPairBefore 36 = .ok (.invokevirtual 91, 3) := by decide +kernel
theorem d_P_isPairBefore_39 : decode b_P_isPairBefore 39 = .ok (.ifCond .ne 16, 3) := by decide +kernel
theorem d_P_isPairBefore_42 : decode b_P_isPairBefore 42 = .ok (.aload_n 0, 1) := by decide +kernel
theorem d_P_isPairBefore_43 : decode b_P_isPairBefore 43 = .ok (.getfield 10, 3) := by decide +kernel
theorem d_P_isPairBefore_46 : decode b_P_isPairBefore 46 = .ok (.getfield 192, 3) := by decide +kernel
theorem d_P_isPairBefore_49 : decode b_P_isPairBefore 49 = .ok (.iload_n 3, 1) := by decide +kernel
theorem d_P_isPairBefore_50 : decode b_P_isPairBefore 50 = .ok (.iaload, 1) := by decide +kernel
theorem d_P_isPairBefore_51 : decode b_P_isPairBefore 51 = .ok (.iload_n 2, 1) := by decide +kernel
theorem d_P_isPairBefore_52 : decode b_P_isPairBefore 52 = .ok (.if_icmp .ge 7, 3) := by decide +kernel
theorem d_P_isPairBefore_55 : decode b_P_isPairBefore 55 = .ok (.iconst 1, 1) := by decide +kernel
theorem d_P_isPairBefore_56 : decode b_P_isPairBefore 56 = .ok (.goto 4, 3) := by decide +kernel
theorem d_P_isPairBefore_59 : decode b_P_isPairBefore 59 = .ok (.iconst 0, 1) := by decide +kernel
theorem d_P_isPairBefore_60 : decode b_P_isPairBefore 60 = .ok (.ireturn, 1) := by decide +kernel
theorem d_P_commitPair_0 : decode b_P_commitPair 0 = .ok (.aload_n 0, 1) := by decide +kernel
theorem d_P_commitPair_1 : decode b_P_commitPair 1 = .ok (.getfield 37, 3) := by decide +kernel
theorem d_P_commitPair_4 : decode b_P_commitPair 4 = .ok (.getfield 144, 3) := by decide +kernel
theorem d_P_commitPair_7 : decode b_P_commitPair 7 = .ok (.iload_n 1, 1) := by decide +kernel
theorem d_P_commitPair_8 : decode b_P_commitPair 8 = .ok (.iaload, 1) := by decide +kernel
theorem d_P_commitPair_9 : decode b_P_commitPair 9 = .ok (.istore_n 2, 1) := by decide +kernel
theorem d_P_commitPair_10 : decode b_P_commitPair 10 = .ok (.aload_n 0, 1) := by decide +kernel
theorem d_P_commitPair_11 : decode b_P_commitPair 11 = .ok (.getfield 37, 3) := by decide +kernel
theorem d_P_commitPair_14 : decode b_P_commitPair 14 = .ok (.getfield 148, 3) := by decide +kernel
theorem d_P_commitPair_17 : decode b_P_commitPair 17 = .ok (.iload_n 1, 1) := by decide +kernel
theorem d_P_commitPair_18 : decode b_P_commitPair 18 = .ok (.iaload, 1) := by decide +kernel
theorem d_P_commitPair_19 : decode b_P_commitPair 19 = .ok (.istore_n 3, 1) := by decide +kernel
theorem d_P_commitPair_20 : decode b_P_commitPair 20 = .ok (.aload_n 0, 1) := by decide +kernel
theorem d_P_commitPair_21 : decode b_P_commitPair 21 = .ok (.getfield 21, 3) := by decide +kernel
theorem d_P_commitPair_24 : decode b_P_commitPair 24 = .ok (.iload_n 2, 1) := by decide +kernel
theorem d_P_commitPair_25 : decode b_P_commitPair 25 = .ok (.iload_n 3, 1) := by decide +kernel
theorem d_P_commitPair_26 : decode b_P_commitPair 26 = .ok (.invokevirtual 116, 3) := by decide +kernel
theorem d_P_commitPair_29 : decode b_P_commitPair 29 = .ok (.aload_n 0, 1) := by decide +kernel
theorem d_P_commitPair_30 : decode b_P_commitPair 30 = .ok (.dup, 1) := by decide +kernel
theorem d_P_commitPair_31 : decode b_P_commitPair 31 = .ok (.getfield 45, 3) := by decide +kernel
theorem d_P_commitPair_34 : decode b_P_commitPair 34 = .ok (.aload_n 0, 1) := by decide +kernel
theorem d_P_commitPair_35 : decode b_P_commitPair 35 = .ok (.getfield 21, 3) := by decide +kernel
theorem d_P_commitPair_38 : decode b_P_commitPair 38 = .ok (.invokevirtual 195, 3) := by decide +kernel
theorem d_P_commitPair_41 : decode b_P_commitPair 41 = .ok (.lxor, 1) := by decide +kernel
theorem d_P_commitPair_42 : decode b_P_commitPair 42 = .ok (.putfield 45, 3) := by decide +kernel
theorem d_P_commitPair_45 : decode b_P_commitPair 45 = .ok (.aload_n 0, 1) := by decide +kernel
theorem d_P_commitPair_46 : decode b_P_commitPair 46 = .ok (.dup, 1) := by decide +kernel
theorem d_P_commitPair_47 : decode b_P_commitPair 47 = .ok (.getfield 41, 3) := by decide +kernel
theorem d_P_commitPair_50 : decode b_P_commitPair 50 = .ok (.iconst 1, 1) := by decide +kernel
theorem d_P_commitPair_51 : decode b_P_commitPair 51 = .ok (.iload_n 2, 1) := by decide +kernel
theorem d_P_commitPair_52 : decode b_P_commitPair 52 = .ok (.ishl, 1) := by decide +kernel
theorem d_P_commitPair_53 : decode b_P_commitPair 53 = .ok (.iconst 1, 1) := by decide +kernel
theorem d_P_commitPair_54 : decode b_P_commitPair 54 = .ok (.iload_n 3, 1) := by decide +kernel
theorem d_P_commitPair_55 : decode b_P_commitPair 55 = .ok (.ishl, 1) := by decide +kernel
theorem d_P_commitPair_56 : decode b_P_commitPair 56 = .ok (.ior, 1) := by decide +kernel
theorem d_P_commitPair_57 : decode b_P_commitPair 57 = .ok (.iconst (-1), 1) := by decide +kernel
theorem d_P_commitPair_58 : decode b_P_commitPair 58 = .ok (.ixor, 1) := by decide +kernel
theorem d_P_commitPair_59 : decode b_P_commitPair 59 = .ok (.iand, 1) := by decide +kernel
theorem d_P_commitPair_60 : decode b_P_commitPair 60 = .ok (.putfield 41, 3) := by decide +kernel
theorem d_P_commitPair_63 : decode b_P_commitPair 63 = .ok (.return_, 1) := by decide +kernel
end
section
/-! the lightest ways by their costs: what a table of costs must satisfy, that this fixes it, and that stages over inner middles reach it -/
def dm_FAR : Nat := 1000000000000
def dm_inc (oe ot : Nat → Nat) (e a x : Nat) : Prop := (oe e = a ∧ ot e = x) ∨ (ot e = a ∧ oe e = x)
def dm_D (np ne : Nat) (inn : Nat → Bool) (oe ot co : Nat → Nat) (D : Nat → Nat → Nat) : Prop :=
  (∀ a, a < np → D a a = 0) ∧ (∀ a b, a < np → b < np → D a b ≤ dm_FAR) ∧
  (∀ e a x b, e < ne → dm_inc oe ot e a x → b < np → (x = b ∨ inn x = true) → D a b ≤ co e + D x b) ∧
  (∀ a b, a < np → b < np → a ≠ b → D a b ≠ dm_FAR → ∃ e x, e < ne ∧ dm_inc oe ot e a x ∧ (x = b ∨ inn x = true) ∧ D a b = co e + D x b)
theorem dm_inc_lt {np ne : Nat} {oe ot : Nat → Nat} (hE : ∀ e, e < ne → oe e < np ∧ ot e < np) {e a x : Nat} (he : e < ne) (h : dm_inc oe ot e a x) : a < np ∧ x < np := by
  have h1 := hE e he
  rcases h with ⟨h2, h3⟩ | ⟨h2, h3⟩ <;> omega
theorem dm_le {np ne : Nat} {inn : Nat → Bool} {oe ot co : Nat → Nat} {D D' : Nat → Nat → Nat} (hE : ∀ e, e < ne → oe e < np ∧ ot e < np) (hco : ∀ e, e < ne → 0 < co e) (h1 : dm_D np ne inn oe ot co D) (h2 : dm_D np ne inn oe ot co D') : ∀ n a b, a < np → b < np → D' a b ≤ n → D a b ≤ D' a b := by
  intro n
  induction n with
  | zero =>
    intro a b ha hb hn
    by_cases hab : a = b
    · subst hab; rw [h1.1 a ha]; exact Nat.zero_le _
    · by_cases hF : D' a b = dm_FAR
      · rw [hF]; exact h1.2.1 a b ha hb
      · obtain ⟨e, x, he, hi, hx, hd⟩ := h2.2.2.2 a b ha hb hab hF
        have h3 := hco e he
        omega
  | succ n ih =>
    intro a b ha hb hn
    by_cases hab : a = b
    · subst hab; rw [h1.1 a ha]; exact Nat.zero_le _
    · by_cases hF : D' a b = dm_FAR
      · rw [hF]; exact h1.2.1 a b ha hb
      · obtain ⟨e, x, he, hi, hx, hd⟩ := h2.2.2.2 a b ha hb hab hF
        have h3 := hco e he
        have hxl := (dm_inc_lt hE he hi).2
        have h4 := ih x b hxl hb (by omega)
        have h5 := h1.2.2.1 e a x b he hi hb hx
        omega
theorem dm_uniq {np ne : Nat} {inn : Nat → Bool} {oe ot co : Nat → Nat} {D D' : Nat → Nat → Nat} (hE : ∀ e, e < ne → oe e < np ∧ ot e < np) (hco : ∀ e, e < ne → 0 < co e) (h1 : dm_D np ne inn oe ot co D) (h2 : dm_D np ne inn oe ot co D') {a b : Nat} (ha : a < np) (hb : b < np) : D a b = D' a b :=
  Nat.le_antisymm (dm_le hE hco h1 h2 _ a b ha hb (Nat.le_refl _)) (dm_le hE hco h2 h1 _ a b ha hb (Nat.le_refl _))
/-- a stage over the middle m -/
def dm_st (m : Nat) (D : Nat → Nat → Nat) (a b : Nat) : Nat := if D a m ≠ dm_FAR ∧ D m b ≠ dm_FAR ∧ D a m + D m b < D a b then D a m + D m b else D a b
/-- behind the stages over the inner middles below k -/
def dm_I (np ne : Nat) (inn : Nat → Bool) (oe ot co : Nat → Nat) (k : Nat) (D : Nat → Nat → Nat) : Prop :=
  (∀ a, a < np → D a a = 0) ∧ (∀ a b, a < np → b < np → D a b ≤ dm_FAR) ∧ (∀ a b, a < np → b < np → D a b = D b a) ∧
  (∀ e a x, e < ne → dm_inc oe ot e a x → D a x ≤ co e) ∧
  (∀ m a b, m < k → m < np → inn m = true → a < np → b < np → D a b ≤ D a m + D m b) ∧
  (∀ a b, a < np → b < np → a ≠ b → D a b ≠ dm_FAR → ∃ e x, e < ne ∧ dm_inc oe ot e a x ∧ (x = b ∨ inn x = true) ∧ co e + D x b ≤ D a b)
theorem dm_st_le (m : Nat) (D : Nat → Nat → Nat) (a b : Nat) : dm_st m D a b ≤ D a b := by
  unfold dm_st
  split
  · omega
  · exact Nat.le_refl _
theorem dm_st_or (m : Nat) (D : Nat → Nat → Nat) (a b : Nat) : dm_st m D a b = D a b ∨ (dm_st m D a b = D a m + D m b ∧ D a m ≠ dm_FAR ∧ D m b ≠ dm_FAR ∧ D a m + D m b < D a b) := by
  unfold dm_st
  split
  · rename_i h
    exact Or.inr ⟨rfl, h.1, h.2.1, h.2.2⟩
  · exact Or.inl rfl
theorem dm_st_sum (m : Nat) {D : Nat → Nat → Nat} {a b : Nat} (hF : D a b ≤ dm_FAR) : dm_st m D a b ≤ D a m + D m b := by
  unfold dm_st
  split
  · exact Nat.le_refl _
  · rename_i h
    by_cases h1 : D a m = dm_FAR
    · omega
    · by_cases h2 : D m b = dm_FAR
      · omega
      · have h3 : ¬ (D a m + D m b < D a b) := fun q => h ⟨h1, h2, q⟩
        omega
theorem dm_st_row {m : Nat} {D : Nat → Nat → Nat} (h0 : D m m = 0) (b : Nat) : dm_st m D m b = D m b := by
  unfold dm_st
  rw [h0]
  split
  · rename_i h
    omega
  · rfl
theorem dm_st_col {m : Nat} {D : Nat → Nat → Nat} (h0 : D m m = 0) (a : Nat) : dm_st m D a m = D a m := by
  unfold dm_st
  rw [h0]
  split
  · rename_i h
    omega
  · rfl
theorem dm_step {np ne : Nat} {inn : Nat → Bool} {oe ot co : Nat → Nat} {k : Nat} {D : Nat → Nat → Nat} (hE : ∀ e, e < ne → oe e < np ∧ ot e < np) (hk : k < np) (hi : inn k = true) (h : dm_I np ne inn oe ot co k D) : dm_I np ne inn oe ot co (k + 1) (dm_st k D) := by
  obtain ⟨h0, hF, hS, hEd, hC, h3⟩ := h
  have hkk := h0 k hk
  refine ⟨fun a ha => ?_, fun a b ha hb => ?_, fun a b ha hb => ?_, fun e a x he hx => ?_, fun m a b hm hmn hmi ha hb => ?_, fun a b ha hb hab hne => ?_⟩
  · have := dm_st_le k D a a
    have := h0 a ha
    omega
  · exact Nat.le_trans (dm_st_le k D a b) (hF a b ha hb)
  · unfold dm_st
    rw [hS a k ha hk, hS k b hk hb, hS a b ha hb, Nat.add_comm (D k a) (D b k)]
    by_cases q : D k a ≠ dm_FAR ∧ D b k ≠ dm_FAR ∧ D b k + D k a < D b a
    · rw [if_pos q, if_pos ⟨q.2.1, q.1, q.2.2⟩]
    · rw [if_neg q, if_neg (fun z => q ⟨z.2.1, z.1, z.2.2⟩)]
  · exact Nat.le_trans (dm_st_le k D a x) (hEd e a x he hx)
  · by_cases hmk : m = k
    · subst hmk
      rw [dm_st_col hkk, dm_st_row hkk]
      exact dm_st_sum m (hF a b ha hb)
    · have hm' : m < k := by omega
      have c1 := hC m a b hm' hmn hmi ha hb
      have c2 := hC m k b hm' hmn hmi hk hb
      have c3 := hC m a k hm' hmn hmi ha hk
      have s1 := dm_st_le k D a b
      have s2 := dm_st_sum k (hF a b ha hb)
      rcases dm_st_or k D a m with e1 | ⟨e1, -, -, -⟩ <;> rcases dm_st_or k D m b with e2 | ⟨e2, -, -, -⟩ <;> omega
  · rcases dm_st_or k D a b with e1 | ⟨e1, n1, n2, n3⟩
    · rw [e1] at hne ⊢
      obtain ⟨e, x, he, hx, hxb, hd⟩ := h3 a b ha hb hab hne
      exact ⟨e, x, he, hx, hxb, Nat.le_trans (Nat.add_le_add_left (dm_st_le k D x b) _) hd⟩
    · rw [e1]
      have hak : a ≠ k := by
        intro q
        subst q
        omega
      obtain ⟨e, x, he, hx, hxb, hd⟩ := h3 a k ha hk hak n1
      have hxl := (dm_inc_lt hE he hx).2
      have s2 := dm_st_sum k (hF x b hxl hb)
      refine ⟨e, x, he, hx, Or.inr ?_, by omega⟩
      rcases hxb with rfl | q
      · exact hi
      · exact q
theorem dm_skip {np ne : Nat} {inn : Nat → Bool} {oe ot co : Nat → Nat} {k : Nat} {D : Nat → Nat → Nat} (hi : inn k = false) (h : dm_I np ne inn oe ot co k D) : dm_I np ne inn oe ot co (k + 1) D := by
  obtain ⟨h0, hF, hS, hEd, hC, h3⟩ := h
  refine ⟨h0, hF, hS, hEd, fun m a b hm hmn hmi ha hb => ?_, h3⟩
  by_cases hmk : m = k
  · subst hmk; rw [hi] at hmi; cases hmi
  · exact hC m a b (by omega) hmn hmi ha hb
theorem dm_end {np ne : Nat} {inn : Nat → Bool} {oe ot co : Nat → Nat} {D : Nat → Nat → Nat} (hE : ∀ e, e < ne → oe e < np ∧ ot e < np) (h : dm_I np ne inn oe ot co np D) : dm_D np ne inn oe ot co D := by
  obtain ⟨h0, hF, hS, hEd, hC, h3⟩ := h
  have h2 : ∀ e a x b, e < ne → dm_inc oe ot e a x → b < np → (x = b ∨ inn x = true) → D a b ≤ co e + D x b := by
    intro e a x b he hx hb hxb
    obtain ⟨ha, hxl⟩ := dm_inc_lt hE he hx
    have q1 := hEd e a x he hx
    rcases hxb with rfl | q
    · omega
    · have q2 := hC x a b hxl hxl q ha hb
      omega
  refine ⟨h0, hF, h2, fun a b ha hb hab hne => ?_⟩
  obtain ⟨e, x, he, hx, hxb, hd⟩ := h3 a b ha hb hab hne
  exact ⟨e, x, he, hx, hxb, Nat.le_antisymm (h2 e a x b he hx hb hxb) hd⟩
theorem dm_congr {np ne : Nat} {inn : Nat → Bool} {oe ot co : Nat → Nat} {k : Nat} {D D' : Nat → Nat → Nat} (hE : ∀ e, e < ne → oe e < np ∧ ot e < np) (hc : ∀ a b, a < np → b < np → D' a b = D a b) (h : dm_I np ne inn oe ot co k D) : dm_I np ne inn oe ot co k D' := by
  obtain ⟨h0, hF, hS, hEd, hC, h3⟩ := h
  refine ⟨fun a ha => ?_, fun a b ha hb => ?_, fun a b ha hb => ?_, fun e a x he hx => ?_, fun m a b hm hmn hmi ha hb => ?_, fun a b ha hb hab hne => ?_⟩
  · rw [hc a a ha ha]; exact h0 a ha
  · rw [hc a b ha hb]; exact hF a b ha hb
  · rw [hc a b ha hb, hc b a hb ha]; exact hS a b ha hb
  · obtain ⟨ha, hxl⟩ := dm_inc_lt hE he hx
    rw [hc a x ha hxl]; exact hEd e a x he hx
  · rw [hc a b ha hb, hc a m ha hmn, hc m b hmn hb]; exact hC m a b hm hmn hmi ha hb
  · rw [hc a b ha hb] at hne ⊢
    obtain ⟨e, x, he, hx, hxb, hd⟩ := h3 a b ha hb hab hne
    refine ⟨e, x, he, hx, hxb, ?_⟩
    rw [hc x b (dm_inc_lt hE he hx).2 hb]; exact hd
theorem dm_zero {np : Nat} {inn : Nat → Bool} {oe ot co : Nat → Nat} {D : Nat → Nat → Nat} (h0 : ∀ a, a < np → D a a = 0) (hF : ∀ a b, a < np → b < np → a ≠ b → D a b = dm_FAR) : dm_I np 0 inn oe ot co 0 D := by
  refine ⟨h0, fun a b ha hb => ?_, fun a b ha hb => ?_, fun e a x he hx => absurd he (Nat.not_lt_zero _), fun m a b hm hmn hmi ha hb => absurd hm (Nat.not_lt_zero _), fun a b ha hb hab hne => absurd (hF a b ha hb hab) hne⟩
  · by_cases hab : a = b
    · subst hab; rw [h0 a ha]; exact Nat.zero_le _
    · rw [hF a b ha hb hab]; exact Nat.le_refl _
  · by_cases hab : a = b
    · subst hab; rfl
    · rw [hF a b ha hb hab, hF b a hb ha (fun q => hab q.symm)]
theorem dm_edge {np j : Nat} {inn : Nat → Bool} {oe ot co : Nat → Nat} {D D' : Nat → Nat → Nat} (hE : ∀ e, e < j + 1 → oe e < np ∧ ot e < np) (hne : oe j ≠ ot j) (hj : co j < dm_FAR) (hc : ∀ a b, a < np → b < np → dm_inc oe ot j a b → D' a b = min (D a b) (co j)) (hn : ∀ a b, a < np → b < np → ¬ dm_inc oe ot j a b → D' a b = D a b) (h : dm_I np j inn oe ot co 0 D) : dm_I np (j + 1) inn oe ot co 0 D' := by
  obtain ⟨h0, hF, hS, hEd, hC, h3⟩ := h
  have hself : ∀ a, ¬ dm_inc oe ot j a a := by
    intro a q
    rcases q with ⟨q1, q2⟩ | ⟨q1, q2⟩ <;> omega
  have hle : ∀ a b, a < np → b < np → D' a b ≤ D a b := by
    intro a b ha hb
    by_cases q : dm_inc oe ot j a b
    · rw [hc a b ha hb q]; exact Nat.min_le_left _ _
    · rw [hn a b ha hb q]; exact Nat.le_refl _
  refine ⟨fun a ha => ?_, fun a b ha hb => Nat.le_trans (hle a b ha hb) (hF a b ha hb), fun a b ha hb => ?_, fun e a x he hx => ?_, fun m a b hm hmn hmi ha hb => absurd hm (Nat.not_lt_zero _), fun a b ha hb hab hnf => ?_⟩
  · rw [hn a a ha ha (hself a)]; exact h0 a ha
  · by_cases q : dm_inc oe ot j a b
    · have q' : dm_inc oe ot j b a := by
        rcases q with ⟨q1, q2⟩ | ⟨q1, q2⟩
        · exact Or.inr ⟨q2, q1⟩
        · exact Or.inl ⟨q2, q1⟩
      rw [hc a b ha hb q, hc b a hb ha q', hS a b ha hb]
    · have q' : ¬ dm_inc oe ot j b a := by
        intro z
        rcases z with ⟨q1, q2⟩ | ⟨q1, q2⟩
        · exact q (Or.inr ⟨q2, q1⟩)
        · exact q (Or.inl ⟨q2, q1⟩)
      rw [hn a b ha hb q, hn b a hb ha q', hS a b ha hb]
  · obtain ⟨ha, hxl⟩ := dm_inc_lt hE he hx
    by_cases hej : e = j
    · subst hej
      rw [hc a x ha hxl hx]; exact Nat.min_le_right _ _
    · exact Nat.le_trans (hle a x ha hxl) (hEd e a x (by omega) hx)
  · have old : D a b ≠ dm_FAR → D' a b = D a b → ∃ e x, e < j + 1 ∧ dm_inc oe ot e a x ∧ (x = b ∨ inn x = true) ∧ co e + D' x b ≤ D' a b := by
      intro z1 z2
      obtain ⟨e, x, he, hx, hxb, hd⟩ := h3 a b ha hb hab z1
      have hxl := (dm_inc_lt hE (show e < j + 1 by omega) hx).2
      have := hle x b hxl hb
      exact ⟨e, x, by omega, hx, hxb, by omega⟩
    by_cases q : dm_inc oe ot j a b
    · have e1 := hc a b ha hb q
      by_cases z : D a b ≤ co j
      · rw [Nat.min_eq_left z] at e1
        exact old (by omega) e1
      · rw [Nat.min_eq_right (by omega)] at e1
        refine ⟨j, b, by omega, q, Or.inl rfl, ?_⟩
        rw [hn b b hb hb (hself b), h0 b hb]
        omega
    · have e1 := hn a b ha hb q
      exact old (by rw [← e1]; exact hnf) e1
end
section
/-! cells by their pictures -/
abbrev cg_N (a : Nat) (cI : ClassId) (n : Nat) (f : Nat → Nat) : Nat × va_E := (a, .inl (cI, n, .inl (fun k => nI (f k))))
abbrev cg_I (a : Nat) (cI : ClassId) (n : Nat) (f : Nat → Int32) : Nat × va_E := (a, .inl (cI, n, .inl f))
abbrev cg_L (a : Nat) (cL : ClassId) (n : Nat) (f : Nat → Nat) : Nat × va_E := (a, .inl (cL, n, .inr (.inl (fun k => lN (f k)))))
abbrev cg_K (a : Nat) (cL : ClassId) (n : Nat) (f : Nat → Int64) : Nat × va_E := (a, .inl (cL, n, .inr (.inl f)))
abbrev cg_G (g tA oA uA wA sA np ne : Nat) (bd : Int32) (er : Int64) (vr : Nat) : Nat × va_E := (g, .inr (0, [.ref tA, .ref oA, .ref uA, .ref wA, .ref sA, .int (nI np), .int (nI ne), .int bd, .long er, .int (nI vr)]))
abbrev cg_W (wy g cA rA : Nat) (mv : Int32) (tl : Nat) : Nat × va_E := (wy, .inr (1, [.ref g, .ref cA, .ref rA, .int mv, .int (nI tl)]))
abbrev cg_F (fo lA hA sz wt lc : Nat) (od : Int64) : Nat × va_E := (fo, .inr (2, [.ref lA, .ref hA, .int (nI sz), .int (nI wt), .int (nI lc), .long od]))
abbrev cg_M (mt g wy xA nA pA qA kA rl : Nat) : Nat × va_E := (mt, .inr (3, [.ref g, .ref wy, .ref xA, .ref nA, .ref pA, .ref qA, .ref kA, .int (nI rl)]))
abbrev cg_P (pd g wy mt fo : Nat) (fi : Int32) (kp : Int64) : Nat × va_E := (pd, .inr (4, [.ref g, .ref wy, .ref mt, .ref fo, .int fi, .long kp]))
/-! the class's small words -/
def ng_fit (n : Nat) (x : Int32) : Bool := decide ((x.toUInt32 >>> ((nI n).toUInt32 &&& Int32.toUInt32 31)).toInt32 = 0)
def ng_fitL (n : Nat) (x : Int64) : Bool := decide ((x.toUInt64 >>> ((nI n).toInt64.toUInt64 &&& Int64.toUInt64 63)).toInt64 = lN 0)
def ng_nth (x : Int32) : Nat → Nat → Nat → Int32
  | 0, _, _ => -1
  | n + 1, i, lf => if nb_t x i = true then (if lf = 0 then nI i else ng_nth x n (i + 1) (lf - 1)) else ng_nth x n (i + 1) lf
theorem ng_nth_f {x : Int32} {i lf : Nat} (hi : i < 20) (h : nb_t x i = false) : ng_nth x (20 - i) i lf = ng_nth x (20 - (i + 1)) (i + 1) lf := by
  rw [show 20 - i = (20 - (i + 1)) + 1 by omega]
  simp [ng_nth, h]
theorem ng_nth_t {x : Int32} {i lf : Nat} (hi : i < 20) (h : nb_t x i = true) (hl : 0 < lf) : ng_nth x (20 - i) i lf = ng_nth x (20 - (i + 1)) (i + 1) (lf - 1) := by
  rw [show 20 - i = (20 - (i + 1)) + 1 by omega]
  simp [ng_nth, h, show ¬ lf = 0 by omega]
theorem ng_nth_0 {x : Int32} {i : Nat} (hi : i < 20) (h : nb_t x i = true) : ng_nth x (20 - i) i 0 = nI i := by
  rw [show 20 - i = (20 - (i + 1)) + 1 by omega]
  simp [ng_nth, h]
def ng_join (np : Nat) (bd a b : Int32) : Bool := nb_in np a && (nb_in np b && (!decide (a = b) && !(nb_t bd a.toNatClampNeg && nb_t bd b.toNatClampNeg)))
def ng_w (er : Int64) (wt : Nat → Nat) (e : Nat) : Nat := if nb_u er e = true then 0 else wt e
def ng_nx (oe ot : Nat → Nat) (e x : Nat) : Option Nat := if oe e = x then some (ot e) else if ot e = x then some (oe e) else none
def ng_oi (o : Option Nat) : Int32 := match o with
  | none => -1
  | some e => nI e
def ng_bd (b : Bool) (bd : Int32) (k : Nat) : Int32 := if b = true then bd ||| nb_o k else bd
def ng_low (f : Nat → Nat) (i c : Nat) : Nat → Nat := if c < f i then va_up f i c else f
def ng_fst (P : Nat → Bool) : Nat → Nat → Option Nat
  | 0, _ => none
  | n + 1, i => if P i = true then some i else ng_fst P n (i + 1)
theorem ng_clr {np i j v : Nat} {ct1 : Nat → Nat} (hi : i < np) (hj : j < np) (hn : np ≤ 20) (hv : v = if i = j then 0 else dm_FAR) (h : ∀ x y, x < np → y < np → (x < i ∨ (x = i ∧ y < j)) → ct1 (x * 20 + y) = if x = y then 0 else dm_FAR) : ∀ x y, x < np → y < np → (x < i ∨ (x = i ∧ y < j + 1)) → va_up ct1 (i * 20 + j) v (x * 20 + y) = if x = y then 0 else dm_FAR := by
  intro x y hx hy hxy
  by_cases q : x * 20 + y = i * 20 + j
  · have q1 : x = i := by omega
    have q2 : y = j := by omega
    subst q1 q2
    rw [va_up_self]; exact hv
  · rw [va_up_ne _ _ q]
    refine h x y hx hy ?_
    by_cases z : x = i
    · have : y ≠ j := fun z2 => q (by rw [z, z2])
      omega
    · omega
theorem ng_nm1 {y : Nat} (h : y < 2 ^ 31) : ¬ nI y = -1 := fun q => by
  have h1 := nI_toInt h
  rw [q] at h1
  have h2 : (-1 : Int32).toInt = -1 := by decide
  omega
theorem ng_m1n {y : Nat} (h : y < 2 ^ 31) : ¬ (-1 : Int32) = nI y := fun q => ng_nm1 h q.symm
theorem ng_nx_lt {oe ot : Nat → Nat} {e x y B : Nat} (h : ng_nx oe ot e x = some y) (h1 : oe e < B) (h2 : ot e < B) : y < B := by
  unfold ng_nx at h
  split at h
  · cases h; exact h2
  · split at h
    · cases h; exact h1
    · cases h
def ng_ok (bd : Int32) (er : Int64) (oe ot wt ct : Nat → Nat) (h z e : Nat) : Bool := match ng_nx oe ot e h with
  | none => false
  | some y => (decide (y = z) || !nb_t bd y) && decide (ct (y * 20 + z) + (ng_w er wt e * 64 + 1) = ct (h * 20 + z))
theorem ng_fst_t {P : Nat → Bool} {n i : Nat} (hi : i < n) (h : P i = true) : ng_fst P (n - i) i = some i := by
  rw [show n - i = (n - (i + 1)) + 1 by omega]
  simp [ng_fst, h]
theorem ng_fst_f {P : Nat → Bool} {n i : Nat} (hi : i < n) (h : P i = false) : ng_fst P (n - i) i = ng_fst P (n - (i + 1)) (i + 1) := by
  rw [show n - i = (n - (i + 1)) + 1 by omega]
  simp [ng_fst, h]
theorem ng_subL {x y z : Nat} (hx : x < 2 ^ 62) (hy : y < 2 ^ 62) (hz : z < 2 ^ 62) : (lN z = lN x - lN y) ↔ z + y = x := by
  constructor
  · intro h
    have h1 : lN z + lN y = lN x := by rw [h, Int64.sub_add_cancel]
    rw [lN_add] at h1
    exact (pk_lEQ (by omega) (by omega)).mp h1
  · intro h
    rw [← h, ← lN_add, Int64.add_sub_cancel]
end
section
/-! a stage over a middle, entry by entry -/
def ng_lo1 (np m0 : Nat) (ct ct1 : Nat → Nat) (i : Nat) : Prop := ∀ x y, x < np → y < np → ct1 (x * 20 + y) = if x < i then dm_st m0 (fun a b => ct (a * 20 + b)) x y else ct (x * 20 + y)
def ng_lo2 (np m0 : Nat) (ct ct1 : Nat → Nat) (i j : Nat) : Prop := ∀ x y, x < np → y < np → ct1 (x * 20 + y) = if x < i ∨ (x = i ∧ y < j) then dm_st m0 (fun a b => ct (a * 20 + b)) x y else ct (x * 20 + y)
theorem ng_jn0 {np m0 i : Nat} {ct ct1 : Nat → Nat} (h : ng_lo1 np m0 ct ct1 i) : ng_lo2 np m0 ct ct1 i 0 := by
  intro x y hx hy
  rw [h x y hx hy]
  by_cases q : x < i
  · rw [if_pos q, if_pos (Or.inl q)]
  · rw [if_neg q, if_neg (by omega)]
theorem ng_jn_end {np m0 i j : Nat} {ct ct1 : Nat → Nat} (hj : np ≤ j) (h : ng_lo2 np m0 ct ct1 i j) : ng_lo1 np m0 ct ct1 (i + 1) := by
  intro x y hx hy
  rw [h x y hx hy]
  by_cases q : x < i + 1
  · rw [if_pos q, if_pos (by omega)]
  · rw [if_neg q, if_neg (by omega)]
theorem ng_jn_far {np m0 i : Nat} {ct ct1 : Nat → Nat} (hF : ct (i * 20 + m0) = dm_FAR) (h : ng_lo1 np m0 ct ct1 i) : ng_lo1 np m0 ct ct1 (i + 1) := by
  intro x y hx hy
  rw [h x y hx hy]
  by_cases q : x < i
  · rw [if_pos q, if_pos (by omega)]
  · rw [if_neg q]
    by_cases q2 : x = i
    · subst q2
      rw [if_pos (by omega)]
      unfold dm_st
      rw [if_neg (fun z => z.1 hF)]
    · rw [if_neg (by omega)]
theorem ng_jn_at {np m0 i j : Nat} {ct ct1 : Nat → Nat} (hi : i < np) (hj : j < np) (h : ng_lo2 np m0 ct ct1 i j) : ct1 (i * 20 + j) = ct (i * 20 + j) := by
  rw [h i j hi hj, if_neg (by omega)]
theorem ng_jn_row {np m0 i j : Nat} {ct ct1 : Nat → Nat} (hm : m0 < np) (hmm : ct (m0 * 20 + m0) = 0) (hj : j < np) (h : ng_lo2 np m0 ct ct1 i j) : ct1 (m0 * 20 + j) = ct (m0 * 20 + j) := by
  rw [h m0 j hm hj]
  split
  · exact dm_st_row (D := fun a b => ct (a * 20 + b)) hmm j
  · rfl
theorem ng_jn_col {np m0 i : Nat} {ct ct1 : Nat → Nat} (hi : i < np) (hm : m0 < np) (h : ng_lo1 np m0 ct ct1 i) : ct1 (i * 20 + m0) = ct (i * 20 + m0) := by
  rw [h i m0 hi hm, if_neg (Nat.lt_irrefl _)]
theorem ng_jn_skip {np m0 i j : Nat} {ct ct1 : Nat → Nat} (hi : i < np) (hj : j < np) (hF : ct (m0 * 20 + j) = dm_FAR) (h : ng_lo2 np m0 ct ct1 i j) : ng_lo2 np m0 ct ct1 i (j + 1) := by
  intro x y hx hy
  by_cases q : x = i ∧ y = j
  · obtain ⟨q1, q2⟩ := q
    subst q1 q2
    rw [ng_jn_at hi hj h, if_pos (by omega)]
    unfold dm_st
    rw [if_neg (fun z => z.2.1 hF)]
  · rw [h x y hx hy]
    by_cases z : x < i ∨ (x = i ∧ y < j)
    · rw [if_pos z, if_pos (by omega)]
    · rw [if_neg z, if_neg (by omega)]
theorem ng_jn_low {np m0 i j : Nat} {ct ct1 : Nat → Nat} (hn : np ≤ 20) (hi : i < np) (hj : j < np) (hF1 : ct (i * 20 + m0) ≠ dm_FAR) (hF2 : ct (m0 * 20 + j) ≠ dm_FAR) (h : ng_lo2 np m0 ct ct1 i j) : ng_lo2 np m0 ct (ng_low ct1 (i * 20 + j) (ct (i * 20 + m0) + ct (m0 * 20 + j))) i (j + 1) := by
  have hat := ng_jn_at hi hj h
  intro x y hx hy
  by_cases q : x = i ∧ y = j
  · obtain ⟨q1, q2⟩ := q
    subst q1 q2
    rw [if_pos (by omega)]
    unfold ng_low dm_st
    rw [hat]
    by_cases z : ct (x * 20 + m0) + ct (m0 * 20 + y) < ct (x * 20 + y)
    · rw [if_pos z, if_pos ⟨hF1, hF2, z⟩, va_up_self]
    · rw [if_neg z, if_neg (fun w => z w.2.2), hat]
  · have e1 : ng_low ct1 (i * 20 + j) (ct (i * 20 + m0) + ct (m0 * 20 + j)) (x * 20 + y) = ct1 (x * 20 + y) := by
      unfold ng_low
      split
      · refine va_up_ne _ _ (fun z => q ?_)
        constructor <;> omega
      · rfl
    rw [e1, h x y hx hy]
    by_cases z : x < i ∨ (x = i ∧ y < j)
    · rw [if_pos z, if_pos (by omega)]
    · rw [if_neg z, if_neg (by omega)]
theorem ng_low_far {f : Nat → Nat} {k c : Nat} (h : ∀ i, i < 400 → f i ≤ dm_FAR) (hk : k < 400) : ∀ i, i < 400 → ng_low f k c i ≤ dm_FAR := by
  intro i hi
  unfold ng_low
  split
  · rename_i hc
    by_cases q : i = k
    · subst q
      rw [va_up_self]
      have := h i hi
      omega
    · rw [va_up_ne _ _ q]; exact h i hi
  · exact h i hi
theorem ng_up_far {f : Nat → Nat} {k v : Nat} (h : ∀ i, i < 400 → f i ≤ dm_FAR) (hv : v ≤ dm_FAR) : ∀ i, i < 400 → va_up f k v i ≤ dm_FAR := by
  intro i hi
  by_cases q : i = k
  · subst q; rw [va_up_self]; exact hv
  · rw [va_up_ne _ _ q]; exact h i hi
/-- the table of costs is that of the graph -/
def ng_M (np ne : Nat) (bd : Int32) (er : Int64) (oe ot wt ct : Nat → Nat) : Prop := dm_I np ne (fun k => !nb_t bd k) oe ot (fun e => ng_w er wt e * 64 + 1) np (fun a b => ct (a * 20 + b)) ∧ ∀ i, i < 400 → ct i ≤ dm_FAR
theorem ng_low_at {f : Nat → Nat} {k c : Nat} : ng_low f k c k = min (f k) c := by
  unfold ng_low
  split
  · rw [va_up_self]; omega
  · omega
theorem ng_low_ne {f : Nat → Nat} {k c i : Nat} (h : i ≠ k) : ng_low f k c i = f i := by
  unfold ng_low
  split
  · exact va_up_ne _ _ h
  · rfl
theorem ng_ed {np j c : Nat} {inn : Nat → Bool} {oe ot co ct1 : Nat → Nat} (hn : np ≤ 20) (hE : ∀ e, e < j + 1 → oe e < np ∧ ot e < np) (hne : oe j ≠ ot j) (hc : co j = c) (hj : c < dm_FAR) (h : dm_I np j inn oe ot co 0 (fun a b => ct1 (a * 20 + b))) : dm_I np (j + 1) inn oe ot co 0 (fun a b => ng_low (ng_low ct1 (oe j * 20 + ot j) c) (ot j * 20 + oe j) c (a * 20 + b)) := by
  have hj1 := hE j (Nat.lt_succ_self j)
  subst hc
  refine dm_edge (D := fun a b => ct1 (a * 20 + b)) hE hne hj ?_ ?_ h
  · intro a b ha hb hab
    show ng_low (ng_low ct1 (oe j * 20 + ot j) (co j)) (ot j * 20 + oe j) (co j) (a * 20 + b) = _
    rcases hab with ⟨q1, q2⟩ | ⟨q1, q2⟩
    · subst q1 q2
      rw [ng_low_ne (by omega), ng_low_at]
    · subst q1 q2
      rw [ng_low_at, ng_low_ne (by omega)]
  · intro a b ha hb hab
    show ng_low (ng_low ct1 (oe j * 20 + ot j) (co j)) (ot j * 20 + oe j) (co j) (a * 20 + b) = _
    have z1 : a * 20 + b ≠ ot j * 20 + oe j := fun q => hab (Or.inr ⟨by omega, by omega⟩)
    have z2 : a * 20 + b ≠ oe j * 20 + ot j := fun q => hab (Or.inl ⟨by omega, by omega⟩)
    rw [ng_low_ne z1, ng_low_ne z2]
def ng_nxt (bd : Int32) (er : Int64) (oe ot wt ct : Nat → Nat) (ne z h : Nat) : Option (Nat × Nat) := match ng_fst (ng_ok bd er oe ot wt ct h z) ne 0 with
  | none => none
  | some e => match ng_nx oe ot e h with
    | none => none
    | some y => some (e, y)
def ng_path (nx : Nat → Option (Nat × Nat)) (z : Nat) : Nat → Nat → List Nat
  | 0, _ => []
  | n + 1, h => if h = z then [] else match nx h with
    | none => []
    | some q => q.1 :: ng_path nx z n q.2
theorem ng_path_z {nx : Nat → Option (Nat × Nat)} {z n : Nat} : ng_path nx z n z = [] := by
  cases n <;> simp [ng_path]
theorem ng_fst_ok {P : Nat → Bool} : ∀ {n i k : Nat}, ng_fst P n i = some k → P k = true ∧ k < i + n ∧ i ≤ k := by
  intro n
  induction n with
  | zero => intro i k h; simp [ng_fst] at h
  | succ n ih =>
    intro i k h
    unfold ng_fst at h
    split at h
    · rename_i hp
      cases h
      exact ⟨hp, by omega, Nat.le_refl _⟩
    · obtain ⟨h1, h2, h3⟩ := ih h
      exact ⟨h1, by omega, by omega⟩
theorem ng_ok_some {bd : Int32} {er : Int64} {oe ot wt ct : Nat → Nat} {h z e : Nat} (q : ng_ok bd er oe ot wt ct h z e = true) : ∃ y, ng_nx oe ot e h = some y ∧ (y = z ∨ nb_t bd y = false) ∧ ct (y * 20 + z) + (ng_w er wt e * 64 + 1) = ct (h * 20 + z) := by
  unfold ng_ok at q
  cases hn : ng_nx oe ot e h with
  | none => rw [hn] at q; cases q
  | some y =>
    rw [hn] at q
    simp only [Bool.and_eq_true, Bool.or_eq_true, decide_eq_true_eq, Bool.not_eq_true'] at q
    exact ⟨y, rfl, q.1, q.2⟩
theorem ng_min {a b : Nat} (ha : a < 2 ^ 31) (hb : b < 2 ^ 31) : (if nI b < nI a then nI b else nI a) = nI (min a b) := by
  by_cases h : b < a
  · rw [if_pos ((nI_ltI hb ha).mpr h), Nat.min_eq_right (by omega)]
  · rw [if_neg (fun q => h ((nI_ltI hb ha).mp q)), Nat.min_eq_left (by omega)]
theorem ng_max {a b : Nat} (ha : a < 2 ^ 31) (hb : b < 2 ^ 31) : (if nI a < nI b then nI b else nI a) = nI (max a b) := by
  by_cases h : a < b
  · rw [if_pos ((nI_ltI ha hb).mpr h), Nat.max_eq_right (by omega)]
  · rw [if_neg (fun q => h ((nI_ltI ha hb).mp q)), Nat.max_eq_left (by omega)]
def ng_set (tr : Nat → Nat) : Nat → Int64
  | 0 => lN 0
  | n + 1 => ng_set tr n ||| nb_p (tr n)
def ng_osg (x : Int64) (sg : Nat → Nat) : Nat → Int32
  | 0 => nI 0
  | n + 1 => if nb_u x n = true then ng_osg x sg n ^^^ nI (sg n) else ng_osg x sg n
def ng_opt (x : Int64) (oe ot : Nat → Nat) : Nat → Int32
  | 0 => nI 0
  | n + 1 => if nb_u x n = true then ng_opt x oe ot n ^^^ (nb_o (oe n) ^^^ nb_o (ot n)) else ng_opt x oe ot n
theorem ng_dropl {α : Type} {l : List α} {n : Nat} (h : l.drop n = []) (hn : n ≤ l.length) : l.length = n := by
  have := congrArg List.length h
  rw [List.length_drop] at this
  simp at this
  omega
theorem ng_dropc {l t : List Nat} {n k : Nat} (h : l.drop n = k :: t) : l[n]? = some k ∧ l.drop (n + 1) = t ∧ n < l.length := by
  have h0 : n < l.length := by
    rcases Nat.lt_or_ge n l.length with q | q
    · exact q
    · rw [List.drop_eq_nil_of_le q] at h; cases h
  rw [List.drop_eq_getElem_cons h0] at h
  injection h with h1 h2
  refine ⟨?_, h2, h0⟩
  rw [List.getElem?_eq_getElem h0, h1]
def ng_te (tl : Nat) (tr : Nat → Nat) (a : Int32) (b : Bool) : Int32 := if nb_in tl a = true then (if b = true then nI (tr (tl - 1 - a.toNatClampNeg)) else nI (tr a.toNatClampNeg)) else -1
theorem ng_trs {l : List Nat} {n k : Nat} {tr1 : Nat → Nat} (h1 : l[n]? = some k) (h : ∀ i, i < n → l[i]? = some (tr1 i)) : ∀ i, i < n + 1 → l[i]? = some (va_up tr1 n k i) := by
  intro i hi
  by_cases q : i = n
  · subst q; rw [va_up_self]; exact h1
  · rw [va_up_ne _ _ q]; exact h i (by omega)
theorem ng_ok_t {bd : Int32} {er : Int64} {oe ot wt ct : Nat → Nat} {h z e y : Nat} (hn : ng_nx oe ot e h = some y) (h1 : y = z ∨ nb_t bd y = false) (h2 : ct (y * 20 + z) + (ng_w er wt e * 64 + 1) = ct (h * 20 + z)) : ng_ok bd er oe ot wt ct h z e = true := by
  unfold ng_ok
  rw [hn]
  show ((decide (y = z) || !nb_t bd y) && decide (ct (y * 20 + z) + (ng_w er wt e * 64 + 1) = ct (h * 20 + z))) = true
  rw [decide_eq_true h2, Bool.and_true]
  rcases h1 with q | q
  · rw [decide_eq_true q, Bool.true_or]
  · rw [q]; simp
theorem ng_ok_0 {bd : Int32} {er : Int64} {oe ot wt ct : Nat → Nat} {h z e : Nat} (hn : ng_nx oe ot e h = none) : ng_ok bd er oe ot wt ct h z e = false := by
  unfold ng_ok
  rw [hn]
theorem ng_ok_1 {bd : Int32} {er : Int64} {oe ot wt ct : Nat → Nat} {h z e y : Nat} (hn : ng_nx oe ot e h = some y) (h1 : y ≠ z) (h2 : nb_t bd y = true) : ng_ok bd er oe ot wt ct h z e = false := by
  unfold ng_ok
  rw [hn]
  show ((decide (y = z) || !nb_t bd y) && decide (ct (y * 20 + z) + (ng_w er wt e * 64 + 1) = ct (h * 20 + z))) = false
  rw [decide_eq_false h1, h2]; rfl
theorem ng_ok_2 {bd : Int32} {er : Int64} {oe ot wt ct : Nat → Nat} {h z e y : Nat} (hn : ng_nx oe ot e h = some y) (h2 : ¬ (ct (y * 20 + z) + (ng_w er wt e * 64 + 1) = ct (h * 20 + z))) : ng_ok bd er oe ot wt ct h z e = false := by
  unfold ng_ok
  rw [hn]
  show ((decide (y = z) || !nb_t bd y) && decide (ct (y * 20 + z) + (ng_w er wt e * 64 + 1) = ct (h * 20 + z))) = false
  rw [decide_eq_false h2, Bool.and_false]
theorem ng_path_s {nx : Nat → Option (Nat × Nat)} {z h n k y : Nat} (hz : h ≠ z) (hn : n < 20) (hx : nx h = some (k, y)) : ng_path nx z (20 - n) h = k :: ng_path nx z (20 - (n + 1)) y := by
  rw [show 20 - n = (20 - (n + 1)) + 1 by omega]
  simp only [ng_path, if_neg hz, hx]
theorem ng_path_n {nx : Nat → Option (Nat × Nat)} {z h n : Nat} (hx : nx h = none) : ng_path nx z n h = [] := by
  cases n with
  | zero => rfl
  | succ n =>
    unfold ng_path
    rw [hx]
    split <;> rfl
theorem ng_path_0 {nx : Nat → Option (Nat × Nat)} {z h n : Nat} (hn : n = 0) : ng_path nx z n h = [] := by
  subst hn; rfl
end
section
set_option maxHeartbeats 4000000 in
set_option maxRecDepth 100000 in
theorem c_P_memberOf (l : Launch) (dC : Nat → ClassId) (dI : Nat → Nat → Nat) (cI cL : ClassId) (x : Int32) (j : Nat) (hj : j < 2 ^ 31) : Met l y_P_memberOf w_P_memberOf ({ frames := 0, cells := 0, slots := 0, locals := 0 } : Room) (va_Pc [.int x, .int (nI j)] (ro_B (dC, dI) classes [(cI, .int), (cL, .long)] [])) (ro_Qi (ng_nth x 20 0 j)) 0 0 ro_A := by
  refine Met.ofW (cc := b_P_memberOf) (maxL := 4) (ret := (some .int)) (by decide) rfl ?_
  intro p e s m args below meth c s₁ B hml hv
  obtain ⟨rfl, hP, hK⟩ := hv
  have hx := B.exec
  have hb := B.bytes
  have hr := B.returns
  have hts := atoms_spec (ws := w_P_memberOf) B.pre
  have hown : s.vm.findClass R_P = some m.cls := findClass_of_methodNamed B.named
  have hlocks := B.notSynchronized
  have hS : va_S ro_A s.heap s.heap [] := va_S.rf
  have hP : va_P (dC, dI) classes [] s.heap := hP
  have hl := lv_entry ([.int x, .int (nI j)]) (n := 4) (Nat.le_of_ble_eq_true rfl)
  rw [lg_entry_eq]
  generalize (lg_sl ([.int x, .int (nI j)]) ++ List.replicate (4 - (lg_sl ([.int x, .int (nI j)])).length) Slot.unset).toArray = ls at hl ⊢
  have hl : lv_has ls 4 [(0, .int x), (1, .int (nI j))] := hl
  refine lv_iload_n hx hb d_P_memberOf_0 rfl (lv_at hl 1 rfl) ?_
  refine lv_istore_n (lv' := [(2, .int (nI j)), (0, .int x), (1, .int (nI j))]) hx hb d_P_memberOf_1 rfl hl (by decide) rfl (fun ls hl => ?_)
  refine lv_iconst (v := nI 0) hx hb d_P_memberOf_2 (by decide) ?_
  refine lv_istore_n (lv' := [(3, .int (nI 0)), (2, .int (nI j)), (0, .int x), (1, .int (nI j))]) hx hb d_P_memberOf_3 rfl hl (by decide) rfl (fun ls hl => ?_)
  have lp_4 : ∀ (n : Nat) (i lf : Nat), (i ≤ 20) → (lf < 2 ^ 31) → (ng_nth x 20 0 j = ng_nth x (20 - i) i lf) → 20 - i < n → ∀ (H : Heap) (locs : List Loc), va_P (dC, dI) classes [] H → va_S ro_A s.heap H locs → ∀ (ls : Array Slot), lv_has ls 4 [(0, .int x), (1, .int (nI j)), (2, .int (nI lf)), (3, .int (nI i))] → W p l e (headSpec w_P_memberOf ({ frames := 0, cells := 0, slots := 0, locals := 0 } : Room)).room s m ([.int x, .int (nI j)] : List Value).toArray below meth c H locs 0 0 (MQ below (ro_Qi (ng_nth x 20 0 j)) ([.int x, .int (nI j)] : List Value).toArray s 0 0 ro_A) (F0 m 4 ls []) := by
    intro n
    induction n with
    | zero => intro i lf hi hlf he hme; exact absurd hme (Nat.not_lt_zero _)
    | succ n ih =>
      intro i lf hi hlf he hme H locs hP hS ls hl
      have ih_4 := ih
      refine lv_iload_n hx hb d_P_memberOf_4 rfl (lv_at hl 3 rfl) ?_
      refine lv_bipush (v := nI 20) hx hb d_P_memberOf_5 (by decide) ?_
      refine nr_icmp_ge (by omega) (by omega) (tgt := 34) hx hb d_P_memberOf_7 (by decide) (fun c_7 => ?_) (fun c_7 => ?_)
      · refine lv_iconst (v := -1) hx hb d_P_memberOf_34 (by decide) ?_
        exact ro_iret hx hb hr hlocks hS (by rw [he, show 20 - i = 0 by omega]; rfl) d_P_memberOf_35
      · refine lv_iload_n hx hb d_P_memberOf_10 rfl (lv_at hl 0 rfl) ?_
        refine lv_iload_n hx hb d_P_memberOf_11 rfl (lv_at hl 3 rfl) ?_
        refine lv_ishr hx hb d_P_memberOf_12 ?_
        refine lv_iconst (v := nI 1) hx hb d_P_memberOf_13 (by decide) ?_
        refine lv_iand hx hb d_P_memberOf_14 ?_
        refine nr_as (v := nb_i (nb_t x i)) (nb_bt_and1 (by omega)) ?_
        refine lv_iconst (v := nI 1) hx hb d_P_memberOf_15 (by decide) ?_
        refine nr_icmpneB1 (tgt := 28) hx hb d_P_memberOf_16 (by decide) (fun c_16 => ?_) (fun c_16 => ?_)
        · refine lv_iinc (v := (nI (i + 1))) (lv' := [(3, .int (nI (i + 1))), (0, .int x), (1, .int (nI j)), (2, .int (nI lf))]) hx hb d_P_memberOf_28 hl (k := 3) rfl (nI_1 i) (by decide) rfl (fun ls hl => ?_)
          refine lv_goto (tgt := 4) hx hb d_P_memberOf_31 (by decide) ?_
          exact ih_4 (i + 1) lf (by omega) (by omega) (he.trans (by first | exact ng_nth_f c_7 c_16 | exact ng_nth_t c_7 c_16 c_20)) (by omega) _ _ hP hS ls (lv_sub hl [1, 2, 3, 0] rfl)
        · refine lv_iload_n hx hb d_P_memberOf_19 rfl (lv_at hl 2 rfl) ?_
          refine nr_if_ne (by omega) (tgt := 25) hx hb d_P_memberOf_20 (by decide) (fun c_20 => ?_) (fun c_20 => ?_)
          · refine lv_iinc (v := (nI (lf - 1))) (lv' := [(2, .int (nI (lf - 1))), (0, .int x), (1, .int (nI j)), (3, .int (nI i))]) hx hb d_P_memberOf_25 hl (k := 2) rfl (nr_dec (by omega)) (by decide) rfl (fun ls hl => ?_)
            refine lv_iinc (v := (nI (i + 1))) (lv' := [(3, .int (nI (i + 1))), (2, .int (nI (lf - 1))), (0, .int x), (1, .int (nI j))]) hx hb d_P_memberOf_28 hl (k := 3) rfl (nI_1 i) (by decide) rfl (fun ls hl => ?_)
            refine lv_goto (tgt := 4) hx hb d_P_memberOf_31 (by decide) ?_
            exact ih_4 (i + 1) (lf - 1) (by omega) (by omega) (he.trans (by first | exact ng_nth_f c_7 c_16 | exact ng_nth_t c_7 c_16 c_20)) (by omega) _ _ hP hS ls (lv_sub hl [2, 3, 1, 0] rfl)
          · refine lv_iload_n hx hb d_P_memberOf_23 rfl (lv_at hl 3 rfl) ?_
            exact ro_iret hx hb hr hlocks hS (by subst c_20; exact (he.trans (ng_nth_0 c_7 c_16)).symm) d_P_memberOf_24
  exact lp_4 (20 - 0 + 1) 0 j (by omega) hj rfl (Nat.lt_succ_self _) _ _ hP hS ls (lv_sub hl [2, 3, 1, 0] rfl)
set_option maxHeartbeats 4000000 in
set_option maxRecDepth 100000 in
theorem c_G_hasPoint (l : Launch) (dC : Nat → ClassId) (dI : Nat → Nat → Nat) (cI cL : ClassId) (g tA oA uA wA sA np ne : Nat) (bd : Int32) (er : Int64) (vr : Nat) (a : Int32)  : Met l y_G_hasPoint w_G_hasPoint ({ frames := 0, cells := 0, slots := 0, locals := 0 } : Room) (va_Pc [.ref g, .int a] (ro_B (dC, dI) classes [(cI, .int), (cL, .long)] [cg_G g tA oA uA wA sA np ne bd er vr])) (ro_Qi (nb_i (nb_in np a))) 0 0 ro_A := by
  refine Met.ofW (cc := b_G_hasPoint) (maxL := 2) (ret := (some .boolean)) (by decide) rfl ?_
  intro p e s m args below meth c s₁ B hml hv
  obtain ⟨rfl, hP, hK⟩ := hv
  have hx := B.exec
  have hb := B.bytes
  have hr := B.returns
  have hts := atoms_spec (ws := w_G_hasPoint) B.pre
  have hown : s.vm.findClass R_G = some m.cls := findClass_of_methodNamed B.named
  have hlocks := B.notSynchronized
  have iG : ∀ w ∈ w_G, w ∈ w_G_hasPoint := fun w h => List.mem_cons_of_mem _ (i_G w h)
  have hS : va_S ro_A s.heap s.heap [] := va_S.rf
  have hP : va_P (dC, dI) classes [cg_G g tA oA uA wA sA np ne bd er vr] s.heap := hP
  have hl := lv_entry ([.ref g, .int a]) (n := 2) (Nat.le_of_ble_eq_true rfl)
  rw [lg_entry_eq]
  generalize (lg_sl ([.ref g, .int a]) ++ List.replicate (2 - (lg_sl ([.ref g, .int a])).length) Slot.unset).toArray = ls at hl ⊢
  have hl : lv_has ls 2 [(0, .ref g), (1, .int a)] := hl
  refine lv_iload_n hx hb d_G_hasPoint_0 rfl (lv_at hl 1 rfl) ?_
  refine lv_if_lt (tgt := 16) hx hb d_G_hasPoint_1 (by decide) (fun c_1 => ?_) (fun c_1 => ?_)
  · refine lv_iconst (v := nI 0) hx hb d_G_hasPoint_16 (by decide) ?_
    exact ro_zret hx hb hr hlocks hS rfl (by simp [nb_i, nb_in, *]) d_G_hasPoint_17
  · refine lv_iload_n hx hb d_G_hasPoint_4 rfl (lv_at hl 1 rfl) ?_
    refine lv_aload_n hx hb d_G_hasPoint_5 rfl (lv_at hl 0 rfl) ?_
    refine va_get (D := (dC, dI)) (ci := 0) (v := .int (nI np)) (C := R_G) (T := F_G) (N := 10) hx hb hts iG hown hK hP 0 rfl rfl 5 (by decide) (hts _ (List.mem_cons_of_mem _ wk_G_27)) (fun _ h9 => h9) rfl d_G_hasPoint_6 ?_
    refine lv_icmp_ge (tgt := 16) hx hb d_G_hasPoint_9 (by decide) (fun c_9 => ?_) (fun c_9 => ?_)
    · refine lv_iconst (v := nI 0) hx hb d_G_hasPoint_16 (by decide) ?_
      exact ro_zret hx hb hr hlocks hS rfl (by simp [nb_i, nb_in, *]) d_G_hasPoint_17
    · refine lv_iconst (v := nI 1) hx hb d_G_hasPoint_12 (by decide) ?_
      refine lv_goto (tgt := 17) hx hb d_G_hasPoint_13 (by decide) ?_
      exact ro_zret hx hb hr hlocks hS rfl (by simp [nb_i, nb_in, *]) d_G_hasPoint_17
set_option maxHeartbeats 4000000 in
set_option maxRecDepth 100000 in
theorem c_G_hasPoints (l : Launch) (dC : Nat → ClassId) (dI : Nat → Nat → Nat) (cI cL : ClassId) (g tA oA uA wA sA np ne : Nat) (bd : Int32) (er : Int64) (vr : Nat) (a : Int32)  : Met l y_G_hasPoints w_G_hasPoints ({ frames := 0, cells := 0, slots := 0, locals := 0 } : Room) (va_Pc [.ref g, .int a] (ro_B (dC, dI) classes [(cI, .int), (cL, .long)] [cg_G g tA oA uA wA sA np ne bd er vr])) (ro_Qi (nb_i (ng_fit np a))) 0 0 ro_A := by
  refine Met.ofW (cc := b_G_hasPoints) (maxL := 2) (ret := (some .boolean)) (by decide) rfl ?_
  intro p e s m args below meth c s₁ B hml hv
  obtain ⟨rfl, hP, hK⟩ := hv
  have hx := B.exec
  have hb := B.bytes
  have hr := B.returns
  have hts := atoms_spec (ws := w_G_hasPoints) B.pre
  have hown : s.vm.findClass R_G = some m.cls := findClass_of_methodNamed B.named
  have hlocks := B.notSynchronized
  have iG : ∀ w ∈ w_G, w ∈ w_G_hasPoints := fun w h => List.mem_cons_of_mem _ (i_G w h)
  have hS : va_S ro_A s.heap s.heap [] := va_S.rf
  have hP : va_P (dC, dI) classes [cg_G g tA oA uA wA sA np ne bd er vr] s.heap := hP
  have hl := lv_entry ([.ref g, .int a]) (n := 2) (Nat.le_of_ble_eq_true rfl)
  rw [lg_entry_eq]
  generalize (lg_sl ([.ref g, .int a]) ++ List.replicate (2 - (lg_sl ([.ref g, .int a])).length) Slot.unset).toArray = ls at hl ⊢
  have hl : lv_has ls 2 [(0, .ref g), (1, .int a)] := hl
  refine lv_iload_n hx hb d_G_hasPoints_0 rfl (lv_at hl 1 rfl) ?_
  refine lv_aload_n hx hb d_G_hasPoints_1 rfl (lv_at hl 0 rfl) ?_
  refine va_get (D := (dC, dI)) (ci := 0) (v := .int (nI np)) (C := R_G) (T := F_G) (N := 10) hx hb hts iG hown hK hP 0 rfl rfl 5 (by decide) (hts _ (List.mem_cons_of_mem _ wk_G_27)) (fun _ h9 => h9) rfl d_G_hasPoints_2 ?_
  refine lv_iushr hx hb d_G_hasPoints_5 rfl ?_
  refine lv_if_ne (tgt := 13) hx hb d_G_hasPoints_6 (by decide) (fun c_6 => ?_) (fun c_6 => ?_)
  · refine lv_iconst (v := nI 0) hx hb d_G_hasPoints_13 (by decide) ?_
    exact ro_zret hx hb hr hlocks hS rfl (by simp [nb_i, ng_fit, *]) d_G_hasPoints_14
  · refine lv_iconst (v := nI 1) hx hb d_G_hasPoints_9 (by decide) ?_
    refine lv_goto (tgt := 14) hx hb d_G_hasPoints_10 (by decide) ?_
    exact ro_zret hx hb hr hlocks hS rfl (by simp [nb_i, ng_fit, *]) d_G_hasPoints_14
set_option maxHeartbeats 4000000 in
set_option maxRecDepth 100000 in
theorem c_G_isBoundary (l : Launch) (dC : Nat → ClassId) (dI : Nat → Nat → Nat) (cI cL : ClassId) (g tA oA uA wA sA np ne : Nat) (bd : Int32) (er : Int64) (vr : Nat) (k : Nat) (hk : k < 32) : Met l y_G_isBoundary w_G_isBoundary ({ frames := 0, cells := 0, slots := 0, locals := 0 } : Room) (va_Pc [.ref g, .int (nI k)] (ro_B (dC, dI) classes [(cI, .int), (cL, .long)] [cg_G g tA oA uA wA sA np ne bd er vr])) (ro_Qi (nb_i (nb_t bd k))) 0 0 ro_A := by
  refine Met.ofW (cc := b_G_isBoundary) (maxL := 2) (ret := (some .boolean)) (by decide) rfl ?_
  intro p e s m args below meth c s₁ B hml hv
  obtain ⟨rfl, hP, hK⟩ := hv
  have hx := B.exec
  have hb := B.bytes
  have hr := B.returns
  have hts := atoms_spec (ws := w_G_isBoundary) B.pre
  have hown : s.vm.findClass R_G = some m.cls := findClass_of_methodNamed B.named
  have hlocks := B.notSynchronized
  have iG : ∀ w ∈ w_G, w ∈ w_G_isBoundary := fun w h => List.mem_cons_of_mem _ (i_G w h)
  have hS : va_S ro_A s.heap s.heap [] := va_S.rf
  have hP : va_P (dC, dI) classes [cg_G g tA oA uA wA sA np ne bd er vr] s.heap := hP
  have hl := lv_entry ([.ref g, .int (nI k)]) (n := 2) (Nat.le_of_ble_eq_true rfl)
  rw [lg_entry_eq]
  generalize (lg_sl ([.ref g, .int (nI k)]) ++ List.replicate (2 - (lg_sl ([.ref g, .int (nI k)])).length) Slot.unset).toArray = ls at hl ⊢
  have hl : lv_has ls 2 [(0, .ref g), (1, .int (nI k))] := hl
  refine lv_aload_n hx hb d_G_isBoundary_0 rfl (lv_at hl 0 rfl) ?_
  refine va_get (D := (dC, dI)) (ci := 0) (v := .int bd) (C := R_G) (T := F_G) (N := 10) hx hb hts iG hown hK hP 0 rfl rfl 7 (by decide) (hts _ (List.mem_cons_of_mem _ wk_G_34)) (fun _ h9 => h9) rfl d_G_isBoundary_1 ?_
  refine lv_iload_n hx hb d_G_isBoundary_4 rfl (lv_at hl 1 rfl) ?_
  refine lv_ishr hx hb d_G_isBoundary_5 ?_
  refine lv_iconst (v := nI 1) hx hb d_G_isBoundary_6 (by decide) ?_
  refine lv_iand hx hb d_G_isBoundary_7 ?_
  refine nr_as (v := nb_i (nb_t bd k)) (nb_bt_and1 (by omega)) ?_
  refine lv_iconst (v := nI 1) hx hb d_G_isBoundary_8 (by decide) ?_
  refine nr_icmpneB1 (tgt := 16) hx hb d_G_isBoundary_9 (by decide) (fun c_9 => ?_) (fun c_9 => ?_)
  · refine lv_iconst (v := nI 0) hx hb d_G_isBoundary_16 (by decide) ?_
    exact ro_zret hx hb hr hlocks hS rfl (by simp [nb_i, *]) d_G_isBoundary_17
  · refine lv_iconst (v := nI 1) hx hb d_G_isBoundary_12 (by decide) ?_
    refine lv_goto (tgt := 17) hx hb d_G_isBoundary_13 (by decide) ?_
    exact ro_zret hx hb hr hlocks hS rfl (by simp [nb_i, *]) d_G_isBoundary_17
set_option maxHeartbeats 4000000 in
set_option maxRecDepth 100000 in
theorem c_G_canJoin (l : Launch) (dC : Nat → ClassId) (dI : Nat → Nat → Nat) (cI cL : ClassId) (g tA oA uA wA sA np ne : Nat) (bd : Int32) (er : Int64) (vr : Nat) (a b : Int32) (hnp : np ≤ 20) : Met l y_G_canJoin w_G_canJoin ({ frames := 1, cells := 0, slots := 0, locals := 21 } : Room) (va_Pc [.ref g, .int a, .int b] (ro_B (dC, dI) classes [(cI, .int), (cL, .long)] [cg_G g tA oA uA wA sA np ne bd er vr])) (ro_Qi (nb_i (ng_join np bd a b))) 0 0 ro_A := by
  refine Met.ofW (cc := b_G_canJoin) (maxL := 3) (ret := (some .boolean)) (by decide) rfl ?_
  intro p e s m args below meth c s₁ B hml hv
  obtain ⟨rfl, hP, hK⟩ := hv
  have hx := B.exec
  have hb := B.bytes
  have hr := B.returns
  have hts := atoms_spec (ws := w_G_canJoin) B.pre
  have hown : s.vm.findClass R_G = some m.cls := findClass_of_methodNamed B.named
  have hlocks := B.notSynchronized
  have hS : va_S ro_A s.heap s.heap [] := va_S.rf
  have hP : va_P (dC, dI) classes [cg_G g tA oA uA wA sA np ne bd er vr] s.heap := hP
  have hl := lv_entry ([.ref g, .int a, .int b]) (n := 3) (Nat.le_of_ble_eq_true rfl)
  rw [lg_entry_eq]
  generalize (lg_sl ([.ref g, .int a, .int b]) ++ List.replicate (3 - (lg_sl ([.ref g, .int a, .int b])).length) Slot.unset).toArray = ls at hl ⊢
  have hl : lv_has ls 3 [(0, .ref g), (1, .int a), (2, .int b)] := hl
  refine lv_aload_n hx hb d_G_canJoin_0 rfl (lv_at hl 0 rfl) ?_
  refine lv_iload_n hx hb d_G_canJoin_1 rfl (lv_at hl 1 rfl) ?_
  refine ro_Vi (As := [.int a]) (rest := []) ⟨hx, hb, hml, hown, hts⟩ (c_G_hasPoint l dC dI cI cL g tA oA uA wA sA np ne bd er vr a ) (cwV 1 hts (wg_V wk_G_48 wm_G_hasPoint we_G_hasPoint wi_G wc_G_hasPoint) rfl rfl rfl (by decide +kernel) ⟨Nat.le_of_ble_eq_true rfl, Nat.le_of_ble_eq_true rfl⟩) hK (hP.sub [0] rfl) (q0 := 0) rfl rfl rfl rfl hl.1 rfl (lv_room (Nat.le_of_ble_eq_true rfl)) d_G_canJoin_2 ⟨Nat.zero_le _, Nat.zero_le _⟩ hS hP (fun H locs hP hS => ?_)
  refine nr_ifeqB (tgt := 41) hx hb d_G_canJoin_5 (by decide) (fun c_5 => ?_) (fun c_5 => ?_)
  · refine lv_iconst (v := nI 0) hx hb d_G_canJoin_41 (by decide) ?_
    exact ro_zret hx hb hr hlocks hS rfl (by first | (have hne : ¬ (nI ja = nI jb) := fun q => c_18 ((nI_eq (by omega) (by omega)).mp q); simp [nb_i, ng_join, *]; done) | (simp [nb_i, ng_join, *]; done)) d_G_canJoin_42
  · refine lv_aload_n hx hb d_G_canJoin_8 rfl (lv_at hl 0 rfl) ?_
    refine lv_iload_n hx hb d_G_canJoin_9 rfl (lv_at hl 2 rfl) ?_
    refine ro_Vi (As := [.int b]) (rest := []) ⟨hx, hb, hml, hown, hts⟩ (c_G_hasPoint l dC dI cI cL g tA oA uA wA sA np ne bd er vr b ) (cwV 1 hts (wg_V wk_G_48 wm_G_hasPoint we_G_hasPoint wi_G wc_G_hasPoint) rfl rfl rfl (by decide +kernel) ⟨Nat.le_of_ble_eq_true rfl, Nat.le_of_ble_eq_true rfl⟩) hK (hP.sub [0] rfl) (q0 := 0) rfl rfl rfl rfl hl.1 rfl (lv_room (Nat.le_of_ble_eq_true rfl)) d_G_canJoin_10 ⟨Nat.zero_le _, Nat.zero_le _⟩ hS hP (fun H locs hP hS => ?_)
    refine nr_ifeqB (tgt := 41) hx hb d_G_canJoin_13 (by decide) (fun c_13 => ?_) (fun c_13 => ?_)
    · refine lv_iconst (v := nI 0) hx hb d_G_canJoin_41 (by decide) ?_
      exact ro_zret hx hb hr hlocks hS rfl (by first | (have hne : ¬ (nI ja = nI jb) := fun q => c_18 ((nI_eq (by omega) (by omega)).mp q); simp [nb_i, ng_join, *]; done) | (simp [nb_i, ng_join, *]; done)) d_G_canJoin_42
    · obtain ⟨ja, hja, rfl⟩ := nb_inI_of (by omega) c_5
      obtain ⟨jb, hjb, rfl⟩ := nb_inI_of (by omega) c_13
      have eja := nI_clamp (n := ja) (by omega)
      have ejb := nI_clamp (n := jb) (by omega)
      refine lv_iload_n hx hb d_G_canJoin_16 rfl (lv_at hl 1 rfl) ?_
      refine lv_iload_n hx hb d_G_canJoin_17 rfl (lv_at hl 2 rfl) ?_
      refine nr_icmp_eq (by omega) (by omega) (tgt := 41) hx hb d_G_canJoin_18 (by decide) (fun c_18 => ?_) (fun c_18 => ?_)
      · refine lv_iconst (v := nI 0) hx hb d_G_canJoin_41 (by decide) ?_
        exact ro_zret hx hb hr hlocks hS rfl (by first | (have hne : ¬ (nI ja = nI jb) := fun q => c_18 ((nI_eq (by omega) (by omega)).mp q); simp [nb_i, ng_join, *]; done) | (simp [nb_i, ng_join, *]; done)) d_G_canJoin_42
      · refine lv_aload_n hx hb d_G_canJoin_21 rfl (lv_at hl 0 rfl) ?_
        refine lv_iload_n hx hb d_G_canJoin_22 rfl (lv_at hl 1 rfl) ?_
        refine ro_Vi (As := [.int (nI ja)]) (rest := []) ⟨hx, hb, hml, hown, hts⟩ (c_G_isBoundary l dC dI cI cL g tA oA uA wA sA np ne bd er vr ja (by omega)) (cwV 1 hts (wg_V wk_G_52 wm_G_isBoundary we_G_isBoundary wi_G wc_G_isBoundary) rfl rfl rfl (by decide +kernel) ⟨Nat.le_of_ble_eq_true rfl, Nat.le_of_ble_eq_true rfl⟩) hK (hP.sub [0] rfl) (q0 := 0) rfl rfl rfl rfl hl.1 rfl (lv_room (Nat.le_of_ble_eq_true rfl)) d_G_canJoin_23 ⟨Nat.zero_le _, Nat.zero_le _⟩ hS hP (fun H locs hP hS => ?_)
        refine nr_ifeqB (tgt := 37) hx hb d_G_canJoin_26 (by decide) (fun c_26 => ?_) (fun c_26 => ?_)
        · refine lv_iconst (v := nI 1) hx hb d_G_canJoin_37 (by decide) ?_
          refine lv_goto (tgt := 42) hx hb d_G_canJoin_38 (by decide) ?_
          exact ro_zret hx hb hr hlocks hS rfl (by first | (have hne : ¬ (nI ja = nI jb) := fun q => c_18 ((nI_eq (by omega) (by omega)).mp q); simp [nb_i, ng_join, *]; done) | (simp [nb_i, ng_join, *]; done)) d_G_canJoin_42
        · refine lv_aload_n hx hb d_G_canJoin_29 rfl (lv_at hl 0 rfl) ?_
          refine lv_iload_n hx hb d_G_canJoin_30 rfl (lv_at hl 2 rfl) ?_
          refine ro_Vi (As := [.int (nI jb)]) (rest := []) ⟨hx, hb, hml, hown, hts⟩ (c_G_isBoundary l dC dI cI cL g tA oA uA wA sA np ne bd er vr jb (by omega)) (cwV 1 hts (wg_V wk_G_52 wm_G_isBoundary we_G_isBoundary wi_G wc_G_isBoundary) rfl rfl rfl (by decide +kernel) ⟨Nat.le_of_ble_eq_true rfl, Nat.le_of_ble_eq_true rfl⟩) hK (hP.sub [0] rfl) (q0 := 0) rfl rfl rfl rfl hl.1 rfl (lv_room (Nat.le_of_ble_eq_true rfl)) d_G_canJoin_31 ⟨Nat.zero_le _, Nat.zero_le _⟩ hS hP (fun H locs hP hS => ?_)
          refine nr_ifneB (tgt := 41) hx hb d_G_canJoin_34 (by decide) (fun c_34 => ?_) (fun c_34 => ?_)
          · refine lv_iconst (v := nI 0) hx hb d_G_canJoin_41 (by decide) ?_
            exact ro_zret hx hb hr hlocks hS rfl (by first | (have hne : ¬ (nI ja = nI jb) := fun q => c_18 ((nI_eq (by omega) (by omega)).mp q); simp [nb_i, ng_join, *]; done) | (simp [nb_i, ng_join, *]; done)) d_G_canJoin_42
          · refine lv_iconst (v := nI 1) hx hb d_G_canJoin_37 (by decide) ?_
            refine lv_goto (tgt := 42) hx hb d_G_canJoin_38 (by decide) ?_
            exact ro_zret hx hb hr hlocks hS rfl (by first | (have hne : ¬ (nI ja = nI jb) := fun q => c_18 ((nI_eq (by omega) (by omega)).mp q); simp [nb_i, ng_join, *]; done) | (simp [nb_i, ng_join, *]; done)) d_G_canJoin_42
set_option maxHeartbeats 4000000 in
set_option maxRecDepth 100000 in
theorem c_G_hasEdge (l : Launch) (dC : Nat → ClassId) (dI : Nat → Nat → Nat) (cI cL : ClassId) (g tA oA uA wA sA np ne : Nat) (bd : Int32) (er : Int64) (vr : Nat) (a : Int32)  : Met l y_G_hasEdge w_G_hasEdge ({ frames := 0, cells := 0, slots := 0, locals := 0 } : Room) (va_Pc [.ref g, .int a] (ro_B (dC, dI) classes [(cI, .int), (cL, .long)] [cg_G g tA oA uA wA sA np ne bd er vr])) (ro_Qi (nb_i (nb_in ne a))) 0 0 ro_A := by
  refine Met.ofW (cc := b_G_hasEdge) (maxL := 2) (ret := (some .boolean)) (by decide) rfl ?_
  intro p e s m args below meth c s₁ B hml hv
  obtain ⟨rfl, hP, hK⟩ := hv
  have hx := B.exec
  have hb := B.bytes
  have hr := B.returns
  have hts := atoms_spec (ws := w_G_hasEdge) B.pre
  have hown : s.vm.findClass R_G = some m.cls := findClass_of_methodNamed B.named
  have hlocks := B.notSynchronized
  have iG : ∀ w ∈ w_G, w ∈ w_G_hasEdge := fun w h => List.mem_cons_of_mem _ (i_G w h)
  have hS : va_S ro_A s.heap s.heap [] := va_S.rf
  have hP : va_P (dC, dI) classes [cg_G g tA oA uA wA sA np ne bd er vr] s.heap := hP
  have hl := lv_entry ([.ref g, .int a]) (n := 2) (Nat.le_of_ble_eq_true rfl)
  rw [lg_entry_eq]
  generalize (lg_sl ([.ref g, .int a]) ++ List.replicate (2 - (lg_sl ([.ref g, .int a])).length) Slot.unset).toArray = ls at hl ⊢
  have hl : lv_has ls 2 [(0, .ref g), (1, .int a)] := hl
  refine lv_iload_n hx hb d_G_hasEdge_0 rfl (lv_at hl 1 rfl) ?_
  refine lv_if_lt (tgt := 16) hx hb d_G_hasEdge_1 (by decide) (fun c_1 => ?_) (fun c_1 => ?_)
  · refine lv_iconst (v := nI 0) hx hb d_G_hasEdge_16 (by decide) ?_
    exact ro_zret hx hb hr hlocks hS rfl (by simp [nb_i, nb_in, *]) d_G_hasEdge_17
  · refine lv_iload_n hx hb d_G_hasEdge_4 rfl (lv_at hl 1 rfl) ?_
    refine lv_aload_n hx hb d_G_hasEdge_5 rfl (lv_at hl 0 rfl) ?_
    refine va_get (D := (dC, dI)) (ci := 0) (v := .int (nI ne)) (C := R_G) (T := F_G) (N := 10) hx hb hts iG hown hK hP 0 rfl rfl 6 (by decide) (hts _ (List.mem_cons_of_mem _ wk_G_31)) (fun _ h9 => h9) rfl d_G_hasEdge_6 ?_
    refine lv_icmp_ge (tgt := 16) hx hb d_G_hasEdge_9 (by decide) (fun c_9 => ?_) (fun c_9 => ?_)
    · refine lv_iconst (v := nI 0) hx hb d_G_hasEdge_16 (by decide) ?_
      exact ro_zret hx hb hr hlocks hS rfl (by simp [nb_i, nb_in, *]) d_G_hasEdge_17
    · refine lv_iconst (v := nI 1) hx hb d_G_hasEdge_12 (by decide) ?_
      refine lv_goto (tgt := 17) hx hb d_G_hasEdge_13 (by decide) ?_
      exact ro_zret hx hb hr hlocks hS rfl (by simp [nb_i, nb_in, *]) d_G_hasEdge_17
set_option maxHeartbeats 4000000 in
set_option maxRecDepth 100000 in
theorem c_G_hasEdges (l : Launch) (dC : Nat → ClassId) (dI : Nat → Nat → Nat) (cI cL : ClassId) (g tA oA uA wA sA np ne : Nat) (bd : Int32) (er : Int64) (vr : Nat) (a : Int64)  : Met l y_G_hasEdges w_G_hasEdges ({ frames := 0, cells := 0, slots := 0, locals := 0 } : Room) (va_Pc [.ref g, .long a] (ro_B (dC, dI) classes [(cI, .int), (cL, .long)] [cg_G g tA oA uA wA sA np ne bd er vr])) (ro_Qi (nb_i (ng_fitL ne a))) 0 0 ro_A := by
  refine Met.ofW (cc := b_G_hasEdges) (maxL := 3) (ret := (some .boolean)) (by decide) rfl ?_
  intro p e s m args below meth c s₁ B hml hv
  obtain ⟨rfl, hP, hK⟩ := hv
  have hx := B.exec
  have hb := B.bytes
  have hr := B.returns
  have hts := atoms_spec (ws := w_G_hasEdges) B.pre
  have hown : s.vm.findClass R_G = some m.cls := findClass_of_methodNamed B.named
  have hlocks := B.notSynchronized
  have iG : ∀ w ∈ w_G, w ∈ w_G_hasEdges := fun w h => List.mem_cons_of_mem _ (i_G w h)
  have hS : va_S ro_A s.heap s.heap [] := va_S.rf
  have hP : va_P (dC, dI) classes [cg_G g tA oA uA wA sA np ne bd er vr] s.heap := hP
  have hl := lv_entry ([.ref g, .long a]) (n := 3) (Nat.le_of_ble_eq_true rfl)
  rw [lg_entry_eq]
  generalize (lg_sl ([.ref g, .long a]) ++ List.replicate (3 - (lg_sl ([.ref g, .long a])).length) Slot.unset).toArray = ls at hl ⊢
  have hl : lv_has ls 3 [(0, .ref g), (1, .long a)] := hl
  refine lv_lload_n hx hb d_G_hasEdges_0 rfl (lv_at hl 1 rfl) ?_
  refine lv_aload_n hx hb d_G_hasEdges_1 rfl (lv_at hl 0 rfl) ?_
  refine va_get (D := (dC, dI)) (ci := 0) (v := .int (nI ne)) (C := R_G) (T := F_G) (N := 10) hx hb hts iG hown hK hP 0 rfl rfl 6 (by decide) (hts _ (List.mem_cons_of_mem _ wk_G_31)) (fun _ h9 => h9) rfl d_G_hasEdges_2 ?_
  refine lv_lushr hx hb d_G_hasEdges_5 rfl ?_
  refine lv_lconst (v := lN 0) hx hb d_G_hasEdges_6 (by decide) ?_
  refine W.lcmp hx hb d_G_hasEdges_7 ?_
  refine nr_lraw_ne (tgt := 15) hx hb d_G_hasEdges_8 (by decide) (fun c_8 => ?_) (fun c_8 => ?_)
  · refine lv_iconst (v := nI 0) hx hb d_G_hasEdges_15 (by decide) ?_
    exact ro_zret hx hb hr hlocks hS rfl (by simp [nb_i, ng_fitL, *]) d_G_hasEdges_16
  · refine lv_iconst (v := nI 1) hx hb d_G_hasEdges_11 (by decide) ?_
    refine lv_goto (tgt := 16) hx hb d_G_hasEdges_12 (by decide) ?_
    exact ro_zret hx hb hr hlocks hS rfl (by simp [nb_i, ng_fitL, *]) d_G_hasEdges_16
set_option maxHeartbeats 4000000 in
set_option maxRecDepth 100000 in
theorem c_G_hasRoomFor (l : Launch) (dC : Nat → ClassId) (dI : Nat → Nat → Nat) (cI cL : ClassId) (g tA oA uA wA sA np ne : Nat) (bd : Int32) (er : Int64) (vr : Nat) (k : Nat) (hne : ne ≤ 60) (hk : k ≤ 60) : Met l y_G_hasRoomFor w_G_hasRoomFor ({ frames := 0, cells := 0, slots := 0, locals := 0 } : Room) (va_Pc [.ref g, .int (nI k)] (ro_B (dC, dI) classes [(cI, .int), (cL, .long)] [cg_G g tA oA uA wA sA np ne bd er vr])) (ro_Qi (nb_i (decide (ne + k ≤ 60)))) 0 0 ro_A := by
  refine Met.ofW (cc := b_G_hasRoomFor) (maxL := 2) (ret := (some .boolean)) (by decide) rfl ?_
  intro p e s m args below meth c s₁ B hml hv
  obtain ⟨rfl, hP, hK⟩ := hv
  have hx := B.exec
  have hb := B.bytes
  have hr := B.returns
  have hts := atoms_spec (ws := w_G_hasRoomFor) B.pre
  have hown : s.vm.findClass R_G = some m.cls := findClass_of_methodNamed B.named
  have hlocks := B.notSynchronized
  have iG : ∀ w ∈ w_G, w ∈ w_G_hasRoomFor := fun w h => List.mem_cons_of_mem _ (i_G w h)
  have hS : va_S ro_A s.heap s.heap [] := va_S.rf
  have hP : va_P (dC, dI) classes [cg_G g tA oA uA wA sA np ne bd er vr] s.heap := hP
  have hl := lv_entry ([.ref g, .int (nI k)]) (n := 2) (Nat.le_of_ble_eq_true rfl)
  rw [lg_entry_eq]
  generalize (lg_sl ([.ref g, .int (nI k)]) ++ List.replicate (2 - (lg_sl ([.ref g, .int (nI k)])).length) Slot.unset).toArray = ls at hl ⊢
  have hl : lv_has ls 2 [(0, .ref g), (1, .int (nI k))] := hl
  refine lv_aload_n hx hb d_G_hasRoomFor_0 rfl (lv_at hl 0 rfl) ?_
  refine va_get (D := (dC, dI)) (ci := 0) (v := .int (nI ne)) (C := R_G) (T := F_G) (N := 10) hx hb hts iG hown hK hP 0 rfl rfl 6 (by decide) (hts _ (List.mem_cons_of_mem _ wk_G_31)) (fun _ h9 => h9) rfl d_G_hasRoomFor_1 ?_
  refine lv_iload_n hx hb d_G_hasRoomFor_4 rfl (lv_at hl 1 rfl) ?_
  refine nr_iadd hx hb d_G_hasRoomFor_5 ?_
  refine lv_bipush (v := nI 60) hx hb d_G_hasRoomFor_6 (by decide) ?_
  refine nr_icmp_gt (by omega) (by omega) (tgt := 15) hx hb d_G_hasRoomFor_8 (by decide) (fun c_8 => ?_) (fun c_8 => ?_)
  · refine lv_iconst (v := nI 0) hx hb d_G_hasRoomFor_15 (by decide) ?_
    exact ro_zret hx hb hr hlocks hS rfl (by simp [nb_i]; omega) d_G_hasRoomFor_16
  · refine lv_iconst (v := nI 1) hx hb d_G_hasRoomFor_11 (by decide) ?_
    refine lv_goto (tgt := 16) hx hb d_G_hasRoomFor_12 (by decide) ?_
    exact ro_zret hx hb hr hlocks hS rfl (by simp [nb_i]; omega) d_G_hasRoomFor_16
set_option maxHeartbeats 4000000 in
set_option maxRecDepth 100000 in
theorem c_G_isErased (l : Launch) (dC : Nat → ClassId) (dI : Nat → Nat → Nat) (cI cL : ClassId) (g tA oA uA wA sA np ne : Nat) (bd : Int32) (er : Int64) (vr : Nat) (k : Nat) (hk : k < 64) : Met l y_G_isErased w_G_isErased ({ frames := 0, cells := 0, slots := 0, locals := 0 } : Room) (va_Pc [.ref g, .int (nI k)] (ro_B (dC, dI) classes [(cI, .int), (cL, .long)] [cg_G g tA oA uA wA sA np ne bd er vr])) (ro_Qi (nb_i (nb_u er k))) 0 0 ro_A := by
  refine Met.ofW (cc := b_G_isErased) (maxL := 2) (ret := (some .boolean)) (by decide) rfl ?_
  intro p e s m args below meth c s₁ B hml hv
  obtain ⟨rfl, hP, hK⟩ := hv
  have hx := B.exec
  have hb := B.bytes
  have hr := B.returns
  have hts := atoms_spec (ws := w_G_isErased) B.pre
  have hown : s.vm.findClass R_G = some m.cls := findClass_of_methodNamed B.named
  have hlocks := B.notSynchronized
  have iG : ∀ w ∈ w_G, w ∈ w_G_isErased := fun w h => List.mem_cons_of_mem _ (i_G w h)
  have hS : va_S ro_A s.heap s.heap [] := va_S.rf
  have hP : va_P (dC, dI) classes [cg_G g tA oA uA wA sA np ne bd er vr] s.heap := hP
  have hl := lv_entry ([.ref g, .int (nI k)]) (n := 2) (Nat.le_of_ble_eq_true rfl)
  rw [lg_entry_eq]
  generalize (lg_sl ([.ref g, .int (nI k)]) ++ List.replicate (2 - (lg_sl ([.ref g, .int (nI k)])).length) Slot.unset).toArray = ls at hl ⊢
  have hl : lv_has ls 2 [(0, .ref g), (1, .int (nI k))] := hl
  refine lv_aload_n hx hb d_G_isErased_0 rfl (lv_at hl 0 rfl) ?_
  refine va_get (D := (dC, dI)) (ci := 0) (v := .long er) (C := R_G) (T := F_G) (N := 10) hx hb hts iG hown hK hP 0 rfl rfl 8 (by decide) (hts _ (List.mem_cons_of_mem _ wk_G_37)) (fun _ h9 => h9) rfl d_G_isErased_1 ?_
  refine lv_iload_n hx hb d_G_isErased_4 rfl (lv_at hl 1 rfl) ?_
  refine lv_lshr hx hb d_G_isErased_5 rfl ?_
  refine lv_lconst (v := lN 1) hx hb d_G_isErased_6 (by decide) ?_
  refine lv_land hx hb d_G_isErased_7 ?_
  refine nr_asL (v := nb_l (nb_u er k)) (nb_lbt_and1 (by omega)) ?_
  refine lv_lconst (v := lN 1) hx hb d_G_isErased_8 (by decide) ?_
  refine W.lcmp hx hb d_G_isErased_9 ?_
  refine nr_lifneB (tgt := 17) hx hb d_G_isErased_10 (by decide) (fun c_10 => ?_) (fun c_10 => ?_)
  · refine lv_iconst (v := nI 0) hx hb d_G_isErased_17 (by decide) ?_
    exact ro_zret hx hb hr hlocks hS rfl (by simp [nb_i, *]) d_G_isErased_18
  · refine lv_iconst (v := nI 1) hx hb d_G_isErased_13 (by decide) ?_
    refine lv_goto (tgt := 18) hx hb d_G_isErased_14 (by decide) ?_
    exact ro_zret hx hb hr hlocks hS rfl (by simp [nb_i, *]) d_G_isErased_18
set_option maxHeartbeats 4000000 in
set_option maxRecDepth 100000 in
theorem c_G_weightNow (l : Launch) (dC : Nat → ClassId) (dI : Nat → Nat → Nat) (cI cL : ClassId) (g tA oA uA wA sA np ne : Nat) (bd : Int32) (er : Int64) (vr : Nat) (wt : Nat → Nat) (k : Nat) (hk : k < 60) : Met l y_G_weightNow w_G_weightNow ({ frames := 0, cells := 0, slots := 0, locals := 0 } : Room) (va_Pc [.ref g, .int (nI k)] (ro_B (dC, dI) classes [(cI, .int), (cL, .long)] [cg_G g tA oA uA wA sA np ne bd er vr, cg_N wA cI 60 wt])) (ro_Qi (nI (ng_w er wt k))) 0 0 ro_A := by
  refine Met.ofW (cc := b_G_weightNow) (maxL := 2) (ret := (some .int)) (by decide) rfl ?_
  intro p e s m args below meth c s₁ B hml hv
  obtain ⟨rfl, hP, hK⟩ := hv
  have hx := B.exec
  have hb := B.bytes
  have hr := B.returns
  have hts := atoms_spec (ws := w_G_weightNow) B.pre
  have hown : s.vm.findClass R_G = some m.cls := findClass_of_methodNamed B.named
  have hlocks := B.notSynchronized
  have iG : ∀ w ∈ w_G, w ∈ w_G_weightNow := fun w h => List.mem_cons_of_mem _ (i_G w h)
  have hS : va_S ro_A s.heap s.heap [] := va_S.rf
  have hP : va_P (dC, dI) classes [cg_G g tA oA uA wA sA np ne bd er vr, cg_N wA cI 60 wt] s.heap := hP
  have hl := lv_entry ([.ref g, .int (nI k)]) (n := 2) (Nat.le_of_ble_eq_true rfl)
  rw [lg_entry_eq]
  generalize (lg_sl ([.ref g, .int (nI k)]) ++ List.replicate (2 - (lg_sl ([.ref g, .int (nI k)])).length) Slot.unset).toArray = ls at hl ⊢
  have hl : lv_has ls 2 [(0, .ref g), (1, .int (nI k))] := hl
  refine lv_aload_n hx hb d_G_weightNow_0 rfl (lv_at hl 0 rfl) ?_
  refine va_get (D := (dC, dI)) (ci := 0) (v := .long er) (C := R_G) (T := F_G) (N := 10) hx hb hts iG hown hK hP 0 rfl rfl 8 (by decide) (hts _ (List.mem_cons_of_mem _ wk_G_37)) (fun _ h9 => h9) rfl d_G_weightNow_1 ?_
  refine lv_iload_n hx hb d_G_weightNow_4 rfl (lv_at hl 1 rfl) ?_
  refine lv_lshr hx hb d_G_weightNow_5 rfl ?_
  refine lv_lconst (v := lN 1) hx hb d_G_weightNow_6 (by decide) ?_
  refine lv_land hx hb d_G_weightNow_7 ?_
  refine nr_asL (v := nb_l (nb_u er k)) (nb_lbt_and1 (by omega)) ?_
  refine lv_lconst (v := lN 1) hx hb d_G_weightNow_8 (by decide) ?_
  refine W.lcmp hx hb d_G_weightNow_9 ?_
  refine nr_lifneB (tgt := 17) hx hb d_G_weightNow_10 (by decide) (fun c_10 => ?_) (fun c_10 => ?_)
  · refine lv_aload_n hx hb d_G_weightNow_17 rfl (lv_at hl 0 rfl) ?_
    refine va_get (D := (dC, dI)) (ci := 0) (v := .ref wA) (C := R_G) (T := F_G) (N := 10) hx hb hts iG hown hK hP 0 rfl rfl 3 (by decide) (hts _ (List.mem_cons_of_mem _ wk_G_21)) (fun _ h9 => h9) rfl d_G_weightNow_18 ?_
    refine lv_iload_n hx hb d_G_weightNow_21 rfl (lv_at hl 1 rfl) ?_
    refine nr_iald hx hb hK hP 1 0 rfl rfl (by omega) (by decide) d_G_weightNow_22 ?_
    exact ro_iret hx hb hr hlocks hS (by simp [ng_w, *]) d_G_weightNow_23
  · refine lv_iconst (v := nI 0) hx hb d_G_weightNow_13 (by decide) ?_
    refine lv_goto (tgt := 23) hx hb d_G_weightNow_14 (by decide) ?_
    exact ro_iret hx hb hr hlocks hS (by simp [ng_w, *]) d_G_weightNow_23
set_option maxHeartbeats 4000000 in
set_option maxRecDepth 100000 in
theorem c_G_endBeyond (l : Launch) (dC : Nat → ClassId) (dI : Nat → Nat → Nat) (cI cL : ClassId) (g tA oA uA wA sA np ne : Nat) (bd : Int32) (er : Int64) (vr : Nat) (oe ot : Nat → Nat) (k x : Nat) (hk : k < 60) (hx1 : x < 2 ^ 31) (ho : oe k < 2 ^ 31) (hu : ot k < 2 ^ 31) : Met l y_G_endBeyond w_G_endBeyond ({ frames := 0, cells := 0, slots := 0, locals := 0 } : Room) (va_Pc [.ref g, .int (nI k), .int (nI x)] (ro_B (dC, dI) classes [(cI, .int), (cL, .long)] [cg_G g tA oA uA wA sA np ne bd er vr, cg_N oA cI 60 oe, cg_N uA cI 60 ot])) (ro_Qi (ng_oi (ng_nx oe ot k x))) 0 0 ro_A := by
  refine Met.ofW (cc := b_G_endBeyond) (maxL := 3) (ret := (some .int)) (by decide) rfl ?_
  intro p e s m args below meth c s₁ B hml hv
  obtain ⟨rfl, hP, hK⟩ := hv
  have hx := B.exec
  have hb := B.bytes
  have hr := B.returns
  have hts := atoms_spec (ws := w_G_endBeyond) B.pre
  have hown : s.vm.findClass R_G = some m.cls := findClass_of_methodNamed B.named
  have hlocks := B.notSynchronized
  have iG : ∀ w ∈ w_G, w ∈ w_G_endBeyond := fun w h => List.mem_cons_of_mem _ (i_G w h)
  have hS : va_S ro_A s.heap s.heap [] := va_S.rf
  have hP : va_P (dC, dI) classes [cg_G g tA oA uA wA sA np ne bd er vr, cg_N oA cI 60 oe, cg_N uA cI 60 ot] s.heap := hP
  have hl := lv_entry ([.ref g, .int (nI k), .int (nI x)]) (n := 3) (Nat.le_of_ble_eq_true rfl)
  rw [lg_entry_eq]
  generalize (lg_sl ([.ref g, .int (nI k), .int (nI x)]) ++ List.replicate (3 - (lg_sl ([.ref g, .int (nI k), .int (nI x)])).length) Slot.unset).toArray = ls at hl ⊢
  have hl : lv_has ls 3 [(0, .ref g), (1, .int (nI k)), (2, .int (nI x))] := hl
  refine lv_aload_n hx hb d_G_endBeyond_0 rfl (lv_at hl 0 rfl) ?_
  refine va_get (D := (dC, dI)) (ci := 0) (v := .ref oA) (C := R_G) (T := F_G) (N := 10) hx hb hts iG hown hK hP 0 rfl rfl 1 (by decide) (hts _ (List.mem_cons_of_mem _ wk_G_15)) (fun _ h9 => h9) rfl d_G_endBeyond_1 ?_
  refine lv_iload_n hx hb d_G_endBeyond_4 rfl (lv_at hl 1 rfl) ?_
  refine nr_iald hx hb hK hP 1 0 rfl rfl (by omega) (by decide) d_G_endBeyond_5 ?_
  refine lv_iload_n hx hb d_G_endBeyond_6 rfl (lv_at hl 2 rfl) ?_
  refine nr_icmp_ne (by omega) (by omega) (tgt := 17) hx hb d_G_endBeyond_7 (by decide) (fun c_7 => ?_) (fun c_7 => ?_)
  · refine lv_aload_n hx hb d_G_endBeyond_17 rfl (lv_at hl 0 rfl) ?_
    refine va_get (D := (dC, dI)) (ci := 0) (v := .ref uA) (C := R_G) (T := F_G) (N := 10) hx hb hts iG hown hK hP 0 rfl rfl 2 (by decide) (hts _ (List.mem_cons_of_mem _ wk_G_18)) (fun _ h9 => h9) rfl d_G_endBeyond_18 ?_
    refine lv_iload_n hx hb d_G_endBeyond_21 rfl (lv_at hl 1 rfl) ?_
    refine nr_iald hx hb hK hP 2 0 rfl rfl (by omega) (by decide) d_G_endBeyond_22 ?_
    refine lv_iload_n hx hb d_G_endBeyond_23 rfl (lv_at hl 2 rfl) ?_
    refine nr_icmp_ne (by omega) (by omega) (tgt := 36) hx hb d_G_endBeyond_24 (by decide) (fun c_24 => ?_) (fun c_24 => ?_)
    · refine lv_iconst (v := -1) hx hb d_G_endBeyond_36 (by decide) ?_
      exact ro_iret hx hb hr hlocks hS (by simp [ng_oi, ng_nx, *]) d_G_endBeyond_37
    · refine lv_aload_n hx hb d_G_endBeyond_27 rfl (lv_at hl 0 rfl) ?_
      refine va_get (D := (dC, dI)) (ci := 0) (v := .ref oA) (C := R_G) (T := F_G) (N := 10) hx hb hts iG hown hK hP 0 rfl rfl 1 (by decide) (hts _ (List.mem_cons_of_mem _ wk_G_15)) (fun _ h9 => h9) rfl d_G_endBeyond_28 ?_
      refine lv_iload_n hx hb d_G_endBeyond_31 rfl (lv_at hl 1 rfl) ?_
      refine nr_iald hx hb hK hP 1 0 rfl rfl (by omega) (by decide) d_G_endBeyond_32 ?_
      refine lv_goto (tgt := 37) hx hb d_G_endBeyond_33 (by decide) ?_
      exact ro_iret hx hb hr hlocks hS (by simp [ng_oi, ng_nx, *]) d_G_endBeyond_37
  · refine lv_aload_n hx hb d_G_endBeyond_10 rfl (lv_at hl 0 rfl) ?_
    refine va_get (D := (dC, dI)) (ci := 0) (v := .ref uA) (C := R_G) (T := F_G) (N := 10) hx hb hts iG hown hK hP 0 rfl rfl 2 (by decide) (hts _ (List.mem_cons_of_mem _ wk_G_18)) (fun _ h9 => h9) rfl d_G_endBeyond_11 ?_
    refine lv_iload_n hx hb d_G_endBeyond_14 rfl (lv_at hl 1 rfl) ?_
    refine nr_iald hx hb hK hP 2 0 rfl rfl (by omega) (by decide) d_G_endBeyond_15 ?_
    exact ro_iret hx hb hr hlocks hS (by simp [ng_oi, ng_nx, *]) d_G_endBeyond_16
set_option maxHeartbeats 4000000 in
set_option maxRecDepth 100000 in
theorem c_G_addPoint (l : Launch) (dC : Nat → ClassId) (dI : Nat → Nat → Nat) (cI cL : ClassId) (g tA oA uA wA sA np ne : Nat) (bd : Int32) (er : Int64) (vr : Nat) (tm : Nat → Nat) (b : Bool) (t : Nat) (hnp : np < 20) : Met l y_G_addPoint w_G_addPoint ({ frames := 0, cells := 0, slots := 0, locals := 0 } : Room) (va_Pc [.ref g, .int (nb_i b), .int (nI t)] (rw_B (dC, dI) classes [(cI, .int), (cL, .long)] [cg_G g tA oA uA wA sA np ne bd er vr, cg_N tA cI 20 tm])) (rw_Qi (dC, dI) classes (rw_A [cg_G g tA oA uA wA sA np ne bd er vr, cg_N tA cI 20 tm]) (fun r (u : Unit) => r = (nI np)) (fun u => [cg_G g tA oA uA wA sA (np + 1) ne (ng_bd b bd np) er (vr + 1), cg_N tA cI 20 (va_up tm np t)])) 0 0 (rw_A [cg_G g tA oA uA wA sA np ne bd er vr, cg_N tA cI 20 tm]) := by
  refine Met.ofW (cc := b_G_addPoint) (maxL := 4) (ret := (some .int)) (by decide) rfl ?_
  intro p e s m args below meth c s₁ B hml hv
  obtain ⟨rfl, hP, hK, hD0⟩ := hv
  have hx := B.exec
  have hb := B.bytes
  have hr := B.returns
  have hts := atoms_spec (ws := w_G_addPoint) B.pre
  have hown : s.vm.findClass R_G = some m.cls := findClass_of_methodNamed B.named
  have hlocks := B.notSynchronized
  have iG : ∀ w ∈ w_G, w ∈ w_G_addPoint := fun w h => List.mem_cons_of_mem _ (i_G w h)
  have hD := rw_own hD0
  generalize hAe : rw_A [cg_G g tA oA uA wA sA np ne bd er vr, cg_N tA cI 20 tm] = A at hD ⊢
  have hS : va_S A s.heap s.heap [] := va_S.rf
  have hP : va_P (dC, dI) classes [cg_G g tA oA uA wA sA np ne bd er vr, cg_N tA cI 20 tm] s.heap := hP
  have hl := lv_entry ([.ref g, .int (nb_i b), .int (nI t)]) (n := 4) (Nat.le_of_ble_eq_true rfl)
  rw [lg_entry_eq]
  generalize (lg_sl ([.ref g, .int (nb_i b), .int (nI t)]) ++ List.replicate (4 - (lg_sl ([.ref g, .int (nb_i b), .int (nI t)])).length) Slot.unset).toArray = ls at hl ⊢
  have hl : lv_has ls 4 [(0, .ref g), (1, .int (nb_i b)), (2, .int (nI t))] := hl
  refine lv_aload_n hx hb d_G_addPoint_0 rfl (lv_at hl 0 rfl) ?_
  refine va_get (D := (dC, dI)) (ci := 0) (v := .int (nI np)) (C := R_G) (T := F_G) (N := 10) hx hb hts iG hown hK hP 0 rfl rfl 5 (by decide) (hts _ (List.mem_cons_of_mem _ wk_G_27)) (fun _ h9 => h9) rfl d_G_addPoint_1 ?_
  refine lv_istore_n (lv' := [(3, .int (nI np)), (0, .ref g), (1, .int (nb_i b)), (2, .int (nI t))]) hx hb d_G_addPoint_4 rfl hl (by decide) rfl (fun ls hl => ?_)
  refine lv_aload_n hx hb d_G_addPoint_5 rfl (lv_at hl 1 rfl) ?_
  refine va_get (D := (dC, dI)) (ci := 0) (v := .ref tA) (C := R_G) (T := F_G) (N := 10) hx hb hts iG hown hK hP 0 rfl rfl 0 (by decide) (hts _ (List.mem_cons_of_mem _ wk_G_9)) (fun _ h9 => h9) rfl d_G_addPoint_6 ?_
  refine lv_iload_n hx hb d_G_addPoint_9 rfl (lv_at hl 0 rfl) ?_
  refine lv_iload_n hx hb d_G_addPoint_10 rfl (lv_at hl 3 rfl) ?_
  refine nr_iast hx hb hK hP hD hS 1 0 rfl rfl (by omega) (by decide) d_G_addPoint_11 (fun H locs hP hD hS => ?_)
  have hP : va_P (dC, dI) classes [cg_G g tA oA uA wA sA np ne bd er vr, cg_N tA cI 20 (va_up tm np t)] H := hP
  have hD : va_D A [cg_G g tA oA uA wA sA np ne bd er vr, cg_N tA cI 20 (va_up tm np t)] := hD
  refine lv_iload_n hx hb d_G_addPoint_12 rfl (lv_at hl 2 rfl) ?_
  refine nr_ifeqB (tgt := 28) hx hb d_G_addPoint_13 (by decide) (fun c_13 => ?_) (fun c_13 => ?_)
  · subst c_13
    refine lv_aload_n hx hb d_G_addPoint_28 rfl (lv_at hl 1 rfl) ?_
    refine lv_dup hx hb d_G_addPoint_29 rfl ?_
    refine va_get (D := (dC, dI)) (ci := 0) (v := .int (nI np)) (C := R_G) (T := F_G) (N := 10) hx hb hts iG hown hK hP 0 rfl rfl 5 (by decide) (hts _ (List.mem_cons_of_mem _ wk_G_27)) (fun _ h9 => h9) rfl d_G_addPoint_30 ?_
    refine lv_iconst (v := nI 1) hx hb d_G_addPoint_33 (by decide) ?_
    refine nr_iadd hx hb d_G_addPoint_34 ?_
    refine va_put (D := (dC, dI)) (ci := 0) (v := .int (nI (np + 1))) (ty := .int) (C := R_G) (T := F_G) (N := 10) hx hb hts iG t_G t_G_ok n_G hown hK hP hD hS 0 rfl rfl 5 (by decide) (hts _ (List.mem_cons_of_mem _ wk_G_27)) (fun _ h9 => h9) rfl (by decide +kernel) rfl rfl (Nat.le_of_ble_eq_true rfl) d_G_addPoint_35 (fun H locs hP hD hS => ?_)
    have hP : va_P (dC, dI) classes [cg_G g tA oA uA wA sA (np + 1) ne bd er vr, cg_N tA cI 20 (va_up tm np t)] H := hP
    have hD : va_D A [cg_G g tA oA uA wA sA (np + 1) ne bd er vr, cg_N tA cI 20 (va_up tm np t)] := hD
    refine lv_aload_n hx hb d_G_addPoint_38 rfl (lv_at hl 1 rfl) ?_
    refine lv_dup hx hb d_G_addPoint_39 rfl ?_
    refine va_get (D := (dC, dI)) (ci := 0) (v := .int (nI vr)) (C := R_G) (T := F_G) (N := 10) hx hb hts iG hown hK hP 0 rfl rfl 9 (by decide) (hts _ (List.mem_cons_of_mem _ wk_G_41)) (fun _ h9 => h9) rfl d_G_addPoint_40 ?_
    refine lv_iconst (v := nI 1) hx hb d_G_addPoint_43 (by decide) ?_
    refine nr_iadd hx hb d_G_addPoint_44 ?_
    refine va_put (D := (dC, dI)) (ci := 0) (v := .int (nI (vr + 1))) (ty := .int) (C := R_G) (T := F_G) (N := 10) hx hb hts iG t_G t_G_ok n_G hown hK hP hD hS 0 rfl rfl 9 (by decide) (hts _ (List.mem_cons_of_mem _ wk_G_41)) (fun _ h9 => h9) rfl (by decide +kernel) rfl rfl (Nat.le_of_ble_eq_true rfl) d_G_addPoint_45 (fun H locs hP hD hS => ?_)
    have hP : va_P (dC, dI) classes [cg_G g tA oA uA wA sA (np + 1) ne bd er (vr + 1), cg_N tA cI 20 (va_up tm np t)] H := hP
    have hD : va_D A [cg_G g tA oA uA wA sA (np + 1) ne bd er (vr + 1), cg_N tA cI 20 (va_up tm np t)] := hD
    refine lv_iload_n hx hb d_G_addPoint_48 rfl (lv_at hl 0 rfl) ?_
    exact rw_iret () hx hb hr hlocks hS hP rfl d_G_addPoint_49
  · subst c_13
    refine lv_aload_n hx hb d_G_addPoint_16 rfl (lv_at hl 1 rfl) ?_
    refine lv_dup hx hb d_G_addPoint_17 rfl ?_
    refine va_get (D := (dC, dI)) (ci := 0) (v := .int bd) (C := R_G) (T := F_G) (N := 10) hx hb hts iG hown hK hP 0 rfl rfl 7 (by decide) (hts _ (List.mem_cons_of_mem _ wk_G_34)) (fun _ h9 => h9) rfl d_G_addPoint_18 ?_
    refine lv_iconst (v := nI 1) hx hb d_G_addPoint_21 (by decide) ?_
    refine lv_iload_n hx hb d_G_addPoint_22 rfl (lv_at hl 0 rfl) ?_
    refine lv_ishl hx hb d_G_addPoint_23 ?_
    refine nr_as (v := nb_o np) rfl ?_
    refine lv_ior hx hb d_G_addPoint_24 ?_
    refine va_put (D := (dC, dI)) (ci := 0) (v := .int (bd ||| (nb_o np))) (ty := .int) (C := R_G) (T := F_G) (N := 10) hx hb hts iG t_G t_G_ok n_G hown hK hP hD hS 0 rfl rfl 7 (by decide) (hts _ (List.mem_cons_of_mem _ wk_G_34)) (fun _ h9 => h9) rfl (by decide +kernel) rfl rfl (Nat.le_of_ble_eq_true rfl) d_G_addPoint_25 (fun H locs hP hD hS => ?_)
    have hP : va_P (dC, dI) classes [cg_G g tA oA uA wA sA np ne (bd ||| (nb_o np)) er vr, cg_N tA cI 20 (va_up tm np t)] H := hP
    have hD : va_D A [cg_G g tA oA uA wA sA np ne (bd ||| (nb_o np)) er vr, cg_N tA cI 20 (va_up tm np t)] := hD
    refine lv_aload_n hx hb d_G_addPoint_28 rfl (lv_at hl 1 rfl) ?_
    refine lv_dup hx hb d_G_addPoint_29 rfl ?_
    refine va_get (D := (dC, dI)) (ci := 0) (v := .int (nI np)) (C := R_G) (T := F_G) (N := 10) hx hb hts iG hown hK hP 0 rfl rfl 5 (by decide) (hts _ (List.mem_cons_of_mem _ wk_G_27)) (fun _ h9 => h9) rfl d_G_addPoint_30 ?_
    refine lv_iconst (v := nI 1) hx hb d_G_addPoint_33 (by decide) ?_
    refine nr_iadd hx hb d_G_addPoint_34 ?_
    refine va_put (D := (dC, dI)) (ci := 0) (v := .int (nI (np + 1))) (ty := .int) (C := R_G) (T := F_G) (N := 10) hx hb hts iG t_G t_G_ok n_G hown hK hP hD hS 0 rfl rfl 5 (by decide) (hts _ (List.mem_cons_of_mem _ wk_G_27)) (fun _ h9 => h9) rfl (by decide +kernel) rfl rfl (Nat.le_of_ble_eq_true rfl) d_G_addPoint_35 (fun H locs hP hD hS => ?_)
    have hP : va_P (dC, dI) classes [cg_G g tA oA uA wA sA (np + 1) ne (bd ||| (nb_o np)) er vr, cg_N tA cI 20 (va_up tm np t)] H := hP
    have hD : va_D A [cg_G g tA oA uA wA sA (np + 1) ne (bd ||| (nb_o np)) er vr, cg_N tA cI 20 (va_up tm np t)] := hD
    refine lv_aload_n hx hb d_G_addPoint_38 rfl (lv_at hl 1 rfl) ?_
    refine lv_dup hx hb d_G_addPoint_39 rfl ?_
    refine va_get (D := (dC, dI)) (ci := 0) (v := .int (nI vr)) (C := R_G) (T := F_G) (N := 10) hx hb hts iG hown hK hP 0 rfl rfl 9 (by decide) (hts _ (List.mem_cons_of_mem _ wk_G_41)) (fun _ h9 => h9) rfl d_G_addPoint_40 ?_
    refine lv_iconst (v := nI 1) hx hb d_G_addPoint_43 (by decide) ?_
    refine nr_iadd hx hb d_G_addPoint_44 ?_
    refine va_put (D := (dC, dI)) (ci := 0) (v := .int (nI (vr + 1))) (ty := .int) (C := R_G) (T := F_G) (N := 10) hx hb hts iG t_G t_G_ok n_G hown hK hP hD hS 0 rfl rfl 9 (by decide) (hts _ (List.mem_cons_of_mem _ wk_G_41)) (fun _ h9 => h9) rfl (by decide +kernel) rfl rfl (Nat.le_of_ble_eq_true rfl) d_G_addPoint_45 (fun H locs hP hD hS => ?_)
    have hP : va_P (dC, dI) classes [cg_G g tA oA uA wA sA (np + 1) ne (bd ||| (nb_o np)) er (vr + 1), cg_N tA cI 20 (va_up tm np t)] H := hP
    have hD : va_D A [cg_G g tA oA uA wA sA (np + 1) ne (bd ||| (nb_o np)) er (vr + 1), cg_N tA cI 20 (va_up tm np t)] := hD
    refine lv_iload_n hx hb d_G_addPoint_48 rfl (lv_at hl 0 rfl) ?_
    exact rw_iret () hx hb hr hlocks hS hP rfl d_G_addPoint_49
set_option maxHeartbeats 4000000 in
set_option maxRecDepth 100000 in
theorem c_G_addEdge (l : Launch) (dC : Nat → ClassId) (dI : Nat → Nat → Nat) (cI cL : ClassId) (g tA oA uA wA sA np ne : Nat) (bd : Int32) (er : Int64) (vr : Nat) (oe ot wt sg : Nat → Nat) (a b w z : Nat) (hne : ne < 60) : Met l y_G_addEdge w_G_addEdge ({ frames := 0, cells := 0, slots := 0, locals := 0 } : Room) (va_Pc [.ref g, .int (nI a), .int (nI b), .int (nI w), .int (nI z)] (rw_B (dC, dI) classes [(cI, .int), (cL, .long)] [cg_G g tA oA uA wA sA np ne bd er vr, cg_N oA cI 60 oe, cg_N uA cI 60 ot, cg_N wA cI 60 wt, cg_N sA cI 60 sg])) (rw_Qi (dC, dI) classes (rw_A [cg_G g tA oA uA wA sA np ne bd er vr, cg_N oA cI 60 oe, cg_N uA cI 60 ot, cg_N wA cI 60 wt, cg_N sA cI 60 sg]) (fun r (u : Unit) => r = (nI ne)) (fun u => [cg_G g tA oA uA wA sA np (ne + 1) bd er (vr + 1), cg_N oA cI 60 (va_up oe ne a), cg_N uA cI 60 (va_up ot ne b), cg_N wA cI 60 (va_up wt ne w), cg_N sA cI 60 (va_up sg ne z)])) 0 0 (rw_A [cg_G g tA oA uA wA sA np ne bd er vr, cg_N oA cI 60 oe, cg_N uA cI 60 ot, cg_N wA cI 60 wt, cg_N sA cI 60 sg]) := by
  refine Met.ofW (cc := b_G_addEdge) (maxL := 6) (ret := (some .int)) (by decide) rfl ?_
  intro p e s m args below meth c s₁ B hml hv
  obtain ⟨rfl, hP, hK, hD0⟩ := hv
  have hx := B.exec
  have hb := B.bytes
  have hr := B.returns
  have hts := atoms_spec (ws := w_G_addEdge) B.pre
  have hown : s.vm.findClass R_G = some m.cls := findClass_of_methodNamed B.named
  have hlocks := B.notSynchronized
  have iG : ∀ w ∈ w_G, w ∈ w_G_addEdge := fun w h => List.mem_cons_of_mem _ (i_G w h)
  have hD := rw_own hD0
  generalize hAe : rw_A [cg_G g tA oA uA wA sA np ne bd er vr, cg_N oA cI 60 oe, cg_N uA cI 60 ot, cg_N wA cI 60 wt, cg_N sA cI 60 sg] = A at hD ⊢
  have hS : va_S A s.heap s.heap [] := va_S.rf
  have hP : va_P (dC, dI) classes [cg_G g tA oA uA wA sA np ne bd er vr, cg_N oA cI 60 oe, cg_N uA cI 60 ot, cg_N wA cI 60 wt, cg_N sA cI 60 sg] s.heap := hP
  have hl := lv_entry ([.ref g, .int (nI a), .int (nI b), .int (nI w), .int (nI z)]) (n := 6) (Nat.le_of_ble_eq_true rfl)
  rw [lg_entry_eq]
  generalize (lg_sl ([.ref g, .int (nI a), .int (nI b), .int (nI w), .int (nI z)]) ++ List.replicate (6 - (lg_sl ([.ref g, .int (nI a), .int (nI b), .int (nI w), .int (nI z)])).length) Slot.unset).toArray = ls at hl ⊢
  have hl : lv_has ls 6 [(0, .ref g), (1, .int (nI a)), (2, .int (nI b)), (3, .int (nI w)), (4, .int (nI z))] := hl
  refine lv_aload_n hx hb d_G_addEdge_0 rfl (lv_at hl 0 rfl) ?_
  refine va_get (D := (dC, dI)) (ci := 0) (v := .int (nI ne)) (C := R_G) (T := F_G) (N := 10) hx hb hts iG hown hK hP 0 rfl rfl 6 (by decide) (hts _ (List.mem_cons_of_mem _ wk_G_31)) (fun _ h9 => h9) rfl d_G_addEdge_1 ?_
  refine lv_istore (lv' := [(5, .int (nI ne)), (0, .ref g), (1, .int (nI a)), (2, .int (nI b)), (3, .int (nI w)), (4, .int (nI z))]) hx hb d_G_addEdge_4 hl (by decide) rfl (fun ls hl => ?_)
  refine lv_aload_n hx hb d_G_addEdge_6 rfl (lv_at hl 1 rfl) ?_
  refine va_get (D := (dC, dI)) (ci := 0) (v := .ref oA) (C := R_G) (T := F_G) (N := 10) hx hb hts iG hown hK hP 0 rfl rfl 1 (by decide) (hts _ (List.mem_cons_of_mem _ wk_G_15)) (fun _ h9 => h9) rfl d_G_addEdge_7 ?_
  refine lv_iload hx hb d_G_addEdge_10 (lv_at hl 0 rfl) ?_
  refine lv_iload_n hx hb d_G_addEdge_12 rfl (lv_at hl 2 rfl) ?_
  refine nr_iast hx hb hK hP hD hS 1 0 rfl rfl (by omega) (by decide) d_G_addEdge_13 (fun H locs hP hD hS => ?_)
  have hP : va_P (dC, dI) classes [cg_G g tA oA uA wA sA np ne bd er vr, cg_N oA cI 60 (va_up oe ne a), cg_N uA cI 60 ot, cg_N wA cI 60 wt, cg_N sA cI 60 sg] H := hP
  have hD : va_D A [cg_G g tA oA uA wA sA np ne bd er vr, cg_N oA cI 60 (va_up oe ne a), cg_N uA cI 60 ot, cg_N wA cI 60 wt, cg_N sA cI 60 sg] := hD
  refine lv_aload_n hx hb d_G_addEdge_14 rfl (lv_at hl 1 rfl) ?_
  refine va_get (D := (dC, dI)) (ci := 0) (v := .ref uA) (C := R_G) (T := F_G) (N := 10) hx hb hts iG hown hK hP 0 rfl rfl 2 (by decide) (hts _ (List.mem_cons_of_mem _ wk_G_18)) (fun _ h9 => h9) rfl d_G_addEdge_15 ?_
  refine lv_iload hx hb d_G_addEdge_18 (lv_at hl 0 rfl) ?_
  refine lv_iload_n hx hb d_G_addEdge_20 rfl (lv_at hl 3 rfl) ?_
  refine nr_iast hx hb hK hP hD hS 2 0 rfl rfl (by omega) (by decide) d_G_addEdge_21 (fun H locs hP hD hS => ?_)
  have hP : va_P (dC, dI) classes [cg_G g tA oA uA wA sA np ne bd er vr, cg_N oA cI 60 (va_up oe ne a), cg_N uA cI 60 (va_up ot ne b), cg_N wA cI 60 wt, cg_N sA cI 60 sg] H := hP
  have hD : va_D A [cg_G g tA oA uA wA sA np ne bd er vr, cg_N oA cI 60 (va_up oe ne a), cg_N uA cI 60 (va_up ot ne b), cg_N wA cI 60 wt, cg_N sA cI 60 sg] := hD
  refine lv_aload_n hx hb d_G_addEdge_22 rfl (lv_at hl 1 rfl) ?_
  refine va_get (D := (dC, dI)) (ci := 0) (v := .ref wA) (C := R_G) (T := F_G) (N := 10) hx hb hts iG hown hK hP 0 rfl rfl 3 (by decide) (hts _ (List.mem_cons_of_mem _ wk_G_21)) (fun _ h9 => h9) rfl d_G_addEdge_23 ?_
  refine lv_iload hx hb d_G_addEdge_26 (lv_at hl 0 rfl) ?_
  refine lv_iload_n hx hb d_G_addEdge_28 rfl (lv_at hl 4 rfl) ?_
  refine nr_iast hx hb hK hP hD hS 3 0 rfl rfl (by omega) (by decide) d_G_addEdge_29 (fun H locs hP hD hS => ?_)
  have hP : va_P (dC, dI) classes [cg_G g tA oA uA wA sA np ne bd er vr, cg_N oA cI 60 (va_up oe ne a), cg_N uA cI 60 (va_up ot ne b), cg_N wA cI 60 (va_up wt ne w), cg_N sA cI 60 sg] H := hP
  have hD : va_D A [cg_G g tA oA uA wA sA np ne bd er vr, cg_N oA cI 60 (va_up oe ne a), cg_N uA cI 60 (va_up ot ne b), cg_N wA cI 60 (va_up wt ne w), cg_N sA cI 60 sg] := hD
  refine lv_aload_n hx hb d_G_addEdge_30 rfl (lv_at hl 1 rfl) ?_
  refine va_get (D := (dC, dI)) (ci := 0) (v := .ref sA) (C := R_G) (T := F_G) (N := 10) hx hb hts iG hown hK hP 0 rfl rfl 4 (by decide) (hts _ (List.mem_cons_of_mem _ wk_G_24)) (fun _ h9 => h9) rfl d_G_addEdge_31 ?_
  refine lv_iload hx hb d_G_addEdge_34 (lv_at hl 0 rfl) ?_
  refine lv_iload hx hb d_G_addEdge_36 (lv_at hl 5 rfl) ?_
  refine nr_iast hx hb hK hP hD hS 4 0 rfl rfl (by omega) (by decide) d_G_addEdge_38 (fun H locs hP hD hS => ?_)
  have hP : va_P (dC, dI) classes [cg_G g tA oA uA wA sA np ne bd er vr, cg_N oA cI 60 (va_up oe ne a), cg_N uA cI 60 (va_up ot ne b), cg_N wA cI 60 (va_up wt ne w), cg_N sA cI 60 (va_up sg ne z)] H := hP
  have hD : va_D A [cg_G g tA oA uA wA sA np ne bd er vr, cg_N oA cI 60 (va_up oe ne a), cg_N uA cI 60 (va_up ot ne b), cg_N wA cI 60 (va_up wt ne w), cg_N sA cI 60 (va_up sg ne z)] := hD
  refine lv_aload_n hx hb d_G_addEdge_39 rfl (lv_at hl 1 rfl) ?_
  refine lv_dup hx hb d_G_addEdge_40 rfl ?_
  refine va_get (D := (dC, dI)) (ci := 0) (v := .int (nI ne)) (C := R_G) (T := F_G) (N := 10) hx hb hts iG hown hK hP 0 rfl rfl 6 (by decide) (hts _ (List.mem_cons_of_mem _ wk_G_31)) (fun _ h9 => h9) rfl d_G_addEdge_41 ?_
  refine lv_iconst (v := nI 1) hx hb d_G_addEdge_44 (by decide) ?_
  refine nr_iadd hx hb d_G_addEdge_45 ?_
  refine va_put (D := (dC, dI)) (ci := 0) (v := .int (nI (ne + 1))) (ty := .int) (C := R_G) (T := F_G) (N := 10) hx hb hts iG t_G t_G_ok n_G hown hK hP hD hS 0 rfl rfl 6 (by decide) (hts _ (List.mem_cons_of_mem _ wk_G_31)) (fun _ h9 => h9) rfl (by decide +kernel) rfl rfl (Nat.le_of_ble_eq_true rfl) d_G_addEdge_46 (fun H locs hP hD hS => ?_)
  have hP : va_P (dC, dI) classes [cg_G g tA oA uA wA sA np (ne + 1) bd er vr, cg_N oA cI 60 (va_up oe ne a), cg_N uA cI 60 (va_up ot ne b), cg_N wA cI 60 (va_up wt ne w), cg_N sA cI 60 (va_up sg ne z)] H := hP
  have hD : va_D A [cg_G g tA oA uA wA sA np (ne + 1) bd er vr, cg_N oA cI 60 (va_up oe ne a), cg_N uA cI 60 (va_up ot ne b), cg_N wA cI 60 (va_up wt ne w), cg_N sA cI 60 (va_up sg ne z)] := hD
  refine lv_aload_n hx hb d_G_addEdge_49 rfl (lv_at hl 1 rfl) ?_
  refine lv_dup hx hb d_G_addEdge_50 rfl ?_
  refine va_get (D := (dC, dI)) (ci := 0) (v := .int (nI vr)) (C := R_G) (T := F_G) (N := 10) hx hb hts iG hown hK hP 0 rfl rfl 9 (by decide) (hts _ (List.mem_cons_of_mem _ wk_G_41)) (fun _ h9 => h9) rfl d_G_addEdge_51 ?_
  refine lv_iconst (v := nI 1) hx hb d_G_addEdge_54 (by decide) ?_
  refine nr_iadd hx hb d_G_addEdge_55 ?_
  refine va_put (D := (dC, dI)) (ci := 0) (v := .int (nI (vr + 1))) (ty := .int) (C := R_G) (T := F_G) (N := 10) hx hb hts iG t_G t_G_ok n_G hown hK hP hD hS 0 rfl rfl 9 (by decide) (hts _ (List.mem_cons_of_mem _ wk_G_41)) (fun _ h9 => h9) rfl (by decide +kernel) rfl rfl (Nat.le_of_ble_eq_true rfl) d_G_addEdge_56 (fun H locs hP hD hS => ?_)
  have hP : va_P (dC, dI) classes [cg_G g tA oA uA wA sA np (ne + 1) bd er (vr + 1), cg_N oA cI 60 (va_up oe ne a), cg_N uA cI 60 (va_up ot ne b), cg_N wA cI 60 (va_up wt ne w), cg_N sA cI 60 (va_up sg ne z)] H := hP
  have hD : va_D A [cg_G g tA oA uA wA sA np (ne + 1) bd er (vr + 1), cg_N oA cI 60 (va_up oe ne a), cg_N uA cI 60 (va_up ot ne b), cg_N wA cI 60 (va_up wt ne w), cg_N sA cI 60 (va_up sg ne z)] := hD
  refine lv_iload hx hb d_G_addEdge_59 (lv_at hl 0 rfl) ?_
  exact rw_iret () hx hb hr hlocks hS hP rfl d_G_addEdge_61
set_option maxHeartbeats 4000000 in
set_option maxRecDepth 100000 in
theorem c_G_turnErased (l : Launch) (dC : Nat → ClassId) (dI : Nat → Nat → Nat) (cI cL : ClassId) (g tA oA uA wA sA np ne : Nat) (bd : Int32) (er : Int64) (vr : Nat) (k : Nat)  : Met l y_G_turnErased w_G_turnErased ({ frames := 0, cells := 0, slots := 0, locals := 0 } : Room) (va_Pc [.ref g, .int (nI k)] (rw_B (dC, dI) classes [(cI, .int), (cL, .long)] [cg_G g tA oA uA wA sA np ne bd er vr])) (rw_Qv (dC, dI) classes (rw_A [cg_G g tA oA uA wA sA np ne bd er vr]) (fun (u : Unit) => True) (fun u => [cg_G g tA oA uA wA sA np ne bd (er ^^^ nb_p k) (vr + 1)])) 0 0 (rw_A [cg_G g tA oA uA wA sA np ne bd er vr]) := by
  refine Met.ofW (cc := b_G_turnErased) (maxL := 2) (ret := none) (by decide) rfl ?_
  intro p e s m args below meth c s₁ B hml hv
  obtain ⟨rfl, hP, hK, hD0⟩ := hv
  have hx := B.exec
  have hb := B.bytes
  have hr := B.returns
  have hts := atoms_spec (ws := w_G_turnErased) B.pre
  have hown : s.vm.findClass R_G = some m.cls := findClass_of_methodNamed B.named
  have hlocks := B.notSynchronized
  have iG : ∀ w ∈ w_G, w ∈ w_G_turnErased := fun w h => List.mem_cons_of_mem _ (i_G w h)
  have hD := rw_own hD0
  generalize hAe : rw_A [cg_G g tA oA uA wA sA np ne bd er vr] = A at hD ⊢
  have hS : va_S A s.heap s.heap [] := va_S.rf
  have hP : va_P (dC, dI) classes [cg_G g tA oA uA wA sA np ne bd er vr] s.heap := hP
  have hl := lv_entry ([.ref g, .int (nI k)]) (n := 2) (Nat.le_of_ble_eq_true rfl)
  rw [lg_entry_eq]
  generalize (lg_sl ([.ref g, .int (nI k)]) ++ List.replicate (2 - (lg_sl ([.ref g, .int (nI k)])).length) Slot.unset).toArray = ls at hl ⊢
  have hl : lv_has ls 2 [(0, .ref g), (1, .int (nI k))] := hl
  refine lv_aload_n hx hb d_G_turnErased_0 rfl (lv_at hl 0 rfl) ?_
  refine lv_dup hx hb d_G_turnErased_1 rfl ?_
  refine va_get (D := (dC, dI)) (ci := 0) (v := .long er) (C := R_G) (T := F_G) (N := 10) hx hb hts iG hown hK hP 0 rfl rfl 8 (by decide) (hts _ (List.mem_cons_of_mem _ wk_G_37)) (fun _ h9 => h9) rfl d_G_turnErased_2 ?_
  refine lv_lconst (v := lN 1) hx hb d_G_turnErased_5 (by decide) ?_
  refine lv_iload_n hx hb d_G_turnErased_6 rfl (lv_at hl 1 rfl) ?_
  refine lv_lshl hx hb d_G_turnErased_7 rfl ?_
  refine nr_asL (v := nb_p k) rfl ?_
  refine lv_lxor hx hb d_G_turnErased_8 ?_
  refine va_put (D := (dC, dI)) (ci := 0) (v := .long (er ^^^ (nb_p k))) (ty := .long) (C := R_G) (T := F_G) (N := 10) hx hb hts iG t_G t_G_ok n_G hown hK hP hD hS 0 rfl rfl 8 (by decide) (hts _ (List.mem_cons_of_mem _ wk_G_37)) (fun _ h9 => h9) rfl (by decide +kernel) rfl rfl (Nat.le_of_ble_eq_true rfl) d_G_turnErased_9 (fun H locs hP hD hS => ?_)
  have hP : va_P (dC, dI) classes [cg_G g tA oA uA wA sA np ne bd (er ^^^ (nb_p k)) vr] H := hP
  have hD : va_D A [cg_G g tA oA uA wA sA np ne bd (er ^^^ (nb_p k)) vr] := hD
  refine lv_aload_n hx hb d_G_turnErased_12 rfl (lv_at hl 0 rfl) ?_
  refine lv_dup hx hb d_G_turnErased_13 rfl ?_
  refine va_get (D := (dC, dI)) (ci := 0) (v := .int (nI vr)) (C := R_G) (T := F_G) (N := 10) hx hb hts iG hown hK hP 0 rfl rfl 9 (by decide) (hts _ (List.mem_cons_of_mem _ wk_G_41)) (fun _ h9 => h9) rfl d_G_turnErased_14 ?_
  refine lv_iconst (v := nI 1) hx hb d_G_turnErased_17 (by decide) ?_
  refine nr_iadd hx hb d_G_turnErased_18 ?_
  refine va_put (D := (dC, dI)) (ci := 0) (v := .int (nI (vr + 1))) (ty := .int) (C := R_G) (T := F_G) (N := 10) hx hb hts iG t_G t_G_ok n_G hown hK hP hD hS 0 rfl rfl 9 (by decide) (hts _ (List.mem_cons_of_mem _ wk_G_41)) (fun _ h9 => h9) rfl (by decide +kernel) rfl rfl (Nat.le_of_ble_eq_true rfl) d_G_turnErased_19 (fun H locs hP hD hS => ?_)
  have hP : va_P (dC, dI) classes [cg_G g tA oA uA wA sA np ne bd (er ^^^ (nb_p k)) (vr + 1)] H := hP
  have hD : va_D A [cg_G g tA oA uA wA sA np ne bd (er ^^^ (nb_p k)) (vr + 1)] := hD
  exact rw_vret () hx hb hr hlocks hS hP trivial d_G_turnErased_22
set_option maxHeartbeats 4000000 in
set_option maxRecDepth 100000 in
theorem c_G_oddSigns (l : Launch) (dC : Nat → ClassId) (dI : Nat → Nat → Nat) (cI cL : ClassId) (g tA oA uA wA sA np ne : Nat) (bd : Int32) (er : Int64) (vr : Nat) (sg : Nat → Nat) (x : Int64) (hne : ne ≤ 60) : Met l y_G_oddSigns w_G_oddSigns ({ frames := 0, cells := 0, slots := 0, locals := 0 } : Room) (va_Pc [.ref g, .long x] (ro_B (dC, dI) classes [(cI, .int), (cL, .long)] [cg_G g tA oA uA wA sA np ne bd er vr, cg_N sA cI 60 sg])) (ro_Qi (ng_osg x sg ne)) 0 0 ro_A := by
  refine Met.ofW (cc := b_G_oddSigns) (maxL := 5) (ret := (some .int)) (by decide) rfl ?_
  intro p e s m args below meth c s₁ B hml hv
  obtain ⟨rfl, hP, hK⟩ := hv
  have hx := B.exec
  have hb := B.bytes
  have hr := B.returns
  have hts := atoms_spec (ws := w_G_oddSigns) B.pre
  have hown : s.vm.findClass R_G = some m.cls := findClass_of_methodNamed B.named
  have hlocks := B.notSynchronized
  have iG : ∀ w ∈ w_G, w ∈ w_G_oddSigns := fun w h => List.mem_cons_of_mem _ (i_G w h)
  have hS : va_S ro_A s.heap s.heap [] := va_S.rf
  have hP : va_P (dC, dI) classes [cg_G g tA oA uA wA sA np ne bd er vr, cg_N sA cI 60 sg] s.heap := hP
  have hl := lv_entry ([.ref g, .long x]) (n := 5) (Nat.le_of_ble_eq_true rfl)
  rw [lg_entry_eq]
  generalize (lg_sl ([.ref g, .long x]) ++ List.replicate (5 - (lg_sl ([.ref g, .long x])).length) Slot.unset).toArray = ls at hl ⊢
  have hl : lv_has ls 5 [(0, .ref g), (1, .long x)] := hl
  refine lv_iconst (v := nI 0) hx hb d_G_oddSigns_0 (by decide) ?_
  refine lv_istore_n (lv' := [(3, .int (nI 0)), (0, .ref g), (1, .long x)]) hx hb d_G_oddSigns_1 rfl hl (by decide) rfl (fun ls hl => ?_)
  refine lv_iconst (v := nI 0) hx hb d_G_oddSigns_2 (by decide) ?_
  refine lv_istore (lv' := [(4, .int (nI 0)), (3, .int (nI 0)), (0, .ref g), (1, .long x)]) hx hb d_G_oddSigns_3 hl (by decide) rfl (fun ls hl => ?_)
  have lp_5 : ∀ (n : Nat) (i : Nat) (od : Int32), (i ≤ ne) → (od = ng_osg x sg i) → ne - i < n → ∀ (H : Heap) (locs : List Loc), va_P (dC, dI) classes [cg_G g tA oA uA wA sA np ne bd er vr, cg_N sA cI 60 sg] H → va_S ro_A s.heap H locs → ∀ (ls : Array Slot), lv_has ls 5 [(0, .ref g), (1, .long x), (3, .int od), (4, .int (nI i))] → W p l e (headSpec w_G_oddSigns ({ frames := 0, cells := 0, slots := 0, locals := 0 } : Room)).room s m ([.ref g, .long x] : List Value).toArray below meth c H locs 0 0 (MQ below (ro_Qi (ng_osg x sg ne)) ([.ref g, .long x] : List Value).toArray s 0 0 ro_A) (F0 m 5 ls []) := by
    intro n
    induction n with
    | zero => intro i od hi ho hme; exact absurd hme (Nat.not_lt_zero _)
    | succ n ih =>
      intro i od hi ho hme H locs hP hS ls hl
      have ih_5 := ih
      refine lv_iload hx hb d_G_oddSigns_5 (lv_at hl 3 rfl) ?_
      refine lv_aload_n hx hb d_G_oddSigns_7 rfl (lv_at hl 0 rfl) ?_
      refine va_get (D := (dC, dI)) (ci := 0) (v := .int (nI ne)) (C := R_G) (T := F_G) (N := 10) hx hb hts iG hown hK hP 0 rfl rfl 6 (by decide) (hts _ (List.mem_cons_of_mem _ wk_G_31)) (fun _ h9 => h9) rfl d_G_oddSigns_8 ?_
      refine nr_icmp_ge (by omega) (by omega) (tgt := 41) hx hb d_G_oddSigns_11 (by decide) (fun c_11 => ?_) (fun c_11 => ?_)
      · refine lv_iload_n hx hb d_G_oddSigns_41 rfl (lv_at hl 2 rfl) ?_
        exact ro_iret hx hb hr hlocks hS (by rw [ho, show i = ne by omega]) d_G_oddSigns_42
      · refine lv_lload_n hx hb d_G_oddSigns_14 rfl (lv_at hl 1 rfl) ?_
        refine lv_iload hx hb d_G_oddSigns_15 (lv_at hl 3 rfl) ?_
        refine lv_lshr hx hb d_G_oddSigns_17 rfl ?_
        refine lv_lconst (v := lN 1) hx hb d_G_oddSigns_18 (by decide) ?_
        refine lv_land hx hb d_G_oddSigns_19 ?_
        refine nr_asL (v := nb_l (nb_u x i)) (nb_lbt_and1 (by omega)) ?_
        refine lv_lconst (v := lN 1) hx hb d_G_oddSigns_20 (by decide) ?_
        refine W.lcmp hx hb d_G_oddSigns_21 ?_
        refine nr_lifneB (tgt := 35) hx hb d_G_oddSigns_22 (by decide) (fun c_22 => ?_) (fun c_22 => ?_)
        · refine lv_iinc (v := (nI (i + 1))) (lv' := [(4, .int (nI (i + 1))), (0, .ref g), (1, .long x), (3, .int od)]) hx hb d_G_oddSigns_35 hl (k := 3) rfl (nI_1 i) (by decide) rfl (fun ls hl => ?_)
          refine lv_goto (tgt := 5) hx hb d_G_oddSigns_38 (by decide) ?_
          exact ih_5 (i + 1) od (by omega) (by subst ho; simp [ng_osg, *]) (by omega) _ _ hP hS ls (lv_sub hl [1, 2, 3, 0] rfl)
        · refine lv_iload_n hx hb d_G_oddSigns_25 rfl (lv_at hl 2 rfl) ?_
          refine lv_aload_n hx hb d_G_oddSigns_26 rfl (lv_at hl 0 rfl) ?_
          refine va_get (D := (dC, dI)) (ci := 0) (v := .ref sA) (C := R_G) (T := F_G) (N := 10) hx hb hts iG hown hK hP 0 rfl rfl 4 (by decide) (hts _ (List.mem_cons_of_mem _ wk_G_24)) (fun _ h9 => h9) rfl d_G_oddSigns_27 ?_
          refine lv_iload hx hb d_G_oddSigns_30 (lv_at hl 3 rfl) ?_
          refine nr_iald hx hb hK hP 1 0 rfl rfl (by omega) (by decide) d_G_oddSigns_32 ?_
          refine lv_ixor hx hb d_G_oddSigns_33 ?_
          refine lv_istore_n (lv' := [(3, .int (od ^^^ (nI (sg i)))), (0, .ref g), (1, .long x), (4, .int (nI i))]) hx hb d_G_oddSigns_34 rfl hl (by decide) rfl (fun ls hl => ?_)
          refine lv_iinc (v := (nI (i + 1))) (lv' := [(4, .int (nI (i + 1))), (3, .int (od ^^^ (nI (sg i)))), (0, .ref g), (1, .long x)]) hx hb d_G_oddSigns_35 hl (k := 3) rfl (nI_1 i) (by decide) rfl (fun ls hl => ?_)
          refine lv_goto (tgt := 5) hx hb d_G_oddSigns_38 (by decide) ?_
          exact ih_5 (i + 1) (od ^^^ (nI (sg i))) (by omega) (by subst ho; simp [ng_osg, *]) (by omega) _ _ hP hS ls (lv_sub hl [2, 3, 1, 0] rfl)
  exact lp_5 (ne - 0 + 1) 0 (nI 0) (by omega) rfl (Nat.lt_succ_self _) _ _ hP hS ls (lv_sub hl [2, 3, 1, 0] rfl)
set_option maxHeartbeats 4000000 in
set_option maxRecDepth 100000 in
theorem c_G_oddPoints (l : Launch) (dC : Nat → ClassId) (dI : Nat → Nat → Nat) (cI cL : ClassId) (g tA oA uA wA sA np ne : Nat) (bd : Int32) (er : Int64) (vr : Nat) (oe ot : Nat → Nat) (x : Int64) (hne : ne ≤ 60) : Met l y_G_oddPoints w_G_oddPoints ({ frames := 0, cells := 0, slots := 0, locals := 0 } : Room) (va_Pc [.ref g, .long x] (ro_B (dC, dI) classes [(cI, .int), (cL, .long)] [cg_G g tA oA uA wA sA np ne bd er vr, cg_N oA cI 60 oe, cg_N uA cI 60 ot])) (ro_Qi (ng_opt x oe ot ne &&& (bd ^^^ (-1)))) 0 0 ro_A := by
  refine Met.ofW (cc := b_G_oddPoints) (maxL := 5) (ret := (some .int)) (by decide) rfl ?_
  intro p e s m args below meth c s₁ B hml hv
  obtain ⟨rfl, hP, hK⟩ := hv
  have hx := B.exec
  have hb := B.bytes
  have hr := B.returns
  have hts := atoms_spec (ws := w_G_oddPoints) B.pre
  have hown : s.vm.findClass R_G = some m.cls := findClass_of_methodNamed B.named
  have hlocks := B.notSynchronized
  have iG : ∀ w ∈ w_G, w ∈ w_G_oddPoints := fun w h => List.mem_cons_of_mem _ (i_G w h)
  have hS : va_S ro_A s.heap s.heap [] := va_S.rf
  have hP : va_P (dC, dI) classes [cg_G g tA oA uA wA sA np ne bd er vr, cg_N oA cI 60 oe, cg_N uA cI 60 ot] s.heap := hP
  have hl := lv_entry ([.ref g, .long x]) (n := 5) (Nat.le_of_ble_eq_true rfl)
  rw [lg_entry_eq]
  generalize (lg_sl ([.ref g, .long x]) ++ List.replicate (5 - (lg_sl ([.ref g, .long x])).length) Slot.unset).toArray = ls at hl ⊢
  have hl : lv_has ls 5 [(0, .ref g), (1, .long x)] := hl
  refine lv_iconst (v := nI 0) hx hb d_G_oddPoints_0 (by decide) ?_
  refine lv_istore_n (lv' := [(3, .int (nI 0)), (0, .ref g), (1, .long x)]) hx hb d_G_oddPoints_1 rfl hl (by decide) rfl (fun ls hl => ?_)
  refine lv_iconst (v := nI 0) hx hb d_G_oddPoints_2 (by decide) ?_
  refine lv_istore (lv' := [(4, .int (nI 0)), (3, .int (nI 0)), (0, .ref g), (1, .long x)]) hx hb d_G_oddPoints_3 hl (by decide) rfl (fun ls hl => ?_)
  have lp_5 : ∀ (n : Nat) (i : Nat) (od : Int32), (i ≤ ne) → (od = ng_opt x oe ot i) → ne - i < n → ∀ (H : Heap) (locs : List Loc), va_P (dC, dI) classes [cg_G g tA oA uA wA sA np ne bd er vr, cg_N oA cI 60 oe, cg_N uA cI 60 ot] H → va_S ro_A s.heap H locs → ∀ (ls : Array Slot), lv_has ls 5 [(0, .ref g), (1, .long x), (3, .int od), (4, .int (nI i))] → W p l e (headSpec w_G_oddPoints ({ frames := 0, cells := 0, slots := 0, locals := 0 } : Room)).room s m ([.ref g, .long x] : List Value).toArray below meth c H locs 0 0 (MQ below (ro_Qi (ng_opt x oe ot ne &&& (bd ^^^ (-1)))) ([.ref g, .long x] : List Value).toArray s 0 0 ro_A) (F0 m 5 ls []) := by
    intro n
    induction n with
    | zero => intro i od hi ho hme; exact absurd hme (Nat.not_lt_zero _)
    | succ n ih =>
      intro i od hi ho hme H locs hP hS ls hl
      have ih_5 := ih
      refine lv_iload hx hb d_G_oddPoints_5 (lv_at hl 3 rfl) ?_
      refine lv_aload_n hx hb d_G_oddPoints_7 rfl (lv_at hl 0 rfl) ?_
      refine va_get (D := (dC, dI)) (ci := 0) (v := .int (nI ne)) (C := R_G) (T := F_G) (N := 10) hx hb hts iG hown hK hP 0 rfl rfl 6 (by decide) (hts _ (List.mem_cons_of_mem _ wk_G_31)) (fun _ h9 => h9) rfl d_G_oddPoints_8 ?_
      refine nr_icmp_ge (by omega) (by omega) (tgt := 53) hx hb d_G_oddPoints_11 (by decide) (fun c_11 => ?_) (fun c_11 => ?_)
      · refine lv_iload_n hx hb d_G_oddPoints_53 rfl (lv_at hl 2 rfl) ?_
        refine lv_aload_n hx hb d_G_oddPoints_54 rfl (lv_at hl 0 rfl) ?_
        refine va_get (D := (dC, dI)) (ci := 0) (v := .int bd) (C := R_G) (T := F_G) (N := 10) hx hb hts iG hown hK hP 0 rfl rfl 7 (by decide) (hts _ (List.mem_cons_of_mem _ wk_G_34)) (fun _ h9 => h9) rfl d_G_oddPoints_55 ?_
        refine lv_iconst (v := -1) hx hb d_G_oddPoints_58 (by decide) ?_
        refine lv_ixor hx hb d_G_oddPoints_59 ?_
        refine lv_iand hx hb d_G_oddPoints_60 ?_
        exact ro_iret hx hb hr hlocks hS (by rw [ho, show i = ne by omega]) d_G_oddPoints_61
      · refine lv_lload_n hx hb d_G_oddPoints_14 rfl (lv_at hl 1 rfl) ?_
        refine lv_iload hx hb d_G_oddPoints_15 (lv_at hl 3 rfl) ?_
        refine lv_lshr hx hb d_G_oddPoints_17 rfl ?_
        refine lv_lconst (v := lN 1) hx hb d_G_oddPoints_18 (by decide) ?_
        refine lv_land hx hb d_G_oddPoints_19 ?_
        refine nr_asL (v := nb_l (nb_u x i)) (nb_lbt_and1 (by omega)) ?_
        refine lv_lconst (v := lN 1) hx hb d_G_oddPoints_20 (by decide) ?_
        refine W.lcmp hx hb d_G_oddPoints_21 ?_
        refine nr_lifneB (tgt := 47) hx hb d_G_oddPoints_22 (by decide) (fun c_22 => ?_) (fun c_22 => ?_)
        · refine lv_iinc (v := (nI (i + 1))) (lv' := [(4, .int (nI (i + 1))), (0, .ref g), (1, .long x), (3, .int od)]) hx hb d_G_oddPoints_47 hl (k := 3) rfl (nI_1 i) (by decide) rfl (fun ls hl => ?_)
          refine lv_goto (tgt := 5) hx hb d_G_oddPoints_50 (by decide) ?_
          exact ih_5 (i + 1) od (by omega) (by subst ho; simp [ng_opt, *]) (by omega) _ _ hP hS ls (lv_sub hl [1, 2, 3, 0] rfl)
        · refine lv_iload_n hx hb d_G_oddPoints_25 rfl (lv_at hl 2 rfl) ?_
          refine lv_iconst (v := nI 1) hx hb d_G_oddPoints_26 (by decide) ?_
          refine lv_aload_n hx hb d_G_oddPoints_27 rfl (lv_at hl 0 rfl) ?_
          refine va_get (D := (dC, dI)) (ci := 0) (v := .ref oA) (C := R_G) (T := F_G) (N := 10) hx hb hts iG hown hK hP 0 rfl rfl 1 (by decide) (hts _ (List.mem_cons_of_mem _ wk_G_15)) (fun _ h9 => h9) rfl d_G_oddPoints_28 ?_
          refine lv_iload hx hb d_G_oddPoints_31 (lv_at hl 3 rfl) ?_
          refine nr_iald hx hb hK hP 1 0 rfl rfl (by omega) (by decide) d_G_oddPoints_33 ?_
          refine lv_ishl hx hb d_G_oddPoints_34 ?_
          refine nr_as (v := nb_o (oe i)) rfl ?_
          refine lv_iconst (v := nI 1) hx hb d_G_oddPoints_35 (by decide) ?_
          refine lv_aload_n hx hb d_G_oddPoints_36 rfl (lv_at hl 0 rfl) ?_
          refine va_get (D := (dC, dI)) (ci := 0) (v := .ref uA) (C := R_G) (T := F_G) (N := 10) hx hb hts iG hown hK hP 0 rfl rfl 2 (by decide) (hts _ (List.mem_cons_of_mem _ wk_G_18)) (fun _ h9 => h9) rfl d_G_oddPoints_37 ?_
          refine lv_iload hx hb d_G_oddPoints_40 (lv_at hl 3 rfl) ?_
          refine nr_iald hx hb hK hP 2 0 rfl rfl (by omega) (by decide) d_G_oddPoints_42 ?_
          refine lv_ishl hx hb d_G_oddPoints_43 ?_
          refine nr_as (v := nb_o (ot i)) rfl ?_
          refine lv_ixor hx hb d_G_oddPoints_44 ?_
          refine lv_ixor hx hb d_G_oddPoints_45 ?_
          refine lv_istore_n (lv' := [(3, .int (od ^^^ ((nb_o (oe i)) ^^^ (nb_o (ot i))))), (0, .ref g), (1, .long x), (4, .int (nI i))]) hx hb d_G_oddPoints_46 rfl hl (by decide) rfl (fun ls hl => ?_)
          refine lv_iinc (v := (nI (i + 1))) (lv' := [(4, .int (nI (i + 1))), (3, .int (od ^^^ ((nb_o (oe i)) ^^^ (nb_o (ot i))))), (0, .ref g), (1, .long x)]) hx hb d_G_oddPoints_47 hl (k := 3) rfl (nI_1 i) (by decide) rfl (fun ls hl => ?_)
          refine lv_goto (tgt := 5) hx hb d_G_oddPoints_50 (by decide) ?_
          exact ih_5 (i + 1) (od ^^^ ((nb_o (oe i)) ^^^ (nb_o (ot i)))) (by omega) (by subst ho; simp [ng_opt, *]) (by omega) _ _ hP hS ls (lv_sub hl [2, 3, 1, 0] rfl)
  exact lp_5 (ne - 0 + 1) 0 (nI 0) (by omega) rfl (Nat.lt_succ_self _) _ _ hP hS ls (lv_sub hl [2, 3, 1, 0] rfl)
end
section
set_option maxHeartbeats 4000000 in
set_option maxRecDepth 100000 in
theorem c_W_at (l : Launch) (dC : Nat → ClassId) (dI : Nat → Nat → Nat) (cI cL : ClassId) (a b : Nat)  : Met l y_W_at w_W_at ({ frames := 0, cells := 0, slots := 0, locals := 0 } : Room) (va_Pc [.int (nI a), .int (nI b)] (ro_B (dC, dI) classes [(cI, .int), (cL, .long)] [])) (ro_Qi (nI (a * 20 + b))) 0 0 ro_A := by
  refine Met.ofW (cc := b_W_at) (maxL := 2) (ret := (some .int)) (by decide) rfl ?_
  intro p e s m args below meth c s₁ B hml hv
  obtain ⟨rfl, hP, hK⟩ := hv
  have hx := B.exec
  have hb := B.bytes
  have hr := B.returns
  have hts := atoms_spec (ws := w_W_at) B.pre
  have hown : s.vm.findClass R_W = some m.cls := findClass_of_methodNamed B.named
  have hlocks := B.notSynchronized
  have hS : va_S ro_A s.heap s.heap [] := va_S.rf
  have hP : va_P (dC, dI) classes [] s.heap := hP
  have hl := lv_entry ([.int (nI a), .int (nI b)]) (n := 2) (Nat.le_of_ble_eq_true rfl)
  rw [lg_entry_eq]
  generalize (lg_sl ([.int (nI a), .int (nI b)]) ++ List.replicate (2 - (lg_sl ([.int (nI a), .int (nI b)])).length) Slot.unset).toArray = ls at hl ⊢
  have hl : lv_has ls 2 [(0, .int (nI a)), (1, .int (nI b))] := hl
  refine lv_iload_n hx hb d_W_at_0 rfl (lv_at hl 0 rfl) ?_
  refine lv_bipush (v := nI 20) hx hb d_W_at_1 (by decide) ?_
  refine nr_imul hx hb d_W_at_3 ?_
  refine lv_iload_n hx hb d_W_at_4 rfl (lv_at hl 1 rfl) ?_
  refine nr_iadd hx hb d_W_at_5 ?_
  exact ro_iret hx hb hr hlocks hS rfl d_W_at_6
set_option maxHeartbeats 4000000 in
set_option maxRecDepth 100000 in
theorem c_W_isThere (l : Launch) (dC : Nat → ClassId) (dI : Nat → Nat → Nat) (cI cL : ClassId) (wy g cA rA : Nat) (mv : Int32) (tl : Nat) (ct : Nat → Nat) (a b : Nat) (ha : a < 20) (hb1 : b < 20) (hc : ct (a * 20 + b) < 2 ^ 63) : Met l y_W_isThere w_W_isThere ({ frames := 1, cells := 0, slots := 0, locals := 21 } : Room) (va_Pc [.ref wy, .int (nI a), .int (nI b)] (ro_B (dC, dI) classes [(cI, .int), (cL, .long)] [cg_W wy g cA rA mv tl, cg_L cA cL 400 ct])) (ro_Qi (nb_i (!decide (ct (a * 20 + b) = dm_FAR)))) 0 0 ro_A := by
  refine Met.ofW (cc := b_W_isThere) (maxL := 3) (ret := (some .boolean)) (by decide) rfl ?_
  intro p e s m args below meth c s₁ B hml hv
  obtain ⟨rfl, hP, hK⟩ := hv
  have hx := B.exec
  have hb := B.bytes
  have hr := B.returns
  have hts := atoms_spec (ws := w_W_isThere) B.pre
  have hown : s.vm.findClass R_W = some m.cls := findClass_of_methodNamed B.named
  have hlocks := B.notSynchronized
  have iW : ∀ w ∈ w_W, w ∈ w_W_isThere := fun w h => List.mem_cons_of_mem _ (i_W w h)
  have hS : va_S ro_A s.heap s.heap [] := va_S.rf
  have hP : va_P (dC, dI) classes [cg_W wy g cA rA mv tl, cg_L cA cL 400 ct] s.heap := hP
  have hl := lv_entry ([.ref wy, .int (nI a), .int (nI b)]) (n := 3) (Nat.le_of_ble_eq_true rfl)
  rw [lg_entry_eq]
  generalize (lg_sl ([.ref wy, .int (nI a), .int (nI b)]) ++ List.replicate (3 - (lg_sl ([.ref wy, .int (nI a), .int (nI b)])).length) Slot.unset).toArray = ls at hl ⊢
  have hl : lv_has ls 3 [(0, .ref wy), (1, .int (nI a)), (2, .int (nI b))] := hl
  refine lv_aload_n hx hb d_W_isThere_0 rfl (lv_at hl 0 rfl) ?_
  refine va_get (D := (dC, dI)) (ci := 1) (v := .ref cA) (C := R_W) (T := F_W) (N := 5) hx hb hts iW hown hK hP 0 rfl rfl 1 (by decide) (hts _ (List.mem_cons_of_mem _ wk_W_9)) (fun _ h9 => h9) rfl d_W_isThere_1 ?_
  refine lv_iload_n hx hb d_W_isThere_4 rfl (lv_at hl 1 rfl) ?_
  refine lv_iload_n hx hb d_W_isThere_5 rfl (lv_at hl 2 rfl) ?_
  refine ro_Si (As := [.int (nI a), .int (nI b)]) (rest := [.ref cA]) ⟨hx, hb, hml, hown, hts⟩ (c_W_at l dC dI cI cL a b ) (cwS 2 hts (wg_S wk_W_66 ws_W_at wi_W wc_W_at) rfl rfl rfl (by decide +kernel) ⟨Nat.le_of_ble_eq_true rfl, Nat.le_of_ble_eq_true rfl⟩) hK (hP.sub [] rfl) rfl hl.1 rfl (lv_room (Nat.le_of_ble_eq_true rfl)) d_W_isThere_6 ⟨Nat.zero_le _, Nat.zero_le _⟩ hS hP (fun H locs hP hS => ?_)
  refine nr_lald hx hb hK hP 1 1 rfl rfl (by omega) (by decide) d_W_isThere_9 ?_
  refine lv_ldc2 (v := 1000000000000) hx hb hown (hts _ (List.mem_cons_of_mem _ wk_W_70)) d_W_isThere_10 ?_
  refine nr_asL (v := lN 1000000000000) (by decide) ?_
  refine W.lcmp hx hb d_W_isThere_13 ?_
  refine nr_lif_eq (by omega) (by omega) (tgt := 21) hx hb d_W_isThere_14 (by decide) (fun c_14 => ?_) (fun c_14 => ?_)
  · refine lv_iconst (v := nI 0) hx hb d_W_isThere_21 (by decide) ?_
    exact ro_zret hx hb hr hlocks hS rfl (by simp [nb_i, dm_FAR, *]) d_W_isThere_22
  · refine lv_iconst (v := nI 1) hx hb d_W_isThere_17 (by decide) ?_
    refine lv_goto (tgt := 22) hx hb d_W_isThere_18 (by decide) ?_
    exact ro_zret hx hb hr hlocks hS rfl (by simp [nb_i, dm_FAR, *]) d_W_isThere_22
set_option maxHeartbeats 4000000 in
set_option maxRecDepth 100000 in
theorem c_W_weightBetween (l : Launch) (dC : Nat → ClassId) (dI : Nat → Nat → Nat) (cI cL : ClassId) (wy g cA rA : Nat) (mv : Int32) (tl : Nat) (ct : Nat → Nat) (a b : Nat) (ha : a < 20) (hb1 : b < 20) (hc : ct (a * 20 + b) < 2 ^ 63) : Met l y_W_weightBetween w_W_weightBetween ({ frames := 1, cells := 0, slots := 0, locals := 21 } : Room) (va_Pc [.ref wy, .int (nI a), .int (nI b)] (ro_B (dC, dI) classes [(cI, .int), (cL, .long)] [cg_W wy g cA rA mv tl, cg_L cA cL 400 ct])) (ro_Qi (nI (ct (a * 20 + b) / 64))) 0 0 ro_A := by
  refine Met.ofW (cc := b_W_weightBetween) (maxL := 3) (ret := (some .int)) (by decide) rfl ?_
  intro p e s m args below meth c s₁ B hml hv
  obtain ⟨rfl, hP, hK⟩ := hv
  have hx := B.exec
  have hb := B.bytes
  have hr := B.returns
  have hts := atoms_spec (ws := w_W_weightBetween) B.pre
  have hown : s.vm.findClass R_W = some m.cls := findClass_of_methodNamed B.named
  have hlocks := B.notSynchronized
  have iW : ∀ w ∈ w_W, w ∈ w_W_weightBetween := fun w h => List.mem_cons_of_mem _ (i_W w h)
  have hS : va_S ro_A s.heap s.heap [] := va_S.rf
  have hP : va_P (dC, dI) classes [cg_W wy g cA rA mv tl, cg_L cA cL 400 ct] s.heap := hP
  have hl := lv_entry ([.ref wy, .int (nI a), .int (nI b)]) (n := 3) (Nat.le_of_ble_eq_true rfl)
  rw [lg_entry_eq]
  generalize (lg_sl ([.ref wy, .int (nI a), .int (nI b)]) ++ List.replicate (3 - (lg_sl ([.ref wy, .int (nI a), .int (nI b)])).length) Slot.unset).toArray = ls at hl ⊢
  have hl : lv_has ls 3 [(0, .ref wy), (1, .int (nI a)), (2, .int (nI b))] := hl
  refine lv_aload_n hx hb d_W_weightBetween_0 rfl (lv_at hl 0 rfl) ?_
  refine va_get (D := (dC, dI)) (ci := 1) (v := .ref cA) (C := R_W) (T := F_W) (N := 5) hx hb hts iW hown hK hP 0 rfl rfl 1 (by decide) (hts _ (List.mem_cons_of_mem _ wk_W_9)) (fun _ h9 => h9) rfl d_W_weightBetween_1 ?_
  refine lv_iload_n hx hb d_W_weightBetween_4 rfl (lv_at hl 1 rfl) ?_
  refine lv_iload_n hx hb d_W_weightBetween_5 rfl (lv_at hl 2 rfl) ?_
  refine ro_Si (As := [.int (nI a), .int (nI b)]) (rest := [.ref cA]) ⟨hx, hb, hml, hown, hts⟩ (c_W_at l dC dI cI cL a b ) (cwS 2 hts (wg_S wk_W_66 ws_W_at wi_W wc_W_at) rfl rfl rfl (by decide +kernel) ⟨Nat.le_of_ble_eq_true rfl, Nat.le_of_ble_eq_true rfl⟩) hK (hP.sub [] rfl) rfl hl.1 rfl (lv_room (Nat.le_of_ble_eq_true rfl)) d_W_weightBetween_6 ⟨Nat.zero_le _, Nat.zero_le _⟩ hS hP (fun H locs hP hS => ?_)
  refine nr_lald hx hb hK hP 1 1 rfl rfl (by omega) (by decide) d_W_weightBetween_9 ?_
  refine lv_ldc2 (v := 64) hx hb hown (hts _ (List.mem_cons_of_mem _ wk_W_72)) d_W_weightBetween_10 ?_
  refine nr_asL (v := lN 64) (by decide) ?_
  refine nr_ldiv (by omega) (by omega) (by omega) hx hb d_W_weightBetween_13 ?_
  refine lv_l2i (v := nI ((ct (a * 20 + b)) / 64)) hx hb d_W_weightBetween_14 (lN_i _) ?_
  exact ro_iret hx hb hr hlocks hS rfl d_W_weightBetween_15
set_option maxHeartbeats 4000000 in
set_option maxRecDepth 100000 in
theorem c_W_edgeCost (l : Launch) (dC : Nat → ClassId) (dI : Nat → Nat → Nat) (cI cL : ClassId) (g tA oA uA wA sA np ne : Nat) (bd : Int32) (er : Int64) (vr : Nat) (wy cA rA : Nat) (mv : Int32) (tl : Nat) (wt : Nat → Nat) (k : Nat) (hk : k < 60) (hw : ng_w er wt k ≤ 1000000) : Met l y_W_edgeCost w_W_edgeCost ({ frames := 1, cells := 0, slots := 0, locals := 21 } : Room) (va_Pc [.ref wy, .int (nI k)] (ro_B (dC, dI) classes [(cI, .int), (cL, .long)] [cg_G g tA oA uA wA sA np ne bd er vr, cg_N wA cI 60 wt, cg_W wy g cA rA mv tl])) (ro_Ql (lN (ng_w er wt k * 64 + 1))) 0 0 ro_A := by
  refine Met.ofW (cc := b_W_edgeCost) (maxL := 2) (ret := (some .long)) (by decide) rfl ?_
  intro p e s m args below meth c s₁ B hml hv
  obtain ⟨rfl, hP, hK⟩ := hv
  have hx := B.exec
  have hb := B.bytes
  have hr := B.returns
  have hts := atoms_spec (ws := w_W_edgeCost) B.pre
  have hown : s.vm.findClass R_W = some m.cls := findClass_of_methodNamed B.named
  have hlocks := B.notSynchronized
  have iW : ∀ w ∈ w_W, w ∈ w_W_edgeCost := fun w h => List.mem_cons_of_mem _ (i_W w h)
  have hS : va_S ro_A s.heap s.heap [] := va_S.rf
  have hP : va_P (dC, dI) classes [cg_G g tA oA uA wA sA np ne bd er vr, cg_N wA cI 60 wt, cg_W wy g cA rA mv tl] s.heap := hP
  have hl := lv_entry ([.ref wy, .int (nI k)]) (n := 2) (Nat.le_of_ble_eq_true rfl)
  rw [lg_entry_eq]
  generalize (lg_sl ([.ref wy, .int (nI k)]) ++ List.replicate (2 - (lg_sl ([.ref wy, .int (nI k)])).length) Slot.unset).toArray = ls at hl ⊢
  have hl : lv_has ls 2 [(0, .ref wy), (1, .int (nI k))] := hl
  refine lv_aload_n hx hb d_W_edgeCost_0 rfl (lv_at hl 0 rfl) ?_
  refine va_get (D := (dC, dI)) (ci := 1) (v := .ref g) (C := R_W) (T := F_W) (N := 5) hx hb hts iW hown hK hP 2 rfl rfl 0 (by decide) (hts _ (List.mem_cons_of_mem _ wk_W_26)) (fun _ h9 => h9) rfl d_W_edgeCost_1 ?_
  refine lv_iload_n hx hb d_W_edgeCost_4 rfl (lv_at hl 1 rfl) ?_
  refine ro_Vi (As := [.int (nI k)]) (rest := []) ⟨hx, hb, hml, hown, hts⟩ (c_G_weightNow l dC dI cI cL g tA oA uA wA sA np ne bd er vr wt k (by omega)) (cwV 1 hts (wg_V wk_W_88 wm_G_weightNow we_G_weightNow wi_G wc_G_weightNow) rfl rfl rfl (by decide +kernel) ⟨Nat.le_of_ble_eq_true rfl, Nat.le_of_ble_eq_true rfl⟩) hK (hP.sub [0, 1] rfl) (q0 := 0) rfl rfl rfl rfl hl.1 rfl (lv_room (Nat.le_of_ble_eq_true rfl)) d_W_edgeCost_5 ⟨Nat.zero_le _, Nat.zero_le _⟩ hS hP (fun H locs hP hS => ?_)
  refine lv_i2l (v := lN (ng_w er wt k)) hx hb d_W_edgeCost_8 (nI_l (by omega)) ?_
  refine lv_ldc2 (v := 64) hx hb hown (hts _ (List.mem_cons_of_mem _ wk_W_72)) d_W_edgeCost_9 ?_
  refine nr_asL (v := lN 64) (by decide) ?_
  refine nr_lmul hx hb d_W_edgeCost_12 ?_
  refine lv_lconst (v := lN 1) hx hb d_W_edgeCost_13 (by decide) ?_
  refine nr_ladd hx hb d_W_edgeCost_14 ?_
  exact ro_lret hx hb hr hlocks hS rfl d_W_edgeCost_15
set_option maxHeartbeats 4000000 in
set_option maxRecDepth 100000 in
theorem c_W_lower (l : Launch) (dC : Nat → ClassId) (dI : Nat → Nat → Nat) (cI cL : ClassId) (wy g cA rA : Nat) (mv : Int32) (tl : Nat) (ct : Nat → Nat) (a b cv : Nat) (ha : a < 20) (hb1 : b < 20) (hc : ct (a * 20 + b) < 2 ^ 63) (hc2 : cv < 2 ^ 63) : Met l y_W_lower w_W_lower ({ frames := 1, cells := 0, slots := 0, locals := 21 } : Room) (va_Pc [.ref wy, .int (nI a), .int (nI b), .long (lN cv)] (rw_B (dC, dI) classes [(cI, .int), (cL, .long)] [cg_W wy g cA rA mv tl, cg_L cA cL 400 ct])) (rw_Qv (dC, dI) classes (rw_A [cg_W wy g cA rA mv tl, cg_L cA cL 400 ct]) (fun (u : Unit) => True) (fun u => [cg_W wy g cA rA mv tl, cg_L cA cL 400 (ng_low ct (a * 20 + b) cv)])) 0 0 (rw_A [cg_W wy g cA rA mv tl, cg_L cA cL 400 ct]) := by
  refine Met.ofW (cc := b_W_lower) (maxL := 5) (ret := none) (by decide) rfl ?_
  intro p e s m args below meth c s₁ B hml hv
  obtain ⟨rfl, hP, hK, hD0⟩ := hv
  have hx := B.exec
  have hb := B.bytes
  have hr := B.returns
  have hts := atoms_spec (ws := w_W_lower) B.pre
  have hown : s.vm.findClass R_W = some m.cls := findClass_of_methodNamed B.named
  have hlocks := B.notSynchronized
  have iW : ∀ w ∈ w_W, w ∈ w_W_lower := fun w h => List.mem_cons_of_mem _ (i_W w h)
  have hD := rw_own hD0
  generalize hAe : rw_A [cg_W wy g cA rA mv tl, cg_L cA cL 400 ct] = A at hD ⊢
  have hS : va_S A s.heap s.heap [] := va_S.rf
  have hP : va_P (dC, dI) classes [cg_W wy g cA rA mv tl, cg_L cA cL 400 ct] s.heap := hP
  have hl := lv_entry ([.ref wy, .int (nI a), .int (nI b), .long (lN cv)]) (n := 5) (Nat.le_of_ble_eq_true rfl)
  rw [lg_entry_eq]
  generalize (lg_sl ([.ref wy, .int (nI a), .int (nI b), .long (lN cv)]) ++ List.replicate (5 - (lg_sl ([.ref wy, .int (nI a), .int (nI b), .long (lN cv)])).length) Slot.unset).toArray = ls at hl ⊢
  have hl : lv_has ls 5 [(0, .ref wy), (1, .int (nI a)), (2, .int (nI b)), (3, .long (lN cv))] := hl
  refine lv_lload_n hx hb d_W_lower_0 rfl (lv_at hl 3 rfl) ?_
  refine lv_aload_n hx hb d_W_lower_1 rfl (lv_at hl 0 rfl) ?_
  refine va_get (D := (dC, dI)) (ci := 1) (v := .ref cA) (C := R_W) (T := F_W) (N := 5) hx hb hts iW hown hK hP 0 rfl rfl 1 (by decide) (hts _ (List.mem_cons_of_mem _ wk_W_9)) (fun _ h9 => h9) rfl d_W_lower_2 ?_
  refine lv_iload_n hx hb d_W_lower_5 rfl (lv_at hl 1 rfl) ?_
  refine lv_iload_n hx hb d_W_lower_6 rfl (lv_at hl 2 rfl) ?_
  refine ro_Si (As := [.int (nI a), .int (nI b)]) (rest := [.ref cA, .long (lN cv)]) ⟨hx, hb, hml, hown, hts⟩ (c_W_at l dC dI cI cL a b ) (cwS 2 hts (wg_S wk_W_66 ws_W_at wi_W wc_W_at) rfl rfl rfl (by decide +kernel) ⟨Nat.le_of_ble_eq_true rfl, Nat.le_of_ble_eq_true rfl⟩) hK (hP.sub [] rfl) rfl hl.1 rfl (lv_room (Nat.le_of_ble_eq_true rfl)) d_W_lower_7 ⟨Nat.zero_le _, Nat.zero_le _⟩ hS hP (fun H locs hP hS => ?_)
  refine nr_lald hx hb hK hP 1 1 rfl rfl (by omega) (by decide) d_W_lower_10 ?_
  refine W.lcmp hx hb d_W_lower_11 ?_
  refine nr_lif_ge (by omega) (by omega) (tgt := 26) hx hb d_W_lower_12 (by decide) (fun c_12 => ?_) (fun c_12 => ?_)
  · have e_low : ng_low ct (a * 20 + b) cv = ct := if_neg (by omega)
    rw [e_low]
    exact rw_vret () hx hb hr hlocks hS hP trivial d_W_lower_26
  · have e_low : ng_low ct (a * 20 + b) cv = va_up ct (a * 20 + b) cv := if_pos (by omega)
    rw [e_low]
    refine lv_aload_n hx hb d_W_lower_15 rfl (lv_at hl 0 rfl) ?_
    refine va_get (D := (dC, dI)) (ci := 1) (v := .ref cA) (C := R_W) (T := F_W) (N := 5) hx hb hts iW hown hK hP 0 rfl rfl 1 (by decide) (hts _ (List.mem_cons_of_mem _ wk_W_9)) (fun _ h9 => h9) rfl d_W_lower_16 ?_
    refine lv_iload_n hx hb d_W_lower_19 rfl (lv_at hl 1 rfl) ?_
    refine lv_iload_n hx hb d_W_lower_20 rfl (lv_at hl 2 rfl) ?_
    refine ro_Si (As := [.int (nI a), .int (nI b)]) (rest := [.ref cA]) ⟨hx, hb, hml, hown, hts⟩ (c_W_at l dC dI cI cL a b ) (cwS 2 hts (wg_S wk_W_66 ws_W_at wi_W wc_W_at) rfl rfl rfl (by decide +kernel) ⟨Nat.le_of_ble_eq_true rfl, Nat.le_of_ble_eq_true rfl⟩) hK (hP.sub [] rfl) rfl hl.1 rfl (lv_room (Nat.le_of_ble_eq_true rfl)) d_W_lower_21 ⟨Nat.zero_le _, Nat.zero_le _⟩ hS hP (fun H locs hP hS => ?_)
    refine lv_lload_n hx hb d_W_lower_24 rfl (lv_at hl 3 rfl) ?_
    refine nr_last hx hb hK hP hD hS 1 1 rfl rfl (by omega) (by decide) d_W_lower_25 (fun H locs hP hD hS => ?_)
    have hP : va_P (dC, dI) classes [cg_W wy g cA rA mv tl, cg_L cA cL 400 (va_up ct (a * 20 + b) cv)] H := hP
    have hD : va_D A [cg_W wy g cA rA mv tl, cg_L cA cL 400 (va_up ct (a * 20 + b) cv)] := hD
    exact rw_vret () hx hb hr hlocks hS hP trivial d_W_lower_26
set_option maxHeartbeats 4000000 in
set_option maxRecDepth 100000 in
theorem c_W_clearCosts (l : Launch) (dC : Nat → ClassId) (dI : Nat → Nat → Nat) (cI cL : ClassId) (g tA oA uA wA sA np ne : Nat) (bd : Int32) (er : Int64) (vr : Nat) (wy cA rA : Nat) (mv : Int32) (tl : Nat) (ct : Nat → Nat) (hnp : np ≤ 20) (hct : ∀ i, i < 400 → ct i ≤ dm_FAR) : Met l y_W_clearCosts w_W_clearCosts ({ frames := 1, cells := 0, slots := 0, locals := 21 } : Room) (va_Pc [.ref wy] (rw_B (dC, dI) classes [(cI, .int), (cL, .long)] [cg_G g tA oA uA wA sA np ne bd er vr, cg_W wy g cA rA mv tl, cg_L cA cL 400 ct])) (rw_Qv (dC, dI) classes (rw_A [cg_G g tA oA uA wA sA np ne bd er vr, cg_W wy g cA rA mv tl, cg_L cA cL 400 ct]) (fun (u : (Nat → Nat)) => (∀ x y, x < np → y < np → u (x * 20 + y) = if x = y then 0 else dm_FAR) ∧ (∀ i, i < 400 → u i ≤ dm_FAR)) (fun u => [cg_G g tA oA uA wA sA np ne bd er vr, cg_W wy g cA rA mv tl, cg_L cA cL 400 u])) 0 0 (rw_A [cg_G g tA oA uA wA sA np ne bd er vr, cg_W wy g cA rA mv tl, cg_L cA cL 400 ct]) := by
  refine Met.ofW (cc := b_W_clearCosts) (maxL := 3) (ret := none) (by decide) rfl ?_
  intro p e s m args below meth c s₁ B hml hv
  obtain ⟨rfl, hP, hK, hD0⟩ := hv
  have hx := B.exec
  have hb := B.bytes
  have hr := B.returns
  have hts := atoms_spec (ws := w_W_clearCosts) B.pre
  have hown : s.vm.findClass R_W = some m.cls := findClass_of_methodNamed B.named
  have hlocks := B.notSynchronized
  have iG : ∀ w ∈ w_G, w ∈ w_W_clearCosts := fun w h => List.mem_cons_of_mem _ (i_G w h)
  have iW : ∀ w ∈ w_W, w ∈ w_W_clearCosts := fun w h => List.mem_cons_of_mem _ (i_W w h)
  have hD := rw_own hD0
  generalize hAe : rw_A [cg_G g tA oA uA wA sA np ne bd er vr, cg_W wy g cA rA mv tl, cg_L cA cL 400 ct] = A at hD ⊢
  have hS : va_S A s.heap s.heap [] := va_S.rf
  have hP : va_P (dC, dI) classes [cg_G g tA oA uA wA sA np ne bd er vr, cg_W wy g cA rA mv tl, cg_L cA cL 400 ct] s.heap := hP
  have hl := lv_entry ([.ref wy]) (n := 3) (Nat.le_of_ble_eq_true rfl)
  rw [lg_entry_eq]
  generalize (lg_sl ([.ref wy]) ++ List.replicate (3 - (lg_sl ([.ref wy])).length) Slot.unset).toArray = ls at hl ⊢
  have hl : lv_has ls 3 [(0, .ref wy)] := hl
  refine lv_iconst (v := nI 0) hx hb d_W_clearCosts_0 (by decide) ?_
  refine lv_istore_n (lv' := [(1, .int (nI 0)), (0, .ref wy)]) hx hb d_W_clearCosts_1 rfl hl (by decide) rfl (fun ls hl => ?_)
  have lp_2 : ∀ (n : Nat) (i : Nat) (ct1 : Nat → Nat), (i ≤ np) → ((∀ x y, x < np → y < np → x < i → ct1 (x * 20 + y) = if x = y then 0 else dm_FAR)) → (∀ i, i < 400 → ct1 i ≤ dm_FAR) → np - i < n → ∀ (H : Heap) (locs : List Loc), va_P (dC, dI) classes [cg_G g tA oA uA wA sA np ne bd er vr, cg_W wy g cA rA mv tl, cg_L cA cL 400 ct1] H → va_D A [cg_G g tA oA uA wA sA np ne bd er vr, cg_W wy g cA rA mv tl, cg_L cA cL 400 ct1] → va_S A s.heap H locs → ∀ (ls : Array Slot), lv_has ls 3 [(0, .ref wy), (1, .int (nI i))] → W p l e (headSpec w_W_clearCosts ({ frames := 1, cells := 0, slots := 0, locals := 21 } : Room)).room s m ([.ref wy] : List Value).toArray below meth c H locs 0 0 (MQ below (rw_Qv (dC, dI) classes A (fun (u : (Nat → Nat)) => (∀ x y, x < np → y < np → u (x * 20 + y) = if x = y then 0 else dm_FAR) ∧ (∀ i, i < 400 → u i ≤ dm_FAR)) (fun u => [cg_G g tA oA uA wA sA np ne bd er vr, cg_W wy g cA rA mv tl, cg_L cA cL 400 u])) ([.ref wy] : List Value).toArray s 0 0 A) (F0 m 2 ls []) := by
    intro n
    induction n with
    | zero => intro i ct1 hi ho hf1 hme; exact absurd hme (Nat.not_lt_zero _)
    | succ n ih =>
      intro i ct1 hi ho hf1 hme H locs hP hD hS ls hl
      have ih_2 := ih
      refine lv_iload_n hx hb d_W_clearCosts_2 rfl (lv_at hl 1 rfl) ?_
      refine lv_aload_n hx hb d_W_clearCosts_3 rfl (lv_at hl 0 rfl) ?_
      refine va_get (D := (dC, dI)) (ci := 1) (v := .ref g) (C := R_W) (T := F_W) (N := 5) hx hb hts iW hown hK hP 1 rfl rfl 0 (by decide) (hts _ (List.mem_cons_of_mem _ wk_W_26)) (fun _ h9 => h9) rfl d_W_clearCosts_4 ?_
      refine va_get (D := (dC, dI)) (ci := 0) (v := .int (nI np)) (C := R_G) (T := F_G) (N := 10) hx hb hts iG hown hK hP 0 rfl rfl 5 (by decide) (hts _ (List.mem_cons_of_mem _ wk_W_55)) (fun _ h9 => h9) rfl d_W_clearCosts_7 ?_
      refine nr_icmp_ge (by omega) (by omega) (tgt := 60) hx hb d_W_clearCosts_10 (by decide) (fun c_10 => ?_) (fun c_10 => ?_)
      · exact rw_vret ct1 hx hb hr hlocks hS hP (⟨fun x y hx hy => ho x y hx hy (by omega), hf1⟩) d_W_clearCosts_60
      · refine lv_iconst (v := nI 0) hx hb d_W_clearCosts_13 (by decide) ?_
        refine lv_istore_n (lv' := [(2, .int (nI 0)), (0, .ref wy), (1, .int (nI i))]) hx hb d_W_clearCosts_14 rfl hl (by decide) rfl (fun ls hl => ?_)
        have lp_15 : ∀ (n : Nat) (j : Nat) (ct1 : Nat → Nat), (j ≤ np) → ((∀ x y, x < np → y < np → (x < i ∨ (x = i ∧ y < j)) → ct1 (x * 20 + y) = if x = y then 0 else dm_FAR)) → (∀ i, i < 400 → ct1 i ≤ dm_FAR) → np - j < n → ∀ (H : Heap) (locs : List Loc), va_P (dC, dI) classes [cg_G g tA oA uA wA sA np ne bd er vr, cg_W wy g cA rA mv tl, cg_L cA cL 400 ct1] H → va_D A [cg_G g tA oA uA wA sA np ne bd er vr, cg_W wy g cA rA mv tl, cg_L cA cL 400 ct1] → va_S A s.heap H locs → ∀ (ls : Array Slot), lv_has ls 3 [(0, .ref wy), (1, .int (nI i)), (2, .int (nI j))] → W p l e (headSpec w_W_clearCosts ({ frames := 1, cells := 0, slots := 0, locals := 21 } : Room)).room s m ([.ref wy] : List Value).toArray below meth c H locs 0 0 (MQ below (rw_Qv (dC, dI) classes A (fun (u : (Nat → Nat)) => (∀ x y, x < np → y < np → u (x * 20 + y) = if x = y then 0 else dm_FAR) ∧ (∀ i, i < 400 → u i ≤ dm_FAR)) (fun u => [cg_G g tA oA uA wA sA np ne bd er vr, cg_W wy g cA rA mv tl, cg_L cA cL 400 u])) ([.ref wy] : List Value).toArray s 0 0 A) (F0 m 15 ls []) := by
          intro n
          induction n with
          | zero => intro j ct1 hj ho2 hf1 hme; exact absurd hme (Nat.not_lt_zero _)
          | succ n ih =>
            intro j ct1 hj ho2 hf1 hme H locs hP hD hS ls hl
            have ih_15 := ih
            refine lv_iload_n hx hb d_W_clearCosts_15 rfl (lv_at hl 2 rfl) ?_
            refine lv_aload_n hx hb d_W_clearCosts_16 rfl (lv_at hl 0 rfl) ?_
            refine va_get (D := (dC, dI)) (ci := 1) (v := .ref g) (C := R_W) (T := F_W) (N := 5) hx hb hts iW hown hK hP 1 rfl rfl 0 (by decide) (hts _ (List.mem_cons_of_mem _ wk_W_26)) (fun _ h9 => h9) rfl d_W_clearCosts_17 ?_
            refine va_get (D := (dC, dI)) (ci := 0) (v := .int (nI np)) (C := R_G) (T := F_G) (N := 10) hx hb hts iG hown hK hP 0 rfl rfl 5 (by decide) (hts _ (List.mem_cons_of_mem _ wk_W_55)) (fun _ h9 => h9) rfl d_W_clearCosts_20 ?_
            refine nr_icmp_ge (by omega) (by omega) (tgt := 54) hx hb d_W_clearCosts_23 (by decide) (fun c_23 => ?_) (fun c_23 => ?_)
            · have ho2 := ho2
              refine lv_iinc (v := (nI (i + 1))) (lv' := [(1, .int (nI (i + 1))), (0, .ref wy), (2, .int (nI j))]) hx hb d_W_clearCosts_54 hl (k := 1) rfl (nI_1 i) (by decide) rfl (fun ls hl => ?_)
              refine lv_goto (tgt := 2) hx hb d_W_clearCosts_57 (by decide) ?_
              exact ih_2 (i + 1) ct1 (by omega) (fun x y hx hy h => ho2 x y hx hy (by omega)) hf1 (by omega) _ _ hP hD hS ls (lv_sub hl [1, 0] rfl)
            · refine lv_aload_n hx hb d_W_clearCosts_26 rfl (lv_at hl 0 rfl) ?_
              refine va_get (D := (dC, dI)) (ci := 1) (v := .ref cA) (C := R_W) (T := F_W) (N := 5) hx hb hts iW hown hK hP 1 rfl rfl 1 (by decide) (hts _ (List.mem_cons_of_mem _ wk_W_9)) (fun _ h9 => h9) rfl d_W_clearCosts_27 ?_
              refine lv_iload_n hx hb d_W_clearCosts_30 rfl (lv_at hl 1 rfl) ?_
              refine lv_iload_n hx hb d_W_clearCosts_31 rfl (lv_at hl 2 rfl) ?_
              refine ro_Si (As := [.int (nI i), .int (nI j)]) (rest := [.ref cA]) ⟨hx, hb, hml, hown, hts⟩ (c_W_at l dC dI cI cL i j ) (cwS 2 hts (wg_S wk_W_66 ws_W_at wi_W wc_W_at) rfl rfl rfl (by decide +kernel) ⟨Nat.le_of_ble_eq_true rfl, Nat.le_of_ble_eq_true rfl⟩) hK (hP.sub [] rfl) rfl hl.1 rfl (lv_room (Nat.le_of_ble_eq_true rfl)) d_W_clearCosts_32 ⟨Nat.zero_le _, Nat.zero_le _⟩ hS hP (fun H locs hP hS => ?_)
              refine lv_iload_n hx hb d_W_clearCosts_35 rfl (lv_at hl 1 rfl) ?_
              refine lv_iload_n hx hb d_W_clearCosts_36 rfl (lv_at hl 2 rfl) ?_
              refine nr_icmp_ne (by omega) (by omega) (tgt := 44) hx hb d_W_clearCosts_37 (by decide) (fun c_37 => ?_) (fun c_37 => ?_)
              · refine lv_ldc2 (v := 1000000000000) hx hb hown (hts _ (List.mem_cons_of_mem _ wk_W_70)) d_W_clearCosts_44 ?_
                refine nr_asL (v := lN 1000000000000) (by decide) ?_
                refine nr_last hx hb hK hP hD hS 2 1 rfl rfl (by omega) (by decide) d_W_clearCosts_47 (fun H locs hP hD hS => ?_)
                have hP : va_P (dC, dI) classes [cg_G g tA oA uA wA sA np ne bd er vr, cg_W wy g cA rA mv tl, cg_L cA cL 400 (va_up ct1 (i * 20 + j) 1000000000000)] H := hP
                have hD : va_D A [cg_G g tA oA uA wA sA np ne bd er vr, cg_W wy g cA rA mv tl, cg_L cA cL 400 (va_up ct1 (i * 20 + j) 1000000000000)] := hD
                refine lv_iinc (v := (nI (j + 1))) (lv' := [(2, .int (nI (j + 1))), (0, .ref wy), (1, .int (nI i))]) hx hb d_W_clearCosts_48 hl (k := 2) rfl (nI_1 j) (by decide) rfl (fun ls hl => ?_)
                refine lv_goto (tgt := 15) hx hb d_W_clearCosts_51 (by decide) ?_
                exact ih_15 (j + 1) (va_up ct1 (i * 20 + j) 1000000000000) (by omega) (ng_clr c_10 c_23 hnp (by simp [c_37, dm_FAR]) ho2) (ng_up_far hf1 (by simp [dm_FAR])) (by omega) _ _ hP hD hS ls (lv_sub hl [1, 2, 0] rfl)
              · refine lv_lconst (v := lN 0) hx hb d_W_clearCosts_40 (by decide) ?_
                refine lv_goto (tgt := 47) hx hb d_W_clearCosts_41 (by decide) ?_
                refine nr_last hx hb hK hP hD hS 2 1 rfl rfl (by omega) (by decide) d_W_clearCosts_47 (fun H locs hP hD hS => ?_)
                have hP : va_P (dC, dI) classes [cg_G g tA oA uA wA sA np ne bd er vr, cg_W wy g cA rA mv tl, cg_L cA cL 400 (va_up ct1 (i * 20 + j) 0)] H := hP
                have hD : va_D A [cg_G g tA oA uA wA sA np ne bd er vr, cg_W wy g cA rA mv tl, cg_L cA cL 400 (va_up ct1 (i * 20 + j) 0)] := hD
                refine lv_iinc (v := (nI (j + 1))) (lv' := [(2, .int (nI (j + 1))), (0, .ref wy), (1, .int (nI i))]) hx hb d_W_clearCosts_48 hl (k := 2) rfl (nI_1 j) (by decide) rfl (fun ls hl => ?_)
                refine lv_goto (tgt := 15) hx hb d_W_clearCosts_51 (by decide) ?_
                exact ih_15 (j + 1) (va_up ct1 (i * 20 + j) 0) (by omega) (ng_clr c_10 c_23 hnp (by simp [c_37, dm_FAR]) ho2) (ng_up_far hf1 (by simp [dm_FAR])) (by omega) _ _ hP hD hS ls (lv_sub hl [1, 2, 0] rfl)
        exact lp_15 (np - 0 + 1) 0 ct1 (by omega) (fun x y hx hy h => ho x y hx hy (by omega)) hf1 (Nat.lt_succ_self _) _ _ hP hD hS ls (lv_sub hl [1, 2, 0] rfl)
  exact lp_2 (np - 0 + 1) 0 ct (by omega) (fun x y _ _ h => absurd h (Nat.not_lt_zero _)) hct (Nat.lt_succ_self _) _ _ hP hD hS ls (lv_sub hl [1, 0] rfl)
set_option maxHeartbeats 4000000 in
set_option maxRecDepth 100000 in
theorem c_W_firstEdgeTowards (l : Launch) (dC : Nat → ClassId) (dI : Nat → Nat → Nat) (cI cL : ClassId) (g tA oA uA wA sA np ne : Nat) (bd : Int32) (er : Int64) (vr : Nat) (wy cA rA : Nat) (mv : Int32) (tl : Nat) (oe ot wt ct : Nat → Nat) (h z : Nat) (hh : h < 20) (hz : z < 20) (hne : ne ≤ 60) (hE : ∀ i, i < ne → oe i < 20 ∧ ot i < 20) (hW : ∀ i, i < ne → ng_w er wt i ≤ 1000000) (hct : ∀ i, i < 400 → ct i ≤ dm_FAR) : Met l y_W_firstEdgeTowards w_W_firstEdgeTowards ({ frames := 2, cells := 0, slots := 0, locals := 42 } : Room) (va_Pc [.ref wy, .int (nI h), .int (nI z)] (ro_B (dC, dI) classes [(cI, .int), (cL, .long)] [cg_G g tA oA uA wA sA np ne bd er vr, cg_N oA cI 60 oe, cg_N uA cI 60 ot, cg_N wA cI 60 wt, cg_W wy g cA rA mv tl, cg_L cA cL 400 ct])) (ro_Qi (ng_oi (ng_fst (ng_ok bd er oe ot wt ct h z) ne 0))) 0 0 ro_A := by
  refine Met.ofW (cc := b_W_firstEdgeTowards) (maxL := 5) (ret := (some .int)) (by decide) rfl ?_
  intro p e s m args below meth c s₁ B hml hv
  obtain ⟨rfl, hP, hK⟩ := hv
  have hx := B.exec
  have hb := B.bytes
  have hr := B.returns
  have hts := atoms_spec (ws := w_W_firstEdgeTowards) B.pre
  have hown : s.vm.findClass R_W = some m.cls := findClass_of_methodNamed B.named
  have hlocks := B.notSynchronized
  have iG : ∀ w ∈ w_G, w ∈ w_W_firstEdgeTowards := fun w h => List.mem_cons_of_mem _ (i_G w h)
  have iW : ∀ w ∈ w_W, w ∈ w_W_firstEdgeTowards := fun w h => List.mem_cons_of_mem _ (i_W w h)
  have hS : va_S ro_A s.heap s.heap [] := va_S.rf
  have hP : va_P (dC, dI) classes [cg_G g tA oA uA wA sA np ne bd er vr, cg_N oA cI 60 oe, cg_N uA cI 60 ot, cg_N wA cI 60 wt, cg_W wy g cA rA mv tl, cg_L cA cL 400 ct] s.heap := hP
  have hl := lv_entry ([.ref wy, .int (nI h), .int (nI z)]) (n := 5) (Nat.le_of_ble_eq_true rfl)
  rw [lg_entry_eq]
  generalize (lg_sl ([.ref wy, .int (nI h), .int (nI z)]) ++ List.replicate (5 - (lg_sl ([.ref wy, .int (nI h), .int (nI z)])).length) Slot.unset).toArray = ls at hl ⊢
  have hl : lv_has ls 5 [(0, .ref wy), (1, .int (nI h)), (2, .int (nI z))] := hl
  refine lv_iconst (v := nI 0) hx hb d_W_firstEdgeTowards_0 (by decide) ?_
  refine lv_istore_n (lv' := [(3, .int (nI 0)), (0, .ref wy), (1, .int (nI h)), (2, .int (nI z))]) hx hb d_W_firstEdgeTowards_1 rfl hl (by decide) rfl (fun ls hl => ?_)
  have lp_2 : ∀ (n : Nat) (i : Nat), (i ≤ ne) → (ng_fst (ng_ok bd er oe ot wt ct h z) ne 0 = ng_fst (ng_ok bd er oe ot wt ct h z) (ne - i) i) → ne - i < n → ∀ (H : Heap) (locs : List Loc), va_P (dC, dI) classes [cg_G g tA oA uA wA sA np ne bd er vr, cg_N oA cI 60 oe, cg_N uA cI 60 ot, cg_N wA cI 60 wt, cg_W wy g cA rA mv tl, cg_L cA cL 400 ct] H → va_S ro_A s.heap H locs → ∀ (ls : Array Slot), lv_has ls 5 [(0, .ref wy), (1, .int (nI h)), (2, .int (nI z)), (3, .int (nI i))] → W p l e (headSpec w_W_firstEdgeTowards ({ frames := 2, cells := 0, slots := 0, locals := 42 } : Room)).room s m ([.ref wy, .int (nI h), .int (nI z)] : List Value).toArray below meth c H locs 0 0 (MQ below (ro_Qi (ng_oi (ng_fst (ng_ok bd er oe ot wt ct h z) ne 0))) ([.ref wy, .int (nI h), .int (nI z)] : List Value).toArray s 0 0 ro_A) (F0 m 2 ls []) := by
    intro n
    induction n with
    | zero => intro i hi hq hme; exact absurd hme (Nat.not_lt_zero _)
    | succ n ih =>
      intro i hi hq hme H locs hP hS ls hl
      have ih_2 := ih
      refine lv_iload_n hx hb d_W_firstEdgeTowards_2 rfl (lv_at hl 3 rfl) ?_
      refine lv_aload_n hx hb d_W_firstEdgeTowards_3 rfl (lv_at hl 0 rfl) ?_
      refine va_get (D := (dC, dI)) (ci := 1) (v := .ref g) (C := R_W) (T := F_W) (N := 5) hx hb hts iW hown hK hP 4 rfl rfl 0 (by decide) (hts _ (List.mem_cons_of_mem _ wk_W_26)) (fun _ h9 => h9) rfl d_W_firstEdgeTowards_4 ?_
      refine va_get (D := (dC, dI)) (ci := 0) (v := .int (nI ne)) (C := R_G) (T := F_G) (N := 10) hx hb hts iG hown hK hP 0 rfl rfl 6 (by decide) (hts _ (List.mem_cons_of_mem _ wk_W_38)) (fun _ h9 => h9) rfl d_W_firstEdgeTowards_7 ?_
      refine nr_icmp_ge (by omega) (by omega) (tgt := 87) hx hb d_W_firstEdgeTowards_10 (by decide) (fun c_10 => ?_) (fun c_10 => ?_)
      · refine lv_iconst (v := -1) hx hb d_W_firstEdgeTowards_87 (by decide) ?_
        exact ro_iret hx hb hr hlocks hS (by rw [hq, show ne - i = 0 by omega]; rfl) d_W_firstEdgeTowards_88
      · have hEi := hE i c_10
        have hWi := hW i c_10
        refine lv_aload_n hx hb d_W_firstEdgeTowards_13 rfl (lv_at hl 0 rfl) ?_
        refine va_get (D := (dC, dI)) (ci := 1) (v := .ref g) (C := R_W) (T := F_W) (N := 5) hx hb hts iW hown hK hP 4 rfl rfl 0 (by decide) (hts _ (List.mem_cons_of_mem _ wk_W_26)) (fun _ h9 => h9) rfl d_W_firstEdgeTowards_14 ?_
        refine lv_iload_n hx hb d_W_firstEdgeTowards_17 rfl (lv_at hl 3 rfl) ?_
        refine lv_iload_n hx hb d_W_firstEdgeTowards_18 rfl (lv_at hl 1 rfl) ?_
        refine ro_Vi (As := [.int (nI i), .int (nI h)]) (rest := []) ⟨hx, hb, hml, hown, hts⟩ (c_G_endBeyond l dC dI cI cL g tA oA uA wA sA np ne bd er vr oe ot i h (by omega) (by omega) (by omega) (by omega)) (cwV 2 hts (wg_V wk_W_85 wm_G_endBeyond we_G_endBeyond wi_G wc_G_endBeyond) rfl rfl rfl (by decide +kernel) ⟨Nat.le_of_ble_eq_true rfl, Nat.le_of_ble_eq_true rfl⟩) hK (hP.sub [0, 1, 2] rfl) (q0 := 0) rfl rfl rfl rfl hl.1 rfl (lv_room (Nat.le_of_ble_eq_true rfl)) d_W_firstEdgeTowards_19 ⟨Nat.zero_le _, Nat.zero_le _⟩ hS hP (fun H locs hP hS => ?_)
        rcases hnx : ng_nx oe ot i h with _ | y
        · refine nr_as (v := -1) rfl ?_
          refine lv_istore (lv' := [(4, .int (-1)), (0, .ref wy), (1, .int (nI h)), (2, .int (nI z)), (3, .int (nI i))]) hx hb d_W_firstEdgeTowards_22 hl (by decide) rfl (fun ls hl => ?_)
          refine lv_iload hx hb d_W_firstEdgeTowards_24 (lv_at hl 0 rfl) ?_
          refine lv_iconst (v := -1) hx hb d_W_firstEdgeTowards_26 (by decide) ?_
          refine lv_icmp_eq (tgt := 81) hx hb d_W_firstEdgeTowards_27 (by decide) (fun c_27 => ?_) (fun c => absurd rfl c)
          refine lv_iinc (v := (nI (i + 1))) (lv' := [(3, .int (nI (i + 1))), (4, .int (-1)), (0, .ref wy), (1, .int (nI h)), (2, .int (nI z))]) hx hb d_W_firstEdgeTowards_81 hl (k := 4) rfl (nI_1 i) (by decide) rfl (fun ls hl => ?_)
          refine lv_goto (tgt := 2) hx hb d_W_firstEdgeTowards_84 (by decide) ?_
          exact ih_2 (i + 1) (by omega) (hq.trans (ng_fst_f c_10 (by first | exact ng_ok_0 hnx | exact ng_ok_1 hnx c_33 c_45 | exact ng_ok_2 hnx c76))) (by omega) _ _ hP hS ls (lv_sub hl [2, 3, 4, 0] rfl)
        · refine nr_as (v := nI y) rfl ?_
          have hy := ng_nx_lt hnx hEi.1 hEi.2
          refine lv_istore (lv' := [(4, .int (nI y)), (0, .ref wy), (1, .int (nI h)), (2, .int (nI z)), (3, .int (nI i))]) hx hb d_W_firstEdgeTowards_22 hl (by decide) rfl (fun ls hl => ?_)
          refine lv_iload hx hb d_W_firstEdgeTowards_24 (lv_at hl 0 rfl) ?_
          refine lv_iconst (v := -1) hx hb d_W_firstEdgeTowards_26 (by decide) ?_
          refine lv_icmp_eq (tgt := 81) hx hb d_W_firstEdgeTowards_27 (by decide) (fun c => absurd c (ng_nm1 (by omega))) (fun c_27 => ?_)
          refine lv_iload hx hb d_W_firstEdgeTowards_30 (lv_at hl 0 rfl) ?_
          refine lv_iload_n hx hb d_W_firstEdgeTowards_32 rfl (lv_at hl 3 rfl) ?_
          refine nr_icmp_eq (by omega) (by omega) (tgt := 48) hx hb d_W_firstEdgeTowards_33 (by decide) (fun c_33 => ?_) (fun c_33 => ?_)
          · have hc1 := hct (y * 20 + z) (by omega)
            have hc2 := hct (h * 20 + z) (by omega)
            have hFAR : dm_FAR = 1000000000000 := rfl
            refine lv_aload_n hx hb d_W_firstEdgeTowards_48 rfl (lv_at hl 1 rfl) ?_
            refine va_get (D := (dC, dI)) (ci := 1) (v := .ref cA) (C := R_W) (T := F_W) (N := 5) hx hb hts iW hown hK hP 4 rfl rfl 1 (by decide) (hts _ (List.mem_cons_of_mem _ wk_W_9)) (fun _ h9 => h9) rfl d_W_firstEdgeTowards_49 ?_
            refine lv_iload hx hb d_W_firstEdgeTowards_52 (lv_at hl 0 rfl) ?_
            refine lv_iload_n hx hb d_W_firstEdgeTowards_54 rfl (lv_at hl 3 rfl) ?_
            refine ro_Si (As := [.int (nI y), .int (nI z)]) (rest := [.ref cA]) ⟨hx, hb, hml, hown, hts⟩ (c_W_at l dC dI cI cL y z ) (cwS 2 hts (wg_S wk_W_66 ws_W_at wi_W wc_W_at) rfl rfl rfl (by decide +kernel) ⟨Nat.le_of_ble_eq_true rfl, Nat.le_of_ble_eq_true rfl⟩) hK (hP.sub [] rfl) rfl hl.1 rfl (lv_room (Nat.le_of_ble_eq_true rfl)) d_W_firstEdgeTowards_55 ⟨Nat.zero_le _, Nat.zero_le _⟩ hS hP (fun H locs hP hS => ?_)
            refine nr_lald hx hb hK hP 5 1 rfl rfl (by omega) (by decide) d_W_firstEdgeTowards_58 ?_
            refine lv_aload_n hx hb d_W_firstEdgeTowards_59 rfl (lv_at hl 1 rfl) ?_
            refine va_get (D := (dC, dI)) (ci := 1) (v := .ref cA) (C := R_W) (T := F_W) (N := 5) hx hb hts iW hown hK hP 4 rfl rfl 1 (by decide) (hts _ (List.mem_cons_of_mem _ wk_W_9)) (fun _ h9 => h9) rfl d_W_firstEdgeTowards_60 ?_
            refine lv_iload_n hx hb d_W_firstEdgeTowards_63 rfl (lv_at hl 2 rfl) ?_
            refine lv_iload_n hx hb d_W_firstEdgeTowards_64 rfl (lv_at hl 3 rfl) ?_
            refine ro_Si (As := [.int (nI h), .int (nI z)]) (rest := [.ref cA, .long (lN (ct (y * 20 + z)))]) ⟨hx, hb, hml, hown, hts⟩ (c_W_at l dC dI cI cL h z ) (cwS 2 hts (wg_S wk_W_66 ws_W_at wi_W wc_W_at) rfl rfl rfl (by decide +kernel) ⟨Nat.le_of_ble_eq_true rfl, Nat.le_of_ble_eq_true rfl⟩) hK (hP.sub [] rfl) rfl hl.1 rfl (lv_room (Nat.le_of_ble_eq_true rfl)) d_W_firstEdgeTowards_65 ⟨Nat.zero_le _, Nat.zero_le _⟩ hS hP (fun H locs hP hS => ?_)
            refine nr_lald hx hb hK hP 5 1 rfl rfl (by omega) (by decide) d_W_firstEdgeTowards_68 ?_
            refine lv_aload_n hx hb d_W_firstEdgeTowards_69 rfl (lv_at hl 1 rfl) ?_
            refine lv_iload_n hx hb d_W_firstEdgeTowards_70 rfl (lv_at hl 4 rfl) ?_
            refine ro_Vl (As := [.int (nI i)]) (rest := [.long (lN (ct (h * 20 + z))), .long (lN (ct (y * 20 + z)))]) ⟨hx, hb, hml, hown, hts⟩ (c_W_edgeCost l dC dI cI cL g tA oA uA wA sA np ne bd er vr wy cA rA mv tl wt i (by omega) (by omega)) (cwV 1 hts (wg_V wk_W_47 wm_W_edgeCost we_W_edgeCost wi_W wc_W_edgeCost) rfl rfl rfl (by decide +kernel) ⟨Nat.le_of_ble_eq_true rfl, Nat.le_of_ble_eq_true rfl⟩) hK (hP.sub [0, 3, 4] rfl) (q0 := 2) rfl rfl rfl rfl hl.1 rfl (lv_room (Nat.le_of_ble_eq_true rfl)) d_W_firstEdgeTowards_71 ⟨Nat.zero_le _, Nat.zero_le _⟩ hS hP (fun H locs hP hS => ?_)
            refine lv_lsub hx hb d_W_firstEdgeTowards_74 ?_
            refine W.lcmp hx hb d_W_firstEdgeTowards_75 ?_
            refine nr_lraw_ne (tgt := 81) hx hb d_W_firstEdgeTowards_76 (by decide) (fun c_76 => ?_) (fun c_76 => ?_)
            · have c76 : ¬ (ct (y * 20 + z) + (ng_w er wt i * 64 + 1) = ct (h * 20 + z)) := fun q => c_76 ((ng_subL (by omega) (by omega) (by omega)).mpr q)
              refine lv_iinc (v := (nI (i + 1))) (lv' := [(3, .int (nI (i + 1))), (4, .int (nI y)), (0, .ref wy), (1, .int (nI h)), (2, .int (nI z))]) hx hb d_W_firstEdgeTowards_81 hl (k := 4) rfl (nI_1 i) (by decide) rfl (fun ls hl => ?_)
              refine lv_goto (tgt := 2) hx hb d_W_firstEdgeTowards_84 (by decide) ?_
              exact ih_2 (i + 1) (by omega) (hq.trans (ng_fst_f c_10 (by first | exact ng_ok_0 hnx | exact ng_ok_1 hnx c_33 c_45 | exact ng_ok_2 hnx c76))) (by omega) _ _ hP hS ls (lv_sub hl [2, 3, 4, 0] rfl)
            · have c76 := (ng_subL (by omega) (by omega) (by omega)).mp c_76
              refine lv_iload_n hx hb d_W_firstEdgeTowards_79 rfl (lv_at hl 4 rfl) ?_
              exact ro_iret hx hb hr hlocks hS (by rw [hq, ng_fst_t c_10 (by first | exact ng_ok_t hnx (Or.inl c_33) c76 | exact ng_ok_t hnx (Or.inr c_45) c76)]; rfl) d_W_firstEdgeTowards_80
          · refine lv_aload_n hx hb d_W_firstEdgeTowards_36 rfl (lv_at hl 1 rfl) ?_
            refine va_get (D := (dC, dI)) (ci := 1) (v := .ref g) (C := R_W) (T := F_W) (N := 5) hx hb hts iW hown hK hP 4 rfl rfl 0 (by decide) (hts _ (List.mem_cons_of_mem _ wk_W_26)) (fun _ h9 => h9) rfl d_W_firstEdgeTowards_37 ?_
            refine lv_iload hx hb d_W_firstEdgeTowards_40 (lv_at hl 0 rfl) ?_
            refine ro_Vi (As := [.int (nI y)]) (rest := []) ⟨hx, hb, hml, hown, hts⟩ (c_G_isBoundary l dC dI cI cL g tA oA uA wA sA np ne bd er vr y (by omega)) (cwV 1 hts (wg_V wk_W_58 wm_G_isBoundary we_G_isBoundary wi_G wc_G_isBoundary) rfl rfl rfl (by decide +kernel) ⟨Nat.le_of_ble_eq_true rfl, Nat.le_of_ble_eq_true rfl⟩) hK (hP.sub [0] rfl) (q0 := 0) rfl rfl rfl rfl hl.1 rfl (lv_room (Nat.le_of_ble_eq_true rfl)) d_W_firstEdgeTowards_42 ⟨Nat.zero_le _, Nat.zero_le _⟩ hS hP (fun H locs hP hS => ?_)
            refine nr_ifneB (tgt := 81) hx hb d_W_firstEdgeTowards_45 (by decide) (fun c_45 => ?_) (fun c_45 => ?_)
            · refine lv_iinc (v := (nI (i + 1))) (lv' := [(3, .int (nI (i + 1))), (4, .int (nI y)), (0, .ref wy), (1, .int (nI h)), (2, .int (nI z))]) hx hb d_W_firstEdgeTowards_81 hl (k := 4) rfl (nI_1 i) (by decide) rfl (fun ls hl => ?_)
              refine lv_goto (tgt := 2) hx hb d_W_firstEdgeTowards_84 (by decide) ?_
              exact ih_2 (i + 1) (by omega) (hq.trans (ng_fst_f c_10 (by first | exact ng_ok_0 hnx | exact ng_ok_1 hnx c_33 c_45 | exact ng_ok_2 hnx c76))) (by omega) _ _ hP hS ls (lv_sub hl [2, 3, 4, 0] rfl)
            · have hc1 := hct (y * 20 + z) (by omega)
              have hc2 := hct (h * 20 + z) (by omega)
              have hFAR : dm_FAR = 1000000000000 := rfl
              refine lv_aload_n hx hb d_W_firstEdgeTowards_48 rfl (lv_at hl 1 rfl) ?_
              refine va_get (D := (dC, dI)) (ci := 1) (v := .ref cA) (C := R_W) (T := F_W) (N := 5) hx hb hts iW hown hK hP 4 rfl rfl 1 (by decide) (hts _ (List.mem_cons_of_mem _ wk_W_9)) (fun _ h9 => h9) rfl d_W_firstEdgeTowards_49 ?_
              refine lv_iload hx hb d_W_firstEdgeTowards_52 (lv_at hl 0 rfl) ?_
              refine lv_iload_n hx hb d_W_firstEdgeTowards_54 rfl (lv_at hl 3 rfl) ?_
              refine ro_Si (As := [.int (nI y), .int (nI z)]) (rest := [.ref cA]) ⟨hx, hb, hml, hown, hts⟩ (c_W_at l dC dI cI cL y z ) (cwS 2 hts (wg_S wk_W_66 ws_W_at wi_W wc_W_at) rfl rfl rfl (by decide +kernel) ⟨Nat.le_of_ble_eq_true rfl, Nat.le_of_ble_eq_true rfl⟩) hK (hP.sub [] rfl) rfl hl.1 rfl (lv_room (Nat.le_of_ble_eq_true rfl)) d_W_firstEdgeTowards_55 ⟨Nat.zero_le _, Nat.zero_le _⟩ hS hP (fun H locs hP hS => ?_)
              refine nr_lald hx hb hK hP 5 1 rfl rfl (by omega) (by decide) d_W_firstEdgeTowards_58 ?_
              refine lv_aload_n hx hb d_W_firstEdgeTowards_59 rfl (lv_at hl 1 rfl) ?_
              refine va_get (D := (dC, dI)) (ci := 1) (v := .ref cA) (C := R_W) (T := F_W) (N := 5) hx hb hts iW hown hK hP 4 rfl rfl 1 (by decide) (hts _ (List.mem_cons_of_mem _ wk_W_9)) (fun _ h9 => h9) rfl d_W_firstEdgeTowards_60 ?_
              refine lv_iload_n hx hb d_W_firstEdgeTowards_63 rfl (lv_at hl 2 rfl) ?_
              refine lv_iload_n hx hb d_W_firstEdgeTowards_64 rfl (lv_at hl 3 rfl) ?_
              refine ro_Si (As := [.int (nI h), .int (nI z)]) (rest := [.ref cA, .long (lN (ct (y * 20 + z)))]) ⟨hx, hb, hml, hown, hts⟩ (c_W_at l dC dI cI cL h z ) (cwS 2 hts (wg_S wk_W_66 ws_W_at wi_W wc_W_at) rfl rfl rfl (by decide +kernel) ⟨Nat.le_of_ble_eq_true rfl, Nat.le_of_ble_eq_true rfl⟩) hK (hP.sub [] rfl) rfl hl.1 rfl (lv_room (Nat.le_of_ble_eq_true rfl)) d_W_firstEdgeTowards_65 ⟨Nat.zero_le _, Nat.zero_le _⟩ hS hP (fun H locs hP hS => ?_)
              refine nr_lald hx hb hK hP 5 1 rfl rfl (by omega) (by decide) d_W_firstEdgeTowards_68 ?_
              refine lv_aload_n hx hb d_W_firstEdgeTowards_69 rfl (lv_at hl 1 rfl) ?_
              refine lv_iload_n hx hb d_W_firstEdgeTowards_70 rfl (lv_at hl 4 rfl) ?_
              refine ro_Vl (As := [.int (nI i)]) (rest := [.long (lN (ct (h * 20 + z))), .long (lN (ct (y * 20 + z)))]) ⟨hx, hb, hml, hown, hts⟩ (c_W_edgeCost l dC dI cI cL g tA oA uA wA sA np ne bd er vr wy cA rA mv tl wt i (by omega) (by omega)) (cwV 1 hts (wg_V wk_W_47 wm_W_edgeCost we_W_edgeCost wi_W wc_W_edgeCost) rfl rfl rfl (by decide +kernel) ⟨Nat.le_of_ble_eq_true rfl, Nat.le_of_ble_eq_true rfl⟩) hK (hP.sub [0, 3, 4] rfl) (q0 := 2) rfl rfl rfl rfl hl.1 rfl (lv_room (Nat.le_of_ble_eq_true rfl)) d_W_firstEdgeTowards_71 ⟨Nat.zero_le _, Nat.zero_le _⟩ hS hP (fun H locs hP hS => ?_)
              refine lv_lsub hx hb d_W_firstEdgeTowards_74 ?_
              refine W.lcmp hx hb d_W_firstEdgeTowards_75 ?_
              refine nr_lraw_ne (tgt := 81) hx hb d_W_firstEdgeTowards_76 (by decide) (fun c_76 => ?_) (fun c_76 => ?_)
              · have c76 : ¬ (ct (y * 20 + z) + (ng_w er wt i * 64 + 1) = ct (h * 20 + z)) := fun q => c_76 ((ng_subL (by omega) (by omega) (by omega)).mpr q)
                refine lv_iinc (v := (nI (i + 1))) (lv' := [(3, .int (nI (i + 1))), (4, .int (nI y)), (0, .ref wy), (1, .int (nI h)), (2, .int (nI z))]) hx hb d_W_firstEdgeTowards_81 hl (k := 4) rfl (nI_1 i) (by decide) rfl (fun ls hl => ?_)
                refine lv_goto (tgt := 2) hx hb d_W_firstEdgeTowards_84 (by decide) ?_
                exact ih_2 (i + 1) (by omega) (hq.trans (ng_fst_f c_10 (by first | exact ng_ok_0 hnx | exact ng_ok_1 hnx c_33 c_45 | exact ng_ok_2 hnx c76))) (by omega) _ _ hP hS ls (lv_sub hl [2, 3, 4, 0] rfl)
              · have c76 := (ng_subL (by omega) (by omega) (by omega)).mp c_76
                refine lv_iload_n hx hb d_W_firstEdgeTowards_79 rfl (lv_at hl 4 rfl) ?_
                exact ro_iret hx hb hr hlocks hS (by rw [hq, ng_fst_t c_10 (by first | exact ng_ok_t hnx (Or.inl c_33) c76 | exact ng_ok_t hnx (Or.inr c_45) c76)]; rfl) d_W_firstEdgeTowards_80
  exact lp_2 (ne - 0 + 1) 0 (by omega) rfl (Nat.lt_succ_self _) _ _ hP hS ls (lv_sub hl [1, 2, 3, 0] rfl)
set_option maxHeartbeats 4000000 in
set_option maxRecDepth 100000 in
theorem c_W_joinWaysAt (l : Launch) (dC : Nat → ClassId) (dI : Nat → Nat → Nat) (cI cL : ClassId) (g tA oA uA wA sA np ne : Nat) (bd : Int32) (er : Int64) (vr : Nat) (wy cA rA : Nat) (mv : Int32) (tl : Nat) (ct : Nat → Nat) (m0 : Nat) (hnp : np ≤ 20) (hm0 : m0 < np) (hmm : ct (m0 * 20 + m0) = 0) (hct : ∀ i, i < 400 → ct i ≤ dm_FAR) : Met l y_W_joinWaysAt w_W_joinWaysAt ({ frames := 2, cells := 0, slots := 0, locals := 45 } : Room) (va_Pc [.ref wy, .int (nI m0)] (rw_B (dC, dI) classes [(cI, .int), (cL, .long)] [cg_G g tA oA uA wA sA np ne bd er vr, cg_W wy g cA rA mv tl, cg_L cA cL 400 ct])) (rw_Qv (dC, dI) classes (rw_A [cg_G g tA oA uA wA sA np ne bd er vr, cg_W wy g cA rA mv tl, cg_L cA cL 400 ct]) (fun (u : (Nat → Nat)) => (∀ x y, x < np → y < np → u (x * 20 + y) = dm_st m0 (fun a b => ct (a * 20 + b)) x y) ∧ (∀ i, i < 400 → u i ≤ dm_FAR)) (fun u => [cg_G g tA oA uA wA sA np ne bd er vr, cg_W wy g cA rA mv tl, cg_L cA cL 400 u])) 0 0 (rw_A [cg_G g tA oA uA wA sA np ne bd er vr, cg_W wy g cA rA mv tl, cg_L cA cL 400 ct]) := by
  refine Met.ofW (cc := b_W_joinWaysAt) (maxL := 8) (ret := none) (by decide) rfl ?_
  intro p e s m args below meth c s₁ B hml hv
  obtain ⟨rfl, hP, hK, hD0⟩ := hv
  have hx := B.exec
  have hb := B.bytes
  have hr := B.returns
  have hts := atoms_spec (ws := w_W_joinWaysAt) B.pre
  have hown : s.vm.findClass R_W = some m.cls := findClass_of_methodNamed B.named
  have hlocks := B.notSynchronized
  have iG : ∀ w ∈ w_G, w ∈ w_W_joinWaysAt := fun w h => List.mem_cons_of_mem _ (i_G w h)
  have iW : ∀ w ∈ w_W, w ∈ w_W_joinWaysAt := fun w h => List.mem_cons_of_mem _ (i_W w h)
  have hD := rw_own hD0
  generalize hAe : rw_A [cg_G g tA oA uA wA sA np ne bd er vr, cg_W wy g cA rA mv tl, cg_L cA cL 400 ct] = A at hD ⊢
  have hS : va_S A s.heap s.heap [] := va_S.rf
  have hP : va_P (dC, dI) classes [cg_G g tA oA uA wA sA np ne bd er vr, cg_W wy g cA rA mv tl, cg_L cA cL 400 ct] s.heap := hP
  have hl := lv_entry ([.ref wy, .int (nI m0)]) (n := 8) (Nat.le_of_ble_eq_true rfl)
  rw [lg_entry_eq]
  generalize (lg_sl ([.ref wy, .int (nI m0)]) ++ List.replicate (8 - (lg_sl ([.ref wy, .int (nI m0)])).length) Slot.unset).toArray = ls at hl ⊢
  have hl : lv_has ls 8 [(0, .ref wy), (1, .int (nI m0))] := hl
  refine lv_iconst (v := nI 0) hx hb d_W_joinWaysAt_0 (by decide) ?_
  refine lv_istore_n (lv' := [(2, .int (nI 0)), (0, .ref wy), (1, .int (nI m0))]) hx hb d_W_joinWaysAt_1 rfl hl (by decide) rfl (fun ls hl => ?_)
  have lp_2 : ∀ (n : Nat) (i : Nat) (ct1 : Nat → Nat), (i ≤ np) → (ng_lo1 np m0 ct ct1 i) → (∀ i, i < 400 → ct1 i ≤ dm_FAR) → np - i < n → ∀ (H : Heap) (locs : List Loc), va_P (dC, dI) classes [cg_G g tA oA uA wA sA np ne bd er vr, cg_W wy g cA rA mv tl, cg_L cA cL 400 ct1] H → va_D A [cg_G g tA oA uA wA sA np ne bd er vr, cg_W wy g cA rA mv tl, cg_L cA cL 400 ct1] → va_S A s.heap H locs → ∀ (ls : Array Slot), lv_has ls 8 [(0, .ref wy), (1, .int (nI m0)), (2, .int (nI i))] → W p l e (headSpec w_W_joinWaysAt ({ frames := 2, cells := 0, slots := 0, locals := 45 } : Room)).room s m ([.ref wy, .int (nI m0)] : List Value).toArray below meth c H locs 0 0 (MQ below (rw_Qv (dC, dI) classes A (fun (u : (Nat → Nat)) => (∀ x y, x < np → y < np → u (x * 20 + y) = dm_st m0 (fun a b => ct (a * 20 + b)) x y) ∧ (∀ i, i < 400 → u i ≤ dm_FAR)) (fun u => [cg_G g tA oA uA wA sA np ne bd er vr, cg_W wy g cA rA mv tl, cg_L cA cL 400 u])) ([.ref wy, .int (nI m0)] : List Value).toArray s 0 0 A) (F0 m 2 ls []) := by
    intro n
    induction n with
    | zero => intro i ct1 hi ho hf1 hme; exact absurd hme (Nat.not_lt_zero _)
    | succ n ih =>
      intro i ct1 hi ho hf1 hme H locs hP hD hS ls hl
      have ih_2 := ih
      refine lv_iload_n hx hb d_W_joinWaysAt_2 rfl (lv_at hl 2 rfl) ?_
      refine lv_aload_n hx hb d_W_joinWaysAt_3 rfl (lv_at hl 0 rfl) ?_
      refine va_get (D := (dC, dI)) (ci := 1) (v := .ref g) (C := R_W) (T := F_W) (N := 5) hx hb hts iW hown hK hP 1 rfl rfl 0 (by decide) (hts _ (List.mem_cons_of_mem _ wk_W_26)) (fun _ h9 => h9) rfl d_W_joinWaysAt_4 ?_
      refine va_get (D := (dC, dI)) (ci := 0) (v := .int (nI np)) (C := R_G) (T := F_G) (N := 10) hx hb hts iG hown hK hP 0 rfl rfl 5 (by decide) (hts _ (List.mem_cons_of_mem _ wk_W_55)) (fun _ h9 => h9) rfl d_W_joinWaysAt_7 ?_
      refine nr_icmp_ge (by omega) (by omega) (tgt := 95) hx hb d_W_joinWaysAt_10 (by decide) (fun c_10 => ?_) (fun c_10 => ?_)
      · exact rw_vret ct1 hx hb hr hlocks hS hP (⟨fun x y hx hy => by rw [ho x y hx hy, if_pos (by omega)], hf1⟩) d_W_joinWaysAt_95
      · have hFAR : dm_FAR = 1000000000000 := rfl
        have hc0 := hf1 (i * 20 + m0) (by omega)
        refine lv_aload_n hx hb d_W_joinWaysAt_13 rfl (lv_at hl 0 rfl) ?_
        refine va_get (D := (dC, dI)) (ci := 1) (v := .ref cA) (C := R_W) (T := F_W) (N := 5) hx hb hts iW hown hK hP 1 rfl rfl 1 (by decide) (hts _ (List.mem_cons_of_mem _ wk_W_9)) (fun _ h9 => h9) rfl d_W_joinWaysAt_14 ?_
        refine lv_iload_n hx hb d_W_joinWaysAt_17 rfl (lv_at hl 2 rfl) ?_
        refine lv_iload_n hx hb d_W_joinWaysAt_18 rfl (lv_at hl 1 rfl) ?_
        refine ro_Si (As := [.int (nI i), .int (nI m0)]) (rest := [.ref cA]) ⟨hx, hb, hml, hown, hts⟩ (c_W_at l dC dI cI cL i m0 ) (cwS 2 hts (wg_S wk_W_66 ws_W_at wi_W wc_W_at) rfl rfl rfl (by decide +kernel) ⟨Nat.le_of_ble_eq_true rfl, Nat.le_of_ble_eq_true rfl⟩) hK (hP.sub [] rfl) rfl hl.1 rfl (lv_room (Nat.le_of_ble_eq_true rfl)) d_W_joinWaysAt_19 ⟨Nat.zero_le _, Nat.zero_le _⟩ hS hP (fun H locs hP hS => ?_)
        refine nr_lald hx hb hK hP 2 1 rfl rfl (by omega) (by decide) d_W_joinWaysAt_22 ?_
        refine nr_asL (v := lN (ct (i * 20 + m0))) (by rw [ng_jn_col c_10 hm0 ho]) ?_
        have hc1 := hct (i * 20 + m0) (by omega)
        refine lv_lstore_n (lv' := [(3, .long (lN (ct (i * 20 + m0)))), (0, .ref wy), (1, .int (nI m0)), (2, .int (nI i))]) hx hb d_W_joinWaysAt_23 rfl hl (by decide) rfl (fun ls hl => ?_)
        refine lv_lload_n hx hb d_W_joinWaysAt_24 rfl (lv_at hl 0 rfl) ?_
        refine lv_ldc2 (v := 1000000000000) hx hb hown (hts _ (List.mem_cons_of_mem _ wk_W_70)) d_W_joinWaysAt_25 ?_
        refine nr_asL (v := lN 1000000000000) (by decide) ?_
        refine W.lcmp hx hb d_W_joinWaysAt_28 ?_
        refine nr_lif_ne (by omega) (by omega) (tgt := 35) hx hb d_W_joinWaysAt_29 (by decide) (fun c_29 => ?_) (fun c_29 => ?_)
        · refine lv_iconst (v := nI 0) hx hb d_W_joinWaysAt_35 (by decide) ?_
          refine lv_istore (lv' := [(5, .int (nI 0)), (3, .long (lN (ct (i * 20 + m0)))), (0, .ref wy), (1, .int (nI m0)), (2, .int (nI i))]) hx hb d_W_joinWaysAt_36 hl (by decide) rfl (fun ls hl => ?_)
          have lp_38 : ∀ (n : Nat) (j : Nat) (ct1 : Nat → Nat), (j ≤ np) → (ng_lo2 np m0 ct ct1 i j) → (∀ i, i < 400 → ct1 i ≤ dm_FAR) → np - j < n → ∀ (H : Heap) (locs : List Loc), va_P (dC, dI) classes [cg_G g tA oA uA wA sA np ne bd er vr, cg_W wy g cA rA mv tl, cg_L cA cL 400 ct1] H → va_D A [cg_G g tA oA uA wA sA np ne bd er vr, cg_W wy g cA rA mv tl, cg_L cA cL 400 ct1] → va_S A s.heap H locs → ∀ (ls : Array Slot), lv_has ls 8 [(0, .ref wy), (1, .int (nI m0)), (2, .int (nI i)), (3, .long (lN (ct (i * 20 + m0)))), (5, .int (nI j))] → W p l e (headSpec w_W_joinWaysAt ({ frames := 2, cells := 0, slots := 0, locals := 45 } : Room)).room s m ([.ref wy, .int (nI m0)] : List Value).toArray below meth c H locs 0 0 (MQ below (rw_Qv (dC, dI) classes A (fun (u : (Nat → Nat)) => (∀ x y, x < np → y < np → u (x * 20 + y) = dm_st m0 (fun a b => ct (a * 20 + b)) x y) ∧ (∀ i, i < 400 → u i ≤ dm_FAR)) (fun u => [cg_G g tA oA uA wA sA np ne bd er vr, cg_W wy g cA rA mv tl, cg_L cA cL 400 u])) ([.ref wy, .int (nI m0)] : List Value).toArray s 0 0 A) (F0 m 38 ls []) := by
            intro n
            induction n with
            | zero => intro j ct1 hj ho2 hf1 hme; exact absurd hme (Nat.not_lt_zero _)
            | succ n ih =>
              intro j ct1 hj ho2 hf1 hme H locs hP hD hS ls hl
              have ih_38 := ih
              refine lv_iload hx hb d_W_joinWaysAt_38 (lv_at hl 4 rfl) ?_
              refine lv_aload_n hx hb d_W_joinWaysAt_40 rfl (lv_at hl 0 rfl) ?_
              refine va_get (D := (dC, dI)) (ci := 1) (v := .ref g) (C := R_W) (T := F_W) (N := 5) hx hb hts iW hown hK hP 1 rfl rfl 0 (by decide) (hts _ (List.mem_cons_of_mem _ wk_W_26)) (fun _ h9 => h9) rfl d_W_joinWaysAt_41 ?_
              refine va_get (D := (dC, dI)) (ci := 0) (v := .int (nI np)) (C := R_G) (T := F_G) (N := 10) hx hb hts iG hown hK hP 0 rfl rfl 5 (by decide) (hts _ (List.mem_cons_of_mem _ wk_W_55)) (fun _ h9 => h9) rfl d_W_joinWaysAt_44 ?_
              refine nr_icmp_ge (by omega) (by omega) (tgt := 89) hx hb d_W_joinWaysAt_47 (by decide) (fun c_47 => ?_) (fun c_47 => ?_)
              · have ho3 := ng_jn_end c_47 ho2
                refine lv_iinc (v := (nI (i + 1))) (lv' := [(2, .int (nI (i + 1))), (0, .ref wy), (1, .int (nI m0)), (3, .long (lN (ct (i * 20 + m0)))), (5, .int (nI j))]) hx hb d_W_joinWaysAt_89 hl (k := 2) rfl (nI_1 i) (by decide) rfl (fun ls hl => ?_)
                refine lv_goto (tgt := 2) hx hb d_W_joinWaysAt_92 (by decide) ?_
                exact ih_2 (i + 1) ct1 (by omega) ho3 hf1 (by omega) _ _ hP hD hS ls (lv_sub hl [1, 2, 0] rfl)
              · have hc2 := hf1 (m0 * 20 + j) (by omega)
                refine lv_aload_n hx hb d_W_joinWaysAt_50 rfl (lv_at hl 0 rfl) ?_
                refine va_get (D := (dC, dI)) (ci := 1) (v := .ref cA) (C := R_W) (T := F_W) (N := 5) hx hb hts iW hown hK hP 1 rfl rfl 1 (by decide) (hts _ (List.mem_cons_of_mem _ wk_W_9)) (fun _ h9 => h9) rfl d_W_joinWaysAt_51 ?_
                refine lv_iload_n hx hb d_W_joinWaysAt_54 rfl (lv_at hl 1 rfl) ?_
                refine lv_iload hx hb d_W_joinWaysAt_55 (lv_at hl 4 rfl) ?_
                refine ro_Si (As := [.int (nI m0), .int (nI j)]) (rest := [.ref cA]) ⟨hx, hb, hml, hown, hts⟩ (c_W_at l dC dI cI cL m0 j ) (cwS 2 hts (wg_S wk_W_66 ws_W_at wi_W wc_W_at) rfl rfl rfl (by decide +kernel) ⟨Nat.le_of_ble_eq_true rfl, Nat.le_of_ble_eq_true rfl⟩) hK (hP.sub [] rfl) rfl hl.1 rfl (lv_room (Nat.le_of_ble_eq_true rfl)) d_W_joinWaysAt_57 ⟨Nat.zero_le _, Nat.zero_le _⟩ hS hP (fun H locs hP hS => ?_)
                refine nr_lald hx hb hK hP 2 1 rfl rfl (by omega) (by decide) d_W_joinWaysAt_60 ?_
                refine nr_asL (v := lN (ct (m0 * 20 + j))) (by rw [ng_jn_row hm0 hmm c_47 ho2]) ?_
                have hc3 := hct (m0 * 20 + j) (by omega)
                refine lv_lstore (lv' := [(6, .long (lN (ct (m0 * 20 + j)))), (0, .ref wy), (1, .int (nI m0)), (2, .int (nI i)), (3, .long (lN (ct (i * 20 + m0)))), (5, .int (nI j))]) hx hb d_W_joinWaysAt_61 hl (by decide) rfl (fun ls hl => ?_)
                refine lv_lload hx hb d_W_joinWaysAt_63 (lv_at hl 0 rfl) ?_
                refine lv_ldc2 (v := 1000000000000) hx hb hown (hts _ (List.mem_cons_of_mem _ wk_W_70)) d_W_joinWaysAt_65 ?_
                refine nr_asL (v := lN 1000000000000) (by decide) ?_
                refine W.lcmp hx hb d_W_joinWaysAt_68 ?_
                refine nr_lif_eq (by omega) (by omega) (tgt := 83) hx hb d_W_joinWaysAt_69 (by decide) (fun c_69 => ?_) (fun c_69 => ?_)
                · have ho4 := ng_jn_skip c_10 c_47 c_69 ho2
                  have hf4 := hf1
                  refine lv_iinc (v := (nI (j + 1))) (lv' := [(5, .int (nI (j + 1))), (6, .long (lN (ct (m0 * 20 + j)))), (0, .ref wy), (1, .int (nI m0)), (2, .int (nI i)), (3, .long (lN (ct (i * 20 + m0))))]) hx hb d_W_joinWaysAt_83 hl (k := 5) rfl (nI_1 j) (by decide) rfl (fun ls hl => ?_)
                  refine lv_goto (tgt := 38) hx hb d_W_joinWaysAt_86 (by decide) ?_
                  exact ih_38 (j + 1) ct1 (by omega) ho4 hf4 (by omega) _ _ hP hD hS ls (lv_sub hl [2, 3, 4, 5, 0] rfl)
                · have ho4 := ng_jn_low hnp c_10 c_47 c_29 c_69 ho2
                  have hf4 := ng_low_far (c := ct (i * 20 + m0) + ct (m0 * 20 + j)) hf1 (show i * 20 + j < 400 by omega)
                  have hc4 := hf1 (i * 20 + j) (by omega)
                  refine lv_aload_n hx hb d_W_joinWaysAt_72 rfl (lv_at hl 1 rfl) ?_
                  refine lv_iload_n hx hb d_W_joinWaysAt_73 rfl (lv_at hl 3 rfl) ?_
                  refine lv_iload hx hb d_W_joinWaysAt_74 (lv_at hl 5 rfl) ?_
                  refine lv_lload_n hx hb d_W_joinWaysAt_76 rfl (lv_at hl 4 rfl) ?_
                  refine lv_lload hx hb d_W_joinWaysAt_77 (lv_at hl 0 rfl) ?_
                  refine nr_ladd hx hb d_W_joinWaysAt_79 ?_
                  refine rw_Vv (wr := [cg_G g tA oA uA wA sA np ne bd er vr]) [1, 2] [0] rfl rfl (by decide) (As := [.int (nI i), .int (nI j), .long (lN ((ct (i * 20 + m0)) + (ct (m0 * 20 + j))))]) (rest := []) ⟨hx, hb, hml, hown, hts⟩ (c_W_lower l dC dI cI cL wy g cA rA mv tl ct1 i j ((ct (i * 20 + m0)) + (ct (m0 * 20 + j))) (by omega) (by omega) (by omega) (by omega)) (cwV 3 hts (wg_V wk_W_51 wm_W_lower we_W_lower wi_W wc_W_lower) rfl rfl rfl (by decide +kernel) ⟨Nat.le_of_ble_eq_true rfl, Nat.le_of_ble_eq_true rfl⟩) hK (hP.sub [1, 2] rfl) ((hD.sub [1, 2] (by decide) rfl).weaken (fun _ _ _ _ => trivial)) (q0 := 0) rfl rfl rfl rfl hl.1 rfl (lv_room (Nat.le_of_ble_eq_true rfl)) d_W_joinWaysAt_80 ⟨Nat.zero_le _, Nat.zero_le _⟩ hS hP hD (fun u H locs hw_2 hP hS => ?_)
                  have hP : va_P (dC, dI) classes [cg_G g tA oA uA wA sA np ne bd er vr, cg_W wy g cA rA mv tl, cg_L cA cL 400 (ng_low ct1 (i * 20 + j) ((ct (i * 20 + m0)) + (ct (m0 * 20 + j))))] H := hP.sub [0, 1, 2] rfl
                  have hD : va_D A [cg_G g tA oA uA wA sA np ne bd er vr, cg_W wy g cA rA mv tl, cg_L cA cL 400 (ng_low ct1 (i * 20 + j) ((ct (i * 20 + m0)) + (ct (m0 * 20 + j))))] := rw_re hD rfl
                  refine lv_iinc (v := (nI (j + 1))) (lv' := [(5, .int (nI (j + 1))), (6, .long (lN (ct (m0 * 20 + j)))), (0, .ref wy), (1, .int (nI m0)), (2, .int (nI i)), (3, .long (lN (ct (i * 20 + m0))))]) hx hb d_W_joinWaysAt_83 hl (k := 5) rfl (nI_1 j) (by decide) rfl (fun ls hl => ?_)
                  refine lv_goto (tgt := 38) hx hb d_W_joinWaysAt_86 (by decide) ?_
                  exact ih_38 (j + 1) (ng_low ct1 (i * 20 + j) ((ct (i * 20 + m0)) + (ct (m0 * 20 + j)))) (by omega) ho4 hf4 (by omega) _ _ hP hD hS ls (lv_sub hl [2, 3, 4, 5, 0] rfl)
          exact lp_38 (np - 0 + 1) 0 ct1 (by omega) (ng_jn0 ho) hf1 (Nat.lt_succ_self _) _ _ hP hD hS ls (lv_sub hl [2, 3, 4, 1, 0] rfl)
        · have ho3 := ng_jn_far c_29 ho
          refine lv_goto (tgt := 89) hx hb d_W_joinWaysAt_32 (by decide) ?_
          refine lv_iinc (v := (nI (i + 1))) (lv' := [(2, .int (nI (i + 1))), (3, .long (lN (ct (i * 20 + m0)))), (0, .ref wy), (1, .int (nI m0))]) hx hb d_W_joinWaysAt_89 hl (k := 3) rfl (nI_1 i) (by decide) rfl (fun ls hl => ?_)
          refine lv_goto (tgt := 2) hx hb d_W_joinWaysAt_92 (by decide) ?_
          exact ih_2 (i + 1) ct1 (by omega) ho3 hf1 (by omega) _ _ hP hD hS ls (lv_sub hl [2, 3, 0] rfl)
  exact lp_2 (np - 0 + 1) 0 ct (by omega) (fun x y _ _ => (if_neg (Nat.not_lt_zero _)).symm) hct (Nat.lt_succ_self _) _ _ hP hD hS ls (lv_sub hl [1, 2, 0] rfl)
set_option maxHeartbeats 4000000 in
set_option maxRecDepth 100000 in
theorem c_W_measure (l : Launch) (dC : Nat → ClassId) (dI : Nat → Nat → Nat) (cI cL : ClassId) (g tA oA uA wA sA np ne : Nat) (bd : Int32) (er : Int64) (vr : Nat) (wy cA rA : Nat) (mv : Int32) (tl : Nat) (oe ot wt ct : Nat → Nat) (hnp : np ≤ 20) (hne : ne ≤ 60) (hE : ∀ i, i < ne → oe i < np ∧ ot i < np) (hdf : ∀ i, i < ne → oe i ≠ ot i) (hW : ∀ i, i < ne → ng_w er wt i ≤ 1000000) (hct : ∀ i, i < 400 → ct i ≤ dm_FAR) (hm : mv = nI vr → ng_M np ne bd er oe ot wt ct) : Met l y_W_measure w_W_measure ({ frames := 3, cells := 0, slots := 0, locals := 72 } : Room) (va_Pc [.ref wy] (rw_B (dC, dI) classes [(cI, .int), (cL, .long)] [cg_G g tA oA uA wA sA np ne bd er vr, cg_N oA cI 60 oe, cg_N uA cI 60 ot, cg_N wA cI 60 wt, cg_W wy g cA rA mv tl, cg_L cA cL 400 ct])) (rw_Qv (dC, dI) classes (rw_A [cg_G g tA oA uA wA sA np ne bd er vr, cg_N oA cI 60 oe, cg_N uA cI 60 ot, cg_N wA cI 60 wt, cg_W wy g cA rA mv tl, cg_L cA cL 400 ct]) (fun (u : (Nat → Nat)) => ng_M np ne bd er oe ot wt u) (fun u => [cg_G g tA oA uA wA sA np ne bd er vr, cg_N oA cI 60 oe, cg_N uA cI 60 ot, cg_N wA cI 60 wt, cg_W wy g cA rA (nI vr) tl, cg_L cA cL 400 u])) 0 0 (rw_A [cg_G g tA oA uA wA sA np ne bd er vr, cg_N oA cI 60 oe, cg_N uA cI 60 ot, cg_N wA cI 60 wt, cg_W wy g cA rA mv tl, cg_L cA cL 400 ct]) := by
  refine Met.ofW (cc := b_W_measure) (maxL := 4) (ret := none) (by decide) rfl ?_
  intro p e s m args below meth c s₁ B hml hv
  obtain ⟨rfl, hP, hK, hD0⟩ := hv
  have hx := B.exec
  have hb := B.bytes
  have hr := B.returns
  have hts := atoms_spec (ws := w_W_measure) B.pre
  have hown : s.vm.findClass R_W = some m.cls := findClass_of_methodNamed B.named
  have hlocks := B.notSynchronized
  have iG : ∀ w ∈ w_G, w ∈ w_W_measure := fun w h => List.mem_cons_of_mem _ (i_G w h)
  have iW : ∀ w ∈ w_W, w ∈ w_W_measure := fun w h => List.mem_cons_of_mem _ (i_W w h)
  have hD := rw_own hD0
  generalize hAe : rw_A [cg_G g tA oA uA wA sA np ne bd er vr, cg_N oA cI 60 oe, cg_N uA cI 60 ot, cg_N wA cI 60 wt, cg_W wy g cA rA mv tl, cg_L cA cL 400 ct] = A at hD ⊢
  have hS : va_S A s.heap s.heap [] := va_S.rf
  have hP : va_P (dC, dI) classes [cg_G g tA oA uA wA sA np ne bd er vr, cg_N oA cI 60 oe, cg_N uA cI 60 ot, cg_N wA cI 60 wt, cg_W wy g cA rA mv tl, cg_L cA cL 400 ct] s.heap := hP
  have hl := lv_entry ([.ref wy]) (n := 4) (Nat.le_of_ble_eq_true rfl)
  rw [lg_entry_eq]
  generalize (lg_sl ([.ref wy]) ++ List.replicate (4 - (lg_sl ([.ref wy])).length) Slot.unset).toArray = ls at hl ⊢
  have hl : lv_has ls 4 [(0, .ref wy)] := hl
  refine lv_aload_n hx hb d_W_measure_0 rfl (lv_at hl 0 rfl) ?_
  refine va_get (D := (dC, dI)) (ci := 1) (v := .int mv) (C := R_W) (T := F_W) (N := 5) hx hb hts iW hown hK hP 4 rfl rfl 3 (by decide) (hts _ (List.mem_cons_of_mem _ wk_W_19)) (fun _ h9 => h9) rfl d_W_measure_1 ?_
  refine lv_aload_n hx hb d_W_measure_4 rfl (lv_at hl 0 rfl) ?_
  refine va_get (D := (dC, dI)) (ci := 1) (v := .ref g) (C := R_W) (T := F_W) (N := 5) hx hb hts iW hown hK hP 4 rfl rfl 0 (by decide) (hts _ (List.mem_cons_of_mem _ wk_W_26)) (fun _ h9 => h9) rfl d_W_measure_5 ?_
  refine va_get (D := (dC, dI)) (ci := 0) (v := .int (nI vr)) (C := R_G) (T := F_G) (N := 10) hx hb hts iG hown hK hP 0 rfl rfl 9 (by decide) (hts _ (List.mem_cons_of_mem _ wk_W_30)) (fun _ h9 => h9) rfl d_W_measure_8 ?_
  refine lv_icmp_ne (tgt := 15) hx hb d_W_measure_11 (by decide) (fun c_11 => ?_) (fun c_11 => ?_)
  · refine lv_aload_n hx hb d_W_measure_15 rfl (lv_at hl 0 rfl) ?_
    refine rw_Vv (wr := [cg_N oA cI 60 oe, cg_N uA cI 60 ot, cg_N wA cI 60 wt]) [0, 4, 5] [1, 2, 3] rfl rfl (by decide) (As := []) (rest := []) ⟨hx, hb, hml, hown, hts⟩ (c_W_clearCosts l dC dI cI cL g tA oA uA wA sA np ne bd er vr wy cA rA mv tl ct (by omega) hct) (cwV 0 hts (wg_V wk_W_35 wm_W_clearCosts we_W_clearCosts wi_W wc_W_clearCosts) rfl rfl rfl (by decide +kernel) ⟨Nat.le_of_ble_eq_true rfl, Nat.le_of_ble_eq_true rfl⟩) hK (hP.sub [0, 4, 5] rfl) ((hD.sub [0, 4, 5] (by decide) rfl).weaken (fun _ _ _ _ => trivial)) (q0 := 1) rfl rfl rfl rfl hl.1 rfl (lv_room (Nat.le_of_ble_eq_true rfl)) d_W_measure_16 ⟨Nat.zero_le _, Nat.zero_le _⟩ hS hP hD (fun ct2_1 H locs hw_3 hP hS => ?_)
    have hP : va_P (dC, dI) classes [cg_G g tA oA uA wA sA np ne bd er vr, cg_N oA cI 60 oe, cg_N uA cI 60 ot, cg_N wA cI 60 wt, cg_W wy g cA rA mv tl, cg_L cA cL 400 ct2_1] H := hP.sub [3, 0, 1, 2, 4, 5] rfl
    have hD : va_D A [cg_G g tA oA uA wA sA np ne bd er vr, cg_N oA cI 60 oe, cg_N uA cI 60 ot, cg_N wA cI 60 wt, cg_W wy g cA rA mv tl, cg_L cA cL 400 ct2_1] := rw_re hD rfl
    try dsimp only at hw_3
    obtain ⟨hw_a, hw_b⟩ := hw_3
    refine lv_iconst (v := nI 0) hx hb d_W_measure_19 (by decide) ?_
    refine lv_istore_n (lv' := [(1, .int (nI 0)), (0, .ref wy)]) hx hb d_W_measure_20 rfl hl (by decide) rfl (fun ls hl => ?_)
    have lp_21 : ∀ (n : Nat) (i : Nat) (ct1 : Nat → Nat), (i ≤ ne) → (dm_I np i (fun k => !nb_t bd k) oe ot (fun e => ng_w er wt e * 64 + 1) 0 (fun a b => ct1 (a * 20 + b))) → (∀ i, i < 400 → ct1 i ≤ dm_FAR) → ne - i < n → ∀ (H : Heap) (locs : List Loc), va_P (dC, dI) classes [cg_G g tA oA uA wA sA np ne bd er vr, cg_N oA cI 60 oe, cg_N uA cI 60 ot, cg_N wA cI 60 wt, cg_W wy g cA rA mv tl, cg_L cA cL 400 ct1] H → va_D A [cg_G g tA oA uA wA sA np ne bd er vr, cg_N oA cI 60 oe, cg_N uA cI 60 ot, cg_N wA cI 60 wt, cg_W wy g cA rA mv tl, cg_L cA cL 400 ct1] → va_S A s.heap H locs → ∀ (ls : Array Slot), lv_has ls 4 [(0, .ref wy), (1, .int (nI i))] → W p l e (headSpec w_W_measure ({ frames := 3, cells := 0, slots := 0, locals := 72 } : Room)).room s m ([.ref wy] : List Value).toArray below meth c H locs 0 0 (MQ below (rw_Qv (dC, dI) classes A (fun (u : (Nat → Nat)) => ng_M np ne bd er oe ot wt u) (fun u => [cg_G g tA oA uA wA sA np ne bd er vr, cg_N oA cI 60 oe, cg_N uA cI 60 ot, cg_N wA cI 60 wt, cg_W wy g cA rA (nI vr) tl, cg_L cA cL 400 u])) ([.ref wy] : List Value).toArray s 0 0 A) (F0 m 21 ls []) := by
      intro n
      induction n with
      | zero => intro i ct1 hi ho hf1 hme; exact absurd hme (Nat.not_lt_zero _)
      | succ n ih =>
        intro i ct1 hi ho hf1 hme H locs hP hD hS ls hl
        have ih_21 := ih
        refine lv_iload_n hx hb d_W_measure_21 rfl (lv_at hl 1 rfl) ?_
        refine lv_aload_n hx hb d_W_measure_22 rfl (lv_at hl 0 rfl) ?_
        refine va_get (D := (dC, dI)) (ci := 1) (v := .ref g) (C := R_W) (T := F_W) (N := 5) hx hb hts iW hown hK hP 4 rfl rfl 0 (by decide) (hts _ (List.mem_cons_of_mem _ wk_W_26)) (fun _ h9 => h9) rfl d_W_measure_23 ?_
        refine va_get (D := (dC, dI)) (ci := 0) (v := .int (nI ne)) (C := R_G) (T := F_G) (N := 10) hx hb hts iG hown hK hP 0 rfl rfl 6 (by decide) (hts _ (List.mem_cons_of_mem _ wk_W_38)) (fun _ h9 => h9) rfl d_W_measure_26 ?_
        refine nr_icmp_ge (by omega) (by omega) (tgt := 80) hx hb d_W_measure_29 (by decide) (fun c_29 => ?_) (fun c_29 => ?_)
        · have hie : i = ne := by omega
          have ho6 := ho
          rw [hie] at ho6
          refine lv_iconst (v := nI 0) hx hb d_W_measure_80 (by decide) ?_
          refine lv_istore_n (lv' := [(1, .int (nI 0)), (0, .ref wy)]) hx hb d_W_measure_81 rfl hl (by decide) rfl (fun ls hl => ?_)
          have lp_82 : ∀ (n : Nat) (i : Nat) (ct1 : Nat → Nat), (i ≤ np) → (dm_I np ne (fun k => !nb_t bd k) oe ot (fun e => ng_w er wt e * 64 + 1) i (fun a b => ct1 (a * 20 + b))) → (∀ i, i < 400 → ct1 i ≤ dm_FAR) → np - i < n → ∀ (H : Heap) (locs : List Loc), va_P (dC, dI) classes [cg_G g tA oA uA wA sA np ne bd er vr, cg_N oA cI 60 oe, cg_N uA cI 60 ot, cg_N wA cI 60 wt, cg_W wy g cA rA mv tl, cg_L cA cL 400 ct1] H → va_D A [cg_G g tA oA uA wA sA np ne bd er vr, cg_N oA cI 60 oe, cg_N uA cI 60 ot, cg_N wA cI 60 wt, cg_W wy g cA rA mv tl, cg_L cA cL 400 ct1] → va_S A s.heap H locs → ∀ (ls : Array Slot), lv_has ls 4 [(0, .ref wy), (1, .int (nI i))] → W p l e (headSpec w_W_measure ({ frames := 3, cells := 0, slots := 0, locals := 72 } : Room)).room s m ([.ref wy] : List Value).toArray below meth c H locs 0 0 (MQ below (rw_Qv (dC, dI) classes A (fun (u : (Nat → Nat)) => ng_M np ne bd er oe ot wt u) (fun u => [cg_G g tA oA uA wA sA np ne bd er vr, cg_N oA cI 60 oe, cg_N uA cI 60 ot, cg_N wA cI 60 wt, cg_W wy g cA rA (nI vr) tl, cg_L cA cL 400 u])) ([.ref wy] : List Value).toArray s 0 0 A) (F0 m 82 ls []) := by
            intro n
            induction n with
            | zero => intro i ct1 hi2 ho5 hf5 hme; exact absurd hme (Nat.not_lt_zero _)
            | succ n ih =>
              intro i ct1 hi2 ho5 hf5 hme H locs hP hD hS ls hl
              have ih_82 := ih
              refine lv_iload_n hx hb d_W_measure_82 rfl (lv_at hl 1 rfl) ?_
              refine lv_aload_n hx hb d_W_measure_83 rfl (lv_at hl 0 rfl) ?_
              refine va_get (D := (dC, dI)) (ci := 1) (v := .ref g) (C := R_W) (T := F_W) (N := 5) hx hb hts iW hown hK hP 4 rfl rfl 0 (by decide) (hts _ (List.mem_cons_of_mem _ wk_W_26)) (fun _ h9 => h9) rfl d_W_measure_84 ?_
              refine va_get (D := (dC, dI)) (ci := 0) (v := .int (nI np)) (C := R_G) (T := F_G) (N := 10) hx hb hts iG hown hK hP 0 rfl rfl 5 (by decide) (hts _ (List.mem_cons_of_mem _ wk_W_55)) (fun _ h9 => h9) rfl d_W_measure_87 ?_
              refine nr_icmp_ge (by omega) (by omega) (tgt := 115) hx hb d_W_measure_90 (by decide) (fun c_90 => ?_) (fun c_90 => ?_)
              · have hin : i = np := by omega
                rw [hin] at ho5
                refine lv_aload_n hx hb d_W_measure_115 rfl (lv_at hl 0 rfl) ?_
                refine lv_aload_n hx hb d_W_measure_116 rfl (lv_at hl 0 rfl) ?_
                refine va_get (D := (dC, dI)) (ci := 1) (v := .ref g) (C := R_W) (T := F_W) (N := 5) hx hb hts iW hown hK hP 4 rfl rfl 0 (by decide) (hts _ (List.mem_cons_of_mem _ wk_W_26)) (fun _ h9 => h9) rfl d_W_measure_117 ?_
                refine va_get (D := (dC, dI)) (ci := 0) (v := .int (nI vr)) (C := R_G) (T := F_G) (N := 10) hx hb hts iG hown hK hP 0 rfl rfl 9 (by decide) (hts _ (List.mem_cons_of_mem _ wk_W_30)) (fun _ h9 => h9) rfl d_W_measure_120 ?_
                refine va_put (D := (dC, dI)) (ci := 1) (v := .int (nI vr)) (ty := .int) (C := R_W) (T := F_W) (N := 5) hx hb hts iW t_W t_W_ok n_W hown hK hP hD hS 4 rfl rfl 3 (by decide) (hts _ (List.mem_cons_of_mem _ wk_W_19)) (fun _ h9 => h9) rfl (by decide +kernel) rfl rfl (Nat.le_of_ble_eq_true rfl) d_W_measure_123 (fun H locs hP hD hS => ?_)
                have hP : va_P (dC, dI) classes [cg_G g tA oA uA wA sA np ne bd er vr, cg_N oA cI 60 oe, cg_N uA cI 60 ot, cg_N wA cI 60 wt, cg_W wy g cA rA (nI vr) tl, cg_L cA cL 400 ct1] H := hP
                have hD : va_D A [cg_G g tA oA uA wA sA np ne bd er vr, cg_N oA cI 60 oe, cg_N uA cI 60 ot, cg_N wA cI 60 wt, cg_W wy g cA rA (nI vr) tl, cg_L cA cL 400 ct1] := hD
                exact rw_vret ct1 hx hb hr hlocks hS hP (⟨ho5, hf5⟩) d_W_measure_126
              · refine lv_aload_n hx hb d_W_measure_93 rfl (lv_at hl 0 rfl) ?_
                refine va_get (D := (dC, dI)) (ci := 1) (v := .ref g) (C := R_W) (T := F_W) (N := 5) hx hb hts iW hown hK hP 4 rfl rfl 0 (by decide) (hts _ (List.mem_cons_of_mem _ wk_W_26)) (fun _ h9 => h9) rfl d_W_measure_94 ?_
                refine lv_iload_n hx hb d_W_measure_97 rfl (lv_at hl 1 rfl) ?_
                refine ro_Vi (As := [.int (nI i)]) (rest := []) ⟨hx, hb, hml, hown, hts⟩ (c_G_isBoundary l dC dI cI cL g tA oA uA wA sA np ne bd er vr i (by omega)) (cwV 1 hts (wg_V wk_W_58 wm_G_isBoundary we_G_isBoundary wi_G wc_G_isBoundary) rfl rfl rfl (by decide +kernel) ⟨Nat.le_of_ble_eq_true rfl, Nat.le_of_ble_eq_true rfl⟩) hK (hP.sub [0] rfl) (q0 := 0) rfl rfl rfl rfl hl.1 rfl (lv_room (Nat.le_of_ble_eq_true rfl)) d_W_measure_98 ⟨Nat.zero_le _, Nat.zero_le _⟩ hS hP (fun H locs hP hS => ?_)
                refine nr_ifneB (tgt := 109) hx hb d_W_measure_101 (by decide) (fun c_101 => ?_) (fun c_101 => ?_)
                · have ho7 := dm_skip (k := i) (by simp [c_101]) ho5
                  have hf7 := hf5
                  refine lv_iinc (v := (nI (i + 1))) (lv' := [(1, .int (nI (i + 1))), (0, .ref wy)]) hx hb d_W_measure_109 hl (k := 1) rfl (nI_1 i) (by decide) rfl (fun ls hl => ?_)
                  refine lv_goto (tgt := 82) hx hb d_W_measure_112 (by decide) ?_
                  exact ih_82 (i + 1) ct1 (by omega) ho7 hf7 (by omega) _ _ hP hD hS ls (lv_sub hl [1, 0] rfl)
                · have hmm : ct1 (i * 20 + i) = 0 := ho5.1 i c_90
                  refine lv_aload_n hx hb d_W_measure_104 rfl (lv_at hl 0 rfl) ?_
                  refine lv_iload_n hx hb d_W_measure_105 rfl (lv_at hl 1 rfl) ?_
                  refine rw_Vv (wr := [cg_N oA cI 60 oe, cg_N uA cI 60 ot, cg_N wA cI 60 wt]) [0, 4, 5] [1, 2, 3] rfl rfl (by decide) (As := [.int (nI i)]) (rest := []) ⟨hx, hb, hml, hown, hts⟩ (c_W_joinWaysAt l dC dI cI cL g tA oA uA wA sA np ne bd er vr wy cA rA mv tl ct1 i (by omega) (by omega) hmm hf5) (cwV 1 hts (wg_V wk_W_62 wm_W_joinWaysAt we_W_joinWaysAt wi_W wc_W_joinWaysAt) rfl rfl rfl (by decide +kernel) ⟨Nat.le_of_ble_eq_true rfl, Nat.le_of_ble_eq_true rfl⟩) hK (hP.sub [0, 4, 5] rfl) ((hD.sub [0, 4, 5] (by decide) rfl).weaken (fun _ _ _ _ => trivial)) (q0 := 1) rfl rfl rfl rfl hl.1 rfl (lv_room (Nat.le_of_ble_eq_true rfl)) d_W_measure_106 ⟨Nat.zero_le _, Nat.zero_le _⟩ hS hP hD (fun ct2_4 H locs hw_6 hP hS => ?_)
                  have hP : va_P (dC, dI) classes [cg_G g tA oA uA wA sA np ne bd er vr, cg_N oA cI 60 oe, cg_N uA cI 60 ot, cg_N wA cI 60 wt, cg_W wy g cA rA mv tl, cg_L cA cL 400 ct2_4] H := hP.sub [3, 0, 1, 2, 4, 5] rfl
                  have hD : va_D A [cg_G g tA oA uA wA sA np ne bd er vr, cg_N oA cI 60 oe, cg_N uA cI 60 ot, cg_N wA cI 60 wt, cg_W wy g cA rA mv tl, cg_L cA cL 400 ct2_4] := rw_re hD rfl
                  try dsimp only at hw_6
                  have ho7 := dm_congr (fun e he => hE e he) (fun a b ha hb => hw_6.1 a b ha hb) (dm_step (fun e he => hE e he) c_90 (by simp [c_101]) ho5)
                  have hf7 := hw_6.2
                  refine lv_iinc (v := (nI (i + 1))) (lv' := [(1, .int (nI (i + 1))), (0, .ref wy)]) hx hb d_W_measure_109 hl (k := 1) rfl (nI_1 i) (by decide) rfl (fun ls hl => ?_)
                  refine lv_goto (tgt := 82) hx hb d_W_measure_112 (by decide) ?_
                  exact ih_82 (i + 1) ct2_4 (by omega) ho7 hf7 (by omega) _ _ hP hD hS ls (lv_sub hl [1, 0] rfl)
          exact lp_82 (np - 0 + 1) 0 ct1 (by omega) ho6 hf1 (Nat.lt_succ_self _) _ _ hP hD hS ls (lv_sub hl [1, 0] rfl)
        · have hEi := hE i c_29
          have hWi := hW i c_29
          have hdi := hdf i c_29
          have hFAR : dm_FAR = 1000000000000 := rfl
          have hq1 := hf1 (oe i * 20 + ot i) (by omega)
          have ho4 := ng_ed hnp (fun e he => hE e (by omega)) hdi (c := ng_w er wt i * 64 + 1) rfl (by omega) ho
          have hf3 := ng_low_far (c := ng_w er wt i * 64 + 1) hf1 (show oe i * 20 + ot i < 400 by omega)
          have hf4 := ng_low_far (c := ng_w er wt i * 64 + 1) hf3 (show ot i * 20 + oe i < 400 by omega)
          have hq2 := hf3 (ot i * 20 + oe i) (by omega)
          refine lv_aload_n hx hb d_W_measure_32 rfl (lv_at hl 0 rfl) ?_
          refine va_get (D := (dC, dI)) (ci := 1) (v := .ref g) (C := R_W) (T := F_W) (N := 5) hx hb hts iW hown hK hP 4 rfl rfl 0 (by decide) (hts _ (List.mem_cons_of_mem _ wk_W_26)) (fun _ h9 => h9) rfl d_W_measure_33 ?_
          refine va_get (D := (dC, dI)) (ci := 0) (v := .ref oA) (C := R_G) (T := F_G) (N := 10) hx hb hts iG hown hK hP 0 rfl rfl 1 (by decide) (hts _ (List.mem_cons_of_mem _ wk_W_41)) (fun _ h9 => h9) rfl d_W_measure_36 ?_
          refine lv_iload_n hx hb d_W_measure_39 rfl (lv_at hl 1 rfl) ?_
          refine nr_iald hx hb hK hP 1 0 rfl rfl (by omega) (by decide) d_W_measure_40 ?_
          refine lv_istore_n (lv' := [(2, .int (nI (oe i))), (0, .ref wy), (1, .int (nI i))]) hx hb d_W_measure_41 rfl hl (by decide) rfl (fun ls hl => ?_)
          refine lv_aload_n hx hb d_W_measure_42 rfl (lv_at hl 1 rfl) ?_
          refine va_get (D := (dC, dI)) (ci := 1) (v := .ref g) (C := R_W) (T := F_W) (N := 5) hx hb hts iW hown hK hP 4 rfl rfl 0 (by decide) (hts _ (List.mem_cons_of_mem _ wk_W_26)) (fun _ h9 => h9) rfl d_W_measure_43 ?_
          refine va_get (D := (dC, dI)) (ci := 0) (v := .ref uA) (C := R_G) (T := F_G) (N := 10) hx hb hts iG hown hK hP 0 rfl rfl 2 (by decide) (hts _ (List.mem_cons_of_mem _ wk_W_44)) (fun _ h9 => h9) rfl d_W_measure_46 ?_
          refine lv_iload_n hx hb d_W_measure_49 rfl (lv_at hl 2 rfl) ?_
          refine nr_iald hx hb hK hP 2 0 rfl rfl (by omega) (by decide) d_W_measure_50 ?_
          refine lv_istore_n (lv' := [(3, .int (nI (ot i))), (2, .int (nI (oe i))), (0, .ref wy), (1, .int (nI i))]) hx hb d_W_measure_51 rfl hl (by decide) rfl (fun ls hl => ?_)
          refine lv_aload_n hx hb d_W_measure_52 rfl (lv_at hl 2 rfl) ?_
          refine lv_iload_n hx hb d_W_measure_53 rfl (lv_at hl 1 rfl) ?_
          refine lv_iload_n hx hb d_W_measure_54 rfl (lv_at hl 0 rfl) ?_
          refine lv_aload_n hx hb d_W_measure_55 rfl (lv_at hl 2 rfl) ?_
          refine lv_iload_n hx hb d_W_measure_56 rfl (lv_at hl 3 rfl) ?_
          refine ro_Vl (As := [.int (nI i)]) (rest := [.int (nI (ot i)), .int (nI (oe i)), .ref wy]) ⟨hx, hb, hml, hown, hts⟩ (c_W_edgeCost l dC dI cI cL g tA oA uA wA sA np ne bd er vr wy cA rA mv tl wt i (by omega) hWi) (cwV 1 hts (wg_V wk_W_47 wm_W_edgeCost we_W_edgeCost wi_W wc_W_edgeCost) rfl rfl rfl (by decide +kernel) ⟨Nat.le_of_ble_eq_true rfl, Nat.le_of_ble_eq_true rfl⟩) hK (hP.sub [0, 3, 4] rfl) (q0 := 2) rfl rfl rfl rfl hl.1 rfl (lv_room (Nat.le_of_ble_eq_true rfl)) d_W_measure_57 ⟨Nat.zero_le _, Nat.zero_le _⟩ hS hP (fun H locs hP hS => ?_)
          refine rw_Vv (wr := [cg_G g tA oA uA wA sA np ne bd er vr, cg_N oA cI 60 oe, cg_N uA cI 60 ot, cg_N wA cI 60 wt]) [4, 5] [0, 1, 2, 3] rfl rfl (by decide) (As := [.int (nI (oe i)), .int (nI (ot i)), .long (lN (ng_w er wt i * 64 + 1))]) (rest := []) ⟨hx, hb, hml, hown, hts⟩ (c_W_lower l dC dI cI cL wy g cA rA mv tl ct1 (oe i) (ot i) (ng_w er wt i * 64 + 1) (by omega) (by omega) (by omega) (by omega)) (cwV 3 hts (wg_V wk_W_51 wm_W_lower we_W_lower wi_W wc_W_lower) rfl rfl rfl (by decide +kernel) ⟨Nat.le_of_ble_eq_true rfl, Nat.le_of_ble_eq_true rfl⟩) hK (hP.sub [4, 5] rfl) ((hD.sub [4, 5] (by decide) rfl).weaken (fun _ _ _ _ => trivial)) (q0 := 0) rfl rfl rfl rfl hl.1 rfl (lv_room (Nat.le_of_ble_eq_true rfl)) d_W_measure_60 ⟨Nat.zero_le _, Nat.zero_le _⟩ hS hP hD (fun u H locs hw_8 hP hS => ?_)
          have hP : va_P (dC, dI) classes [cg_G g tA oA uA wA sA np ne bd er vr, cg_N oA cI 60 oe, cg_N uA cI 60 ot, cg_N wA cI 60 wt, cg_W wy g cA rA mv tl, cg_L cA cL 400 (ng_low ct1 ((oe i) * 20 + (ot i)) (ng_w er wt i * 64 + 1))] H := hP.sub [0, 1, 2, 3, 4, 5] rfl
          have hD : va_D A [cg_G g tA oA uA wA sA np ne bd er vr, cg_N oA cI 60 oe, cg_N uA cI 60 ot, cg_N wA cI 60 wt, cg_W wy g cA rA mv tl, cg_L cA cL 400 (ng_low ct1 ((oe i) * 20 + (ot i)) (ng_w er wt i * 64 + 1))] := rw_re hD rfl
          refine lv_aload_n hx hb d_W_measure_63 rfl (lv_at hl 2 rfl) ?_
          refine lv_iload_n hx hb d_W_measure_64 rfl (lv_at hl 0 rfl) ?_
          refine lv_iload_n hx hb d_W_measure_65 rfl (lv_at hl 1 rfl) ?_
          refine lv_aload_n hx hb d_W_measure_66 rfl (lv_at hl 2 rfl) ?_
          refine lv_iload_n hx hb d_W_measure_67 rfl (lv_at hl 3 rfl) ?_
          refine ro_Vl (As := [.int (nI i)]) (rest := [.int (nI (oe i)), .int (nI (ot i)), .ref wy]) ⟨hx, hb, hml, hown, hts⟩ (c_W_edgeCost l dC dI cI cL g tA oA uA wA sA np ne bd er vr wy cA rA mv tl wt i (by omega) hWi) (cwV 1 hts (wg_V wk_W_47 wm_W_edgeCost we_W_edgeCost wi_W wc_W_edgeCost) rfl rfl rfl (by decide +kernel) ⟨Nat.le_of_ble_eq_true rfl, Nat.le_of_ble_eq_true rfl⟩) hK (hP.sub [0, 3, 4] rfl) (q0 := 2) rfl rfl rfl rfl hl.1 rfl (lv_room (Nat.le_of_ble_eq_true rfl)) d_W_measure_68 ⟨Nat.zero_le _, Nat.zero_le _⟩ hS hP (fun H locs hP hS => ?_)
          refine rw_Vv (wr := [cg_G g tA oA uA wA sA np ne bd er vr, cg_N oA cI 60 oe, cg_N uA cI 60 ot, cg_N wA cI 60 wt]) [4, 5] [0, 1, 2, 3] rfl rfl (by decide) (As := [.int (nI (ot i)), .int (nI (oe i)), .long (lN (ng_w er wt i * 64 + 1))]) (rest := []) ⟨hx, hb, hml, hown, hts⟩ (c_W_lower l dC dI cI cL wy g cA rA mv tl (ng_low ct1 ((oe i) * 20 + (ot i)) (ng_w er wt i * 64 + 1)) (ot i) (oe i) (ng_w er wt i * 64 + 1) (by omega) (by omega) (by omega) (by omega)) (cwV 3 hts (wg_V wk_W_51 wm_W_lower we_W_lower wi_W wc_W_lower) rfl rfl rfl (by decide +kernel) ⟨Nat.le_of_ble_eq_true rfl, Nat.le_of_ble_eq_true rfl⟩) hK (hP.sub [4, 5] rfl) ((hD.sub [4, 5] (by decide) rfl).weaken (fun _ _ _ _ => trivial)) (q0 := 0) rfl rfl rfl rfl hl.1 rfl (lv_room (Nat.le_of_ble_eq_true rfl)) d_W_measure_71 ⟨Nat.zero_le _, Nat.zero_le _⟩ hS hP hD (fun u H locs hw_10 hP hS => ?_)
          have hP : va_P (dC, dI) classes [cg_G g tA oA uA wA sA np ne bd er vr, cg_N oA cI 60 oe, cg_N uA cI 60 ot, cg_N wA cI 60 wt, cg_W wy g cA rA mv tl, cg_L cA cL 400 (ng_low (ng_low ct1 ((oe i) * 20 + (ot i)) (ng_w er wt i * 64 + 1)) ((ot i) * 20 + (oe i)) (ng_w er wt i * 64 + 1))] H := hP.sub [0, 1, 2, 3, 4, 5] rfl
          have hD : va_D A [cg_G g tA oA uA wA sA np ne bd er vr, cg_N oA cI 60 oe, cg_N uA cI 60 ot, cg_N wA cI 60 wt, cg_W wy g cA rA mv tl, cg_L cA cL 400 (ng_low (ng_low ct1 ((oe i) * 20 + (ot i)) (ng_w er wt i * 64 + 1)) ((ot i) * 20 + (oe i)) (ng_w er wt i * 64 + 1))] := rw_re hD rfl
          refine lv_iinc (v := (nI (i + 1))) (lv' := [(1, .int (nI (i + 1))), (3, .int (nI (ot i))), (2, .int (nI (oe i))), (0, .ref wy)]) hx hb d_W_measure_74 hl (k := 3) rfl (nI_1 i) (by decide) rfl (fun ls hl => ?_)
          refine lv_goto (tgt := 21) hx hb d_W_measure_77 (by decide) ?_
          exact ih_21 (i + 1) (ng_low (ng_low ct1 ((oe i) * 20 + (ot i)) (ng_w er wt i * 64 + 1)) ((ot i) * 20 + (oe i)) (ng_w er wt i * 64 + 1)) (by omega) ho4 hf4 (by omega) _ _ hP hD hS ls (lv_sub hl [3, 0] rfl)
    exact lp_21 (ne - 0 + 1) 0 ct2_1 (by omega) (dm_zero (fun a ha => by have := hw_a a a ha ha; simpa using this) (fun a b ha hb hab => by have := hw_a a b ha hb; simpa [hab] using this)) hw_b (Nat.lt_succ_self _) _ _ hP hD hS ls (lv_sub hl [1, 0] rfl)
  · subst c_11
    exact rw_vret ct hx hb hr hlocks hS hP (hm rfl) d_W_measure_14
set_option maxHeartbeats 4000000 in
set_option maxRecDepth 100000 in
theorem c_W_trailAsSet (l : Launch) (dC : Nat → ClassId) (dI : Nat → Nat → Nat) (cI cL : ClassId) (wy g cA rA : Nat) (mv : Int32) (tl : Nat) (tr : Nat → Nat) (htl : tl ≤ 20) : Met l y_W_trailAsSet w_W_trailAsSet ({ frames := 0, cells := 0, slots := 0, locals := 0 } : Room) (va_Pc [.ref wy] (ro_B (dC, dI) classes [(cI, .int), (cL, .long)] [cg_W wy g cA rA mv tl, cg_N rA cI 20 tr])) (ro_Ql (ng_set tr tl)) 0 0 ro_A := by
  refine Met.ofW (cc := b_W_trailAsSet) (maxL := 4) (ret := (some .long)) (by decide) rfl ?_
  intro p e s m args below meth c s₁ B hml hv
  obtain ⟨rfl, hP, hK⟩ := hv
  have hx := B.exec
  have hb := B.bytes
  have hr := B.returns
  have hts := atoms_spec (ws := w_W_trailAsSet) B.pre
  have hown : s.vm.findClass R_W = some m.cls := findClass_of_methodNamed B.named
  have hlocks := B.notSynchronized
  have iW : ∀ w ∈ w_W, w ∈ w_W_trailAsSet := fun w h => List.mem_cons_of_mem _ (i_W w h)
  have hS : va_S ro_A s.heap s.heap [] := va_S.rf
  have hP : va_P (dC, dI) classes [cg_W wy g cA rA mv tl, cg_N rA cI 20 tr] s.heap := hP
  have hl := lv_entry ([.ref wy]) (n := 4) (Nat.le_of_ble_eq_true rfl)
  rw [lg_entry_eq]
  generalize (lg_sl ([.ref wy]) ++ List.replicate (4 - (lg_sl ([.ref wy])).length) Slot.unset).toArray = ls at hl ⊢
  have hl : lv_has ls 4 [(0, .ref wy)] := hl
  refine lv_lconst (v := lN 0) hx hb d_W_trailAsSet_0 (by decide) ?_
  refine lv_lstore_n (lv' := [(1, .long (lN 0)), (0, .ref wy)]) hx hb d_W_trailAsSet_1 rfl hl (by decide) rfl (fun ls hl => ?_)
  refine lv_iconst (v := nI 0) hx hb d_W_trailAsSet_2 (by decide) ?_
  refine lv_istore_n (lv' := [(3, .int (nI 0)), (1, .long (lN 0)), (0, .ref wy)]) hx hb d_W_trailAsSet_3 rfl hl (by decide) rfl (fun ls hl => ?_)
  have lp_4 : ∀ (n : Nat) (i : Nat) (sx : Int64), (i ≤ tl) → (sx = ng_set tr i) → tl - i < n → ∀ (H : Heap) (locs : List Loc), va_P (dC, dI) classes [cg_W wy g cA rA mv tl, cg_N rA cI 20 tr] H → va_S ro_A s.heap H locs → ∀ (ls : Array Slot), lv_has ls 4 [(0, .ref wy), (1, .long sx), (3, .int (nI i))] → W p l e (headSpec w_W_trailAsSet ({ frames := 0, cells := 0, slots := 0, locals := 0 } : Room)).room s m ([.ref wy] : List Value).toArray below meth c H locs 0 0 (MQ below (ro_Ql (ng_set tr tl)) ([.ref wy] : List Value).toArray s 0 0 ro_A) (F0 m 4 ls []) := by
    intro n
    induction n with
    | zero => intro i sx hi ho hme; exact absurd hme (Nat.not_lt_zero _)
    | succ n ih =>
      intro i sx hi ho hme H locs hP hS ls hl
      have ih_4 := ih
      refine lv_iload_n hx hb d_W_trailAsSet_4 rfl (lv_at hl 2 rfl) ?_
      refine lv_aload_n hx hb d_W_trailAsSet_5 rfl (lv_at hl 0 rfl) ?_
      refine va_get (D := (dC, dI)) (ci := 1) (v := .int (nI tl)) (C := R_W) (T := F_W) (N := 5) hx hb hts iW hown hK hP 0 rfl rfl 4 (by decide) (hts _ (List.mem_cons_of_mem _ wk_W_23)) (fun _ h9 => h9) rfl d_W_trailAsSet_6 ?_
      refine nr_icmp_ge (by omega) (by omega) (tgt := 29) hx hb d_W_trailAsSet_9 (by decide) (fun c_9 => ?_) (fun c_9 => ?_)
      · refine lv_lload_n hx hb d_W_trailAsSet_29 rfl (lv_at hl 1 rfl) ?_
        exact ro_lret hx hb hr hlocks hS (by rw [ho, show i = tl by omega]) d_W_trailAsSet_30
      · refine lv_lload_n hx hb d_W_trailAsSet_12 rfl (lv_at hl 1 rfl) ?_
        refine lv_lconst (v := lN 1) hx hb d_W_trailAsSet_13 (by decide) ?_
        refine lv_aload_n hx hb d_W_trailAsSet_14 rfl (lv_at hl 0 rfl) ?_
        refine va_get (D := (dC, dI)) (ci := 1) (v := .ref rA) (C := R_W) (T := F_W) (N := 5) hx hb hts iW hown hK hP 0 rfl rfl 2 (by decide) (hts _ (List.mem_cons_of_mem _ wk_W_15)) (fun _ h9 => h9) rfl d_W_trailAsSet_15 ?_
        refine lv_iload_n hx hb d_W_trailAsSet_18 rfl (lv_at hl 2 rfl) ?_
        refine nr_iald hx hb hK hP 1 0 rfl rfl (by omega) (by decide) d_W_trailAsSet_19 ?_
        refine lv_lshl hx hb d_W_trailAsSet_20 rfl ?_
        refine nr_asL (v := nb_p (tr i)) rfl ?_
        refine lv_lor hx hb d_W_trailAsSet_21 ?_
        refine lv_lstore_n (lv' := [(1, .long (sx ||| (nb_p (tr i)))), (0, .ref wy), (3, .int (nI i))]) hx hb d_W_trailAsSet_22 rfl hl (by decide) rfl (fun ls hl => ?_)
        refine lv_iinc (v := (nI (i + 1))) (lv' := [(3, .int (nI (i + 1))), (1, .long (sx ||| (nb_p (tr i)))), (0, .ref wy)]) hx hb d_W_trailAsSet_23 hl (k := 2) rfl (nI_1 i) (by decide) rfl (fun ls hl => ?_)
        refine lv_goto (tgt := 4) hx hb d_W_trailAsSet_26 (by decide) ?_
        exact ih_4 (i + 1) (sx ||| (nb_p (tr i))) (by omega) (by subst ho; rfl) (by omega) _ _ hP hS ls (lv_sub hl [2, 1, 0] rfl)
  exact lp_4 (tl - 0 + 1) 0 (lN 0) (by omega) rfl (Nat.lt_succ_self _) _ _ hP hS ls (lv_sub hl [2, 1, 0] rfl)
set_option maxHeartbeats 4000000 in
set_option maxRecDepth 100000 in
theorem c_W_trailEdge (l : Launch) (dC : Nat → ClassId) (dI : Nat → Nat → Nat) (cI cL : ClassId) (wy g cA rA : Nat) (mv : Int32) (tl : Nat) (tr : Nat → Nat) (a : Int32) (b : Bool) (htl : tl ≤ 20) : Met l y_W_trailEdge w_W_trailEdge ({ frames := 0, cells := 0, slots := 0, locals := 0 } : Room) (va_Pc [.ref wy, .int a, .int (nb_i b)] (ro_B (dC, dI) classes [(cI, .int), (cL, .long)] [cg_W wy g cA rA mv tl, cg_N rA cI 20 tr])) (ro_Qi (ng_te tl tr a b)) 0 0 ro_A := by
  refine Met.ofW (cc := b_W_trailEdge) (maxL := 3) (ret := (some .int)) (by decide) rfl ?_
  intro p e s m args below meth c s₁ B hml hv
  obtain ⟨rfl, hP, hK⟩ := hv
  have hx := B.exec
  have hb := B.bytes
  have hr := B.returns
  have hts := atoms_spec (ws := w_W_trailEdge) B.pre
  have hown : s.vm.findClass R_W = some m.cls := findClass_of_methodNamed B.named
  have hlocks := B.notSynchronized
  have iW : ∀ w ∈ w_W, w ∈ w_W_trailEdge := fun w h => List.mem_cons_of_mem _ (i_W w h)
  have hS : va_S ro_A s.heap s.heap [] := va_S.rf
  have hP : va_P (dC, dI) classes [cg_W wy g cA rA mv tl, cg_N rA cI 20 tr] s.heap := hP
  have hl := lv_entry ([.ref wy, .int a, .int (nb_i b)]) (n := 3) (Nat.le_of_ble_eq_true rfl)
  rw [lg_entry_eq]
  generalize (lg_sl ([.ref wy, .int a, .int (nb_i b)]) ++ List.replicate (3 - (lg_sl ([.ref wy, .int a, .int (nb_i b)])).length) Slot.unset).toArray = ls at hl ⊢
  have hl : lv_has ls 3 [(0, .ref wy), (1, .int a), (2, .int (nb_i b))] := hl
  refine lv_iload_n hx hb d_W_trailEdge_0 rfl (lv_at hl 1 rfl) ?_
  refine lv_if_lt (tgt := 12) hx hb d_W_trailEdge_1 (by decide) (fun c_1 => ?_) (fun c_1 => ?_)
  · refine lv_iconst (v := -1) hx hb d_W_trailEdge_12 (by decide) ?_
    exact ro_iret hx hb hr hlocks hS (by simp [ng_te, nb_in, *]) d_W_trailEdge_13
  · refine lv_iload_n hx hb d_W_trailEdge_4 rfl (lv_at hl 1 rfl) ?_
    refine lv_aload_n hx hb d_W_trailEdge_5 rfl (lv_at hl 0 rfl) ?_
    refine va_get (D := (dC, dI)) (ci := 1) (v := .int (nI tl)) (C := R_W) (T := F_W) (N := 5) hx hb hts iW hown hK hP 0 rfl rfl 4 (by decide) (hts _ (List.mem_cons_of_mem _ wk_W_23)) (fun _ h9 => h9) rfl d_W_trailEdge_6 ?_
    refine lv_icmp_lt (tgt := 14) hx hb d_W_trailEdge_9 (by decide) (fun c_9 => ?_) (fun c_9 => ?_)
    · obtain ⟨ja, hja, rfl⟩ := nb_inI_of (n := tl) (by omega) (nb_inI_t c_1 (fun q => Int32.not_lt.mpr q c_9))
      have eja := nI_clamp (n := ja) (by omega)
      have hin : nb_in tl (nI ja) = true := by rw [nb_inI_nI (by omega) (by omega)]; simp [hja]
      refine lv_iload_n hx hb d_W_trailEdge_14 rfl (lv_at hl 2 rfl) ?_
      refine nr_ifeqB (tgt := 34) hx hb d_W_trailEdge_15 (by decide) (fun c_15 => ?_) (fun c_15 => ?_)
      · refine lv_aload_n hx hb d_W_trailEdge_34 rfl (lv_at hl 0 rfl) ?_
        refine va_get (D := (dC, dI)) (ci := 1) (v := .ref rA) (C := R_W) (T := F_W) (N := 5) hx hb hts iW hown hK hP 0 rfl rfl 2 (by decide) (hts _ (List.mem_cons_of_mem _ wk_W_15)) (fun _ h9 => h9) rfl d_W_trailEdge_35 ?_
        refine lv_iload_n hx hb d_W_trailEdge_38 rfl (lv_at hl 1 rfl) ?_
        refine nr_iald hx hb hK hP 1 0 rfl rfl (by omega) (by decide) d_W_trailEdge_39 ?_
        exact ro_iret hx hb hr hlocks hS (by simp [ng_te, *]) d_W_trailEdge_40
      · refine lv_aload_n hx hb d_W_trailEdge_18 rfl (lv_at hl 0 rfl) ?_
        refine va_get (D := (dC, dI)) (ci := 1) (v := .ref rA) (C := R_W) (T := F_W) (N := 5) hx hb hts iW hown hK hP 0 rfl rfl 2 (by decide) (hts _ (List.mem_cons_of_mem _ wk_W_15)) (fun _ h9 => h9) rfl d_W_trailEdge_19 ?_
        refine lv_aload_n hx hb d_W_trailEdge_22 rfl (lv_at hl 0 rfl) ?_
        refine va_get (D := (dC, dI)) (ci := 1) (v := .int (nI tl)) (C := R_W) (T := F_W) (N := 5) hx hb hts iW hown hK hP 0 rfl rfl 4 (by decide) (hts _ (List.mem_cons_of_mem _ wk_W_23)) (fun _ h9 => h9) rfl d_W_trailEdge_23 ?_
        refine lv_iconst (v := nI 1) hx hb d_W_trailEdge_26 (by decide) ?_
        refine nr_isub (by omega) hx hb d_W_trailEdge_27 ?_
        refine lv_iload_n hx hb d_W_trailEdge_28 rfl (lv_at hl 1 rfl) ?_
        refine nr_isub (by omega) hx hb d_W_trailEdge_29 ?_
        refine nr_iald hx hb hK hP 1 0 rfl rfl (by omega) (by decide) d_W_trailEdge_30 ?_
        refine lv_goto (tgt := 40) hx hb d_W_trailEdge_31 (by decide) ?_
        exact ro_iret hx hb hr hlocks hS (by simp [ng_te, *]) d_W_trailEdge_40
    · refine lv_iconst (v := -1) hx hb d_W_trailEdge_12 (by decide) ?_
      exact ro_iret hx hb hr hlocks hS (by simp [ng_te, nb_in, *]) d_W_trailEdge_13
set_option maxHeartbeats 4000000 in
set_option maxRecDepth 100000 in
theorem c_W_trace (l : Launch) (dC : Nat → ClassId) (dI : Nat → Nat → Nat) (cI cL : ClassId) (g tA oA uA wA sA np ne : Nat) (bd : Int32) (er : Int64) (vr : Nat) (wy cA rA : Nat) (mv : Int32) (tl : Nat) (oe ot wt ct tr : Nat → Nat) (a b : Nat) (ha : a < 20) (hb1 : b < 20) (hne : ne ≤ 60) (hE : ∀ i, i < ne → oe i < 20 ∧ ot i < 20) (hW : ∀ i, i < ne → ng_w er wt i ≤ 1000000) (hct : ∀ i, i < 400 → ct i ≤ dm_FAR) : Met l y_W_trace w_W_trace ({ frames := 3, cells := 0, slots := 0, locals := 66 } : Room) (va_Pc [.ref wy, .int (nI a), .int (nI b)] (rw_B (dC, dI) classes [(cI, .int), (cL, .long)] [cg_G g tA oA uA wA sA np ne bd er vr, cg_N oA cI 60 oe, cg_N uA cI 60 ot, cg_N wA cI 60 wt, cg_W wy g cA rA mv tl, cg_L cA cL 400 ct, cg_N rA cI 20 tr])) (rw_Qv (dC, dI) classes (rw_A [cg_G g tA oA uA wA sA np ne bd er vr, cg_N oA cI 60 oe, cg_N uA cI 60 ot, cg_N wA cI 60 wt, cg_W wy g cA rA mv tl, cg_L cA cL 400 ct, cg_N rA cI 20 tr]) (fun (u : (Nat → Nat)) => (∀ i, i < (ng_path (ng_nxt bd er oe ot wt ct ne (max a b)) (max a b) 20 (min a b)).length → (ng_path (ng_nxt bd er oe ot wt ct ne (max a b)) (max a b) 20 (min a b))[i]? = some (u i)) ∧ (ng_path (ng_nxt bd er oe ot wt ct ne (max a b)) (max a b) 20 (min a b)).length ≤ 20) (fun u => [cg_G g tA oA uA wA sA np ne bd er vr, cg_N oA cI 60 oe, cg_N uA cI 60 ot, cg_N wA cI 60 wt, cg_W wy g cA rA mv ((ng_path (ng_nxt bd er oe ot wt ct ne (max a b)) (max a b) 20 (min a b)).length), cg_L cA cL 400 ct, cg_N rA cI 20 u])) 0 0 (rw_A [cg_G g tA oA uA wA sA np ne bd er vr, cg_N oA cI 60 oe, cg_N uA cI 60 ot, cg_N wA cI 60 wt, cg_W wy g cA rA mv tl, cg_L cA cL 400 ct, cg_N rA cI 20 tr]) := by
  refine Met.ofW (cc := b_W_trace) (maxL := 6) (ret := none) (by decide) rfl ?_
  intro p e s m args below meth c s₁ B hml hv
  obtain ⟨rfl, hP, hK, hD0⟩ := hv
  have hx := B.exec
  have hb := B.bytes
  have hr := B.returns
  have hts := atoms_spec (ws := w_W_trace) B.pre
  have hown : s.vm.findClass R_W = some m.cls := findClass_of_methodNamed B.named
  have hlocks := B.notSynchronized
  have iW : ∀ w ∈ w_W, w ∈ w_W_trace := fun w h => List.mem_cons_of_mem _ (i_W w h)
  have hD := rw_own hD0
  generalize hAe : rw_A [cg_G g tA oA uA wA sA np ne bd er vr, cg_N oA cI 60 oe, cg_N uA cI 60 ot, cg_N wA cI 60 wt, cg_W wy g cA rA mv tl, cg_L cA cL 400 ct, cg_N rA cI 20 tr] = A at hD ⊢
  have hS : va_S A s.heap s.heap [] := va_S.rf
  have hP : va_P (dC, dI) classes [cg_G g tA oA uA wA sA np ne bd er vr, cg_N oA cI 60 oe, cg_N uA cI 60 ot, cg_N wA cI 60 wt, cg_W wy g cA rA mv tl, cg_L cA cL 400 ct, cg_N rA cI 20 tr] s.heap := hP
  have hl := lv_entry ([.ref wy, .int (nI a), .int (nI b)]) (n := 6) (Nat.le_of_ble_eq_true rfl)
  rw [lg_entry_eq]
  generalize (lg_sl ([.ref wy, .int (nI a), .int (nI b)]) ++ List.replicate (6 - (lg_sl ([.ref wy, .int (nI a), .int (nI b)])).length) Slot.unset).toArray = ls at hl ⊢
  have hl : lv_has ls 6 [(0, .ref wy), (1, .int (nI a)), (2, .int (nI b))] := hl
  have hmi : min a b < 20 := by omega
  have hma : max a b < 20 := by omega
  obtain ⟨z, hz⟩ : ∃ z, z = max a b := ⟨_, rfl⟩
  obtain ⟨h0, hh0⟩ : ∃ h, h = min a b := ⟨_, rfl⟩
  refine lv_iload_n hx hb d_W_trace_0 rfl (lv_at hl 1 rfl) ?_
  refine lv_iload_n hx hb d_W_trace_1 rfl (lv_at hl 2 rfl) ?_
  refine va_mmin hx hb (by rw [hml]; exact hl.1.symm) hown (hts (.methodLink R_W 74 Lib.Math.min.name) (by decide +kernel)) (hts (.static Lib.Math.min.name) (by decide +kernel)) (hts (.initialized "java/lang/Math") (by decide +kernel)) (hts (.code Lib.Math.min.name Lib.Math.min.code 2 (some .int)) (by decide +kernel)) (Nat.le_of_ble_eq_true rfl) (Nat.le_of_ble_eq_true rfl) (Nat.zero_le _) (Nat.zero_le _) d_W_trace_2 ?_
  refine nr_as (v := nI (min a b)) (ng_min (by omega) (by omega)) ?_
  refine lv_istore_n (lv' := [(3, .int (nI (min a b))), (0, .ref wy), (1, .int (nI a)), (2, .int (nI b))]) hx hb d_W_trace_5 rfl hl (by decide) rfl (fun ls hl => ?_)
  refine lv_iload_n hx hb d_W_trace_6 rfl (lv_at hl 2 rfl) ?_
  refine lv_iload_n hx hb d_W_trace_7 rfl (lv_at hl 3 rfl) ?_
  refine va_mmax hx hb (by rw [hml]; exact hl.1.symm) hown (hts (.methodLink R_W 79 Lib.Math.max.name) (by decide +kernel)) (hts (.static Lib.Math.max.name) (by decide +kernel)) (hts (.initialized "java/lang/Math") (by decide +kernel)) (hts (.code Lib.Math.max.name Lib.Math.max.code 2 (some .int)) (by decide +kernel)) (Nat.le_of_ble_eq_true rfl) (Nat.le_of_ble_eq_true rfl) (Nat.zero_le _) (Nat.zero_le _) d_W_trace_8 ?_
  refine nr_as (v := nI (max a b)) (ng_max (by omega) (by omega)) ?_
  refine lv_istore (lv' := [(4, .int (nI (max a b))), (3, .int (nI (min a b))), (0, .ref wy), (1, .int (nI a)), (2, .int (nI b))]) hx hb d_W_trace_11 hl (by decide) rfl (fun ls hl => ?_)
  refine lv_aload_n hx hb d_W_trace_13 rfl (lv_at hl 2 rfl) ?_
  refine lv_iconst (v := nI 0) hx hb d_W_trace_14 (by decide) ?_
  refine va_put (D := (dC, dI)) (ci := 1) (v := .int (nI 0)) (ty := .int) (C := R_W) (T := F_W) (N := 5) hx hb hts iW t_W t_W_ok n_W hown hK hP hD hS 4 rfl rfl 4 (by decide) (hts _ (List.mem_cons_of_mem _ wk_W_23)) (fun _ h9 => h9) rfl (by decide +kernel) rfl rfl (Nat.le_of_ble_eq_true rfl) d_W_trace_15 (fun H locs hP hD hS => ?_)
  have hP : va_P (dC, dI) classes [cg_G g tA oA uA wA sA np ne bd er vr, cg_N oA cI 60 oe, cg_N uA cI 60 ot, cg_N wA cI 60 wt, cg_W wy g cA rA mv 0, cg_L cA cL 400 ct, cg_N rA cI 20 tr] H := hP
  have hD : va_D A [cg_G g tA oA uA wA sA np ne bd er vr, cg_N oA cI 60 oe, cg_N uA cI 60 ot, cg_N wA cI 60 wt, cg_W wy g cA rA mv 0, cg_L cA cL 400 ct, cg_N rA cI 20 tr] := hD
  have lp_18 : ∀ (n : Nat) (h n0 : Nat) (tr1 : Nat → Nat), (n0 ≤ 20) → (h < 20) → ((ng_path (ng_nxt bd er oe ot wt ct ne (max a b)) (max a b) 20 (min a b)).drop n0 = ng_path (ng_nxt bd er oe ot wt ct ne (max a b)) (max a b) (20 - n0) h) → (n0 ≤ (ng_path (ng_nxt bd er oe ot wt ct ne (max a b)) (max a b) 20 (min a b)).length) → (∀ i, i < n0 → (ng_path (ng_nxt bd er oe ot wt ct ne (max a b)) (max a b) 20 (min a b))[i]? = some (tr1 i)) → 20 - n0 < n → ∀ (H : Heap) (locs : List Loc), va_P (dC, dI) classes [cg_G g tA oA uA wA sA np ne bd er vr, cg_N oA cI 60 oe, cg_N uA cI 60 ot, cg_N wA cI 60 wt, cg_W wy g cA rA mv n0, cg_L cA cL 400 ct, cg_N rA cI 20 tr1] H → va_D A [cg_G g tA oA uA wA sA np ne bd er vr, cg_N oA cI 60 oe, cg_N uA cI 60 ot, cg_N wA cI 60 wt, cg_W wy g cA rA mv n0, cg_L cA cL 400 ct, cg_N rA cI 20 tr1] → va_S A s.heap H locs → ∀ (ls : Array Slot), lv_has ls 6 [(0, .ref wy), (1, .int (nI a)), (2, .int (nI b)), (3, .int (nI h)), (4, .int (nI (max a b)))] → W p l e (headSpec w_W_trace ({ frames := 3, cells := 0, slots := 0, locals := 66 } : Room)).room s m ([.ref wy, .int (nI a), .int (nI b)] : List Value).toArray below meth c H locs 0 0 (MQ below (rw_Qv (dC, dI) classes A (fun (u : (Nat → Nat)) => (∀ i, i < (ng_path (ng_nxt bd er oe ot wt ct ne (max a b)) (max a b) 20 (min a b)).length → (ng_path (ng_nxt bd er oe ot wt ct ne (max a b)) (max a b) 20 (min a b))[i]? = some (u i)) ∧ (ng_path (ng_nxt bd er oe ot wt ct ne (max a b)) (max a b) 20 (min a b)).length ≤ 20) (fun u => [cg_G g tA oA uA wA sA np ne bd er vr, cg_N oA cI 60 oe, cg_N uA cI 60 ot, cg_N wA cI 60 wt, cg_W wy g cA rA mv ((ng_path (ng_nxt bd er oe ot wt ct ne (max a b)) (max a b) 20 (min a b)).length), cg_L cA cL 400 ct, cg_N rA cI 20 u])) ([.ref wy, .int (nI a), .int (nI b)] : List Value).toArray s 0 0 A) (F0 m 18 ls []) := by
    intro n
    induction n with
    | zero => intro h n0 tr1 hn0 hh hd hln ht hme; exact absurd hme (Nat.not_lt_zero _)
    | succ n ih =>
      intro h n0 tr1 hn0 hh hd hln ht hme H locs hP hD hS ls hl
      have ih_18 := ih
      refine lv_iload_n hx hb d_W_trace_18 rfl (lv_at hl 3 rfl) ?_
      refine lv_iload hx hb d_W_trace_19 (lv_at hl 4 rfl) ?_
      refine nr_icmp_eq (by omega) (by omega) (tgt := 84) hx hb d_W_trace_21 (by decide) (fun c_21 => ?_) (fun c_21 => ?_)
      · subst c_21
        have e9 := ng_dropl (hd.trans ng_path_z) hln
        rw [e9]
        exact rw_vret tr1 hx hb hr hlocks hS hP (⟨fun i hi => ht i hi, hn0⟩) d_W_trace_84
      · refine lv_aload_n hx hb d_W_trace_24 rfl (lv_at hl 0 rfl) ?_
        refine va_get (D := (dC, dI)) (ci := 1) (v := .int (nI n0)) (C := R_W) (T := F_W) (N := 5) hx hb hts iW hown hK hP 4 rfl rfl 4 (by decide) (hts _ (List.mem_cons_of_mem _ wk_W_23)) (fun _ h9 => h9) rfl d_W_trace_25 ?_
        refine lv_bipush (v := nI 20) hx hb d_W_trace_28 (by decide) ?_
        refine nr_icmp_ge (by omega) (by omega) (tgt := 84) hx hb d_W_trace_30 (by decide) (fun c_30 => ?_) (fun c_30 => ?_)
        · have e9 := ng_dropl (hd.trans (ng_path_0 (by omega))) hln
          rw [e9]
          exact rw_vret tr1 hx hb hr hlocks hS hP (⟨fun i hi => ht i hi, hn0⟩) d_W_trace_84
        · refine lv_aload_n hx hb d_W_trace_33 rfl (lv_at hl 0 rfl) ?_
          refine lv_iload_n hx hb d_W_trace_34 rfl (lv_at hl 3 rfl) ?_
          refine lv_iload hx hb d_W_trace_35 (lv_at hl 4 rfl) ?_
          refine ro_Vi (As := [.int (nI h), .int (nI (max a b))]) (rest := []) ⟨hx, hb, hml, hown, hts⟩ (c_W_firstEdgeTowards l dC dI cI cL g tA oA uA wA sA np ne bd er vr wy cA rA mv n0 oe ot wt ct h (max a b) (by omega) (by omega) (by omega) (by omega) (by omega) (by omega)) (cwV 2 hts (wg_V wk_W_82 wm_W_firstEdgeTowards we_W_firstEdgeTowards wi_W wc_W_firstEdgeTowards) rfl rfl rfl (by decide +kernel) ⟨Nat.le_of_ble_eq_true rfl, Nat.le_of_ble_eq_true rfl⟩) hK (hP.sub [0, 1, 2, 3, 4, 5] rfl) (q0 := 4) rfl rfl rfl rfl hl.1 rfl (lv_room (Nat.le_of_ble_eq_true rfl)) d_W_trace_37 ⟨Nat.zero_le _, Nat.zero_le _⟩ hS hP (fun H locs hP hS => ?_)
          rcases hfe : ng_fst (ng_ok bd er oe ot wt ct h (max a b)) ne 0 with _ | k
          · refine nr_as (v := -1) rfl ?_
            have hnn : (ng_nxt bd er oe ot wt ct ne (max a b)) h = none := by simp [ng_nxt, hfe]
            have e9 := ng_dropl (hd.trans (ng_path_n hnn)) hln
            refine lv_istore (lv' := [(5, .int (-1)), (0, .ref wy), (1, .int (nI a)), (2, .int (nI b)), (3, .int (nI h)), (4, .int (nI (max a b)))]) hx hb d_W_trace_40 hl (by decide) rfl (fun ls hl => ?_)
            refine lv_iload hx hb d_W_trace_42 (lv_at hl 0 rfl) ?_
            refine lv_iconst (v := -1) hx hb d_W_trace_44 (by decide) ?_
            refine lv_icmp_ne (tgt := 49) hx hb d_W_trace_45 (by decide) (fun c => absurd rfl c) (fun c_45 => ?_)
            rw [e9]
            exact rw_vret tr1 hx hb hr hlocks hS hP (⟨fun i hi => ht i hi, hn0⟩) d_W_trace_48
          · refine nr_as (v := nI k) rfl ?_
            obtain ⟨hok, hk2, -⟩ := ng_fst_ok hfe
            have hkn : k < ne := by omega
            obtain ⟨y, hnx, -, -⟩ := ng_ok_some hok
            have hy := ng_nx_lt hnx (hE k hkn).1 (hE k hkn).2
            have hEk := hE k hkn
            have hnn : (ng_nxt bd er oe ot wt ct ne (max a b)) h = some (k, y) := by simp [ng_nxt, hfe, hnx]
            obtain ⟨hd1, hd2, hln2⟩ := ng_dropc (hd.trans (ng_path_s c_21 c_30 hnn))
            have ht2 := ng_trs hd1 ht
            refine lv_istore (lv' := [(5, .int (nI k)), (0, .ref wy), (1, .int (nI a)), (2, .int (nI b)), (3, .int (nI h)), (4, .int (nI (max a b)))]) hx hb d_W_trace_40 hl (by decide) rfl (fun ls hl => ?_)
            refine lv_iload hx hb d_W_trace_42 (lv_at hl 0 rfl) ?_
            refine lv_iconst (v := -1) hx hb d_W_trace_44 (by decide) ?_
            refine lv_icmp_ne (tgt := 49) hx hb d_W_trace_45 (by decide) (fun c_45 => ?_) (fun c => absurd c (ng_nm1 (by omega)))
            refine lv_aload_n hx hb d_W_trace_49 rfl (lv_at hl 1 rfl) ?_
            refine va_get (D := (dC, dI)) (ci := 1) (v := .ref rA) (C := R_W) (T := F_W) (N := 5) hx hb hts iW hown hK hP 4 rfl rfl 2 (by decide) (hts _ (List.mem_cons_of_mem _ wk_W_15)) (fun _ h9 => h9) rfl d_W_trace_50 ?_
            refine lv_aload_n hx hb d_W_trace_53 rfl (lv_at hl 1 rfl) ?_
            refine va_get (D := (dC, dI)) (ci := 1) (v := .int (nI n0)) (C := R_W) (T := F_W) (N := 5) hx hb hts iW hown hK hP 4 rfl rfl 4 (by decide) (hts _ (List.mem_cons_of_mem _ wk_W_23)) (fun _ h9 => h9) rfl d_W_trace_54 ?_
            refine lv_iload hx hb d_W_trace_57 (lv_at hl 0 rfl) ?_
            refine nr_iast hx hb hK hP hD hS 6 0 rfl rfl (by omega) (by decide) d_W_trace_59 (fun H locs hP hD hS => ?_)
            have hP : va_P (dC, dI) classes [cg_G g tA oA uA wA sA np ne bd er vr, cg_N oA cI 60 oe, cg_N uA cI 60 ot, cg_N wA cI 60 wt, cg_W wy g cA rA mv n0, cg_L cA cL 400 ct, cg_N rA cI 20 (va_up tr1 n0 k)] H := hP
            have hD : va_D A [cg_G g tA oA uA wA sA np ne bd er vr, cg_N oA cI 60 oe, cg_N uA cI 60 ot, cg_N wA cI 60 wt, cg_W wy g cA rA mv n0, cg_L cA cL 400 ct, cg_N rA cI 20 (va_up tr1 n0 k)] := hD
            refine lv_aload_n hx hb d_W_trace_60 rfl (lv_at hl 1 rfl) ?_
            refine lv_dup hx hb d_W_trace_61 rfl ?_
            refine va_get (D := (dC, dI)) (ci := 1) (v := .int (nI n0)) (C := R_W) (T := F_W) (N := 5) hx hb hts iW hown hK hP 4 rfl rfl 4 (by decide) (hts _ (List.mem_cons_of_mem _ wk_W_23)) (fun _ h9 => h9) rfl d_W_trace_62 ?_
            refine lv_iconst (v := nI 1) hx hb d_W_trace_65 (by decide) ?_
            refine nr_iadd hx hb d_W_trace_66 ?_
            refine va_put (D := (dC, dI)) (ci := 1) (v := .int (nI (n0 + 1))) (ty := .int) (C := R_W) (T := F_W) (N := 5) hx hb hts iW t_W t_W_ok n_W hown hK hP hD hS 4 rfl rfl 4 (by decide) (hts _ (List.mem_cons_of_mem _ wk_W_23)) (fun _ h9 => h9) rfl (by decide +kernel) rfl rfl (Nat.le_of_ble_eq_true rfl) d_W_trace_67 (fun H locs hP hD hS => ?_)
            have hP : va_P (dC, dI) classes [cg_G g tA oA uA wA sA np ne bd er vr, cg_N oA cI 60 oe, cg_N uA cI 60 ot, cg_N wA cI 60 wt, cg_W wy g cA rA mv (n0 + 1), cg_L cA cL 400 ct, cg_N rA cI 20 (va_up tr1 n0 k)] H := hP
            have hD : va_D A [cg_G g tA oA uA wA sA np ne bd er vr, cg_N oA cI 60 oe, cg_N uA cI 60 ot, cg_N wA cI 60 wt, cg_W wy g cA rA mv (n0 + 1), cg_L cA cL 400 ct, cg_N rA cI 20 (va_up tr1 n0 k)] := hD
            refine lv_aload_n hx hb d_W_trace_70 rfl (lv_at hl 1 rfl) ?_
            refine va_get (D := (dC, dI)) (ci := 1) (v := .ref g) (C := R_W) (T := F_W) (N := 5) hx hb hts iW hown hK hP 4 rfl rfl 0 (by decide) (hts _ (List.mem_cons_of_mem _ wk_W_26)) (fun _ h9 => h9) rfl d_W_trace_71 ?_
            refine lv_iload hx hb d_W_trace_74 (lv_at hl 0 rfl) ?_
            refine lv_iload_n hx hb d_W_trace_76 rfl (lv_at hl 4 rfl) ?_
            refine ro_Vi (As := [.int (nI k), .int (nI h)]) (rest := []) ⟨hx, hb, hml, hown, hts⟩ (c_G_endBeyond l dC dI cI cL g tA oA uA wA sA np ne bd er vr oe ot k h (by omega) (by omega) (by omega) (by omega)) (cwV 2 hts (wg_V wk_W_85 wm_G_endBeyond we_G_endBeyond wi_G wc_G_endBeyond) rfl rfl rfl (by decide +kernel) ⟨Nat.le_of_ble_eq_true rfl, Nat.le_of_ble_eq_true rfl⟩) hK (hP.sub [0, 1, 2] rfl) (q0 := 0) rfl rfl rfl rfl hl.1 rfl (lv_room (Nat.le_of_ble_eq_true rfl)) d_W_trace_77 ⟨Nat.zero_le _, Nat.zero_le _⟩ hS hP (fun H locs hP hS => ?_)
            rw [hnx]
            refine nr_as (v := nI y) rfl ?_
            refine lv_istore_n (lv' := [(3, .int (nI y)), (5, .int (nI k)), (0, .ref wy), (1, .int (nI a)), (2, .int (nI b)), (4, .int (nI (max a b)))]) hx hb d_W_trace_80 rfl hl (by decide) rfl (fun ls hl => ?_)
            refine lv_goto (tgt := 18) hx hb d_W_trace_81 (by decide) ?_
            exact ih_18 y (n0 + 1) (va_up tr1 n0 k) (by omega) hy hd2 hln2 ht2 (by omega) _ _ hP hD hS ls (lv_sub hl [2, 3, 4, 0, 5] rfl)
  exact lp_18 (20 - 0 + 1) (min a b) 0 tr (Nat.zero_le _) hmi rfl (Nat.zero_le _) (fun i h => absurd h (Nat.not_lt_zero _)) (Nat.lt_succ_self _) _ _ hP hD hS ls (lv_sub hl [2, 3, 4, 1, 0] rfl)
end
section
/-! the matcher's words -/
abbrev cg_O (a : Nat) (cI : ClassId) (n : Nat) (f : Nat → Option Nat) : Nat × va_E := (a, .inl (cI, n, .inl (fun k => ng_oi (f k))))
theorem ng_m1l : (-1 : Int32) < 0 := by decide
def ng_F1 : Nat := 1000000000
theorem ng_natI (x : Int32) : x = nI x.toBitVec.toNat := by
  apply Int32.toBitVec_inj.1
  show x.toBitVec = BitVec.ofNat 32 x.toBitVec.toNat
  simp
def ng_wo (g a b : Nat) : Nat := (nI g &&& ((nb_o a ||| nb_o b) ^^^ (-1))).toBitVec.toNat
theorem ng_wo_eq (g a b : Nat) : nI g &&& ((nb_o a ||| nb_o b) ^^^ (-1)) = nI (ng_wo g a b) := ng_natI _
theorem ng_tb {g k : Nat} (hg : g < 2 ^ 32) : nb_t (nI g) k = g.testBit k := by
  unfold nb_t
  show (BitVec.ofNat 32 g).getLsbD k = _
  rw [BitVec.getLsbD_ofNat]
  by_cases h : k < 32
  · simp [h]
  · rw [decide_eq_false h, Bool.false_and, Nat.testBit_lt_two_pow (Nat.lt_of_lt_of_le hg (Nat.pow_le_pow_right (by decide) (Nat.not_lt.mp h)))]
theorem ng_wo_tb {g a b k : Nat} (hg : g < 2 ^ 31) (ha : a < 32) (hb : b < 32) : (ng_wo g a b).testBit k = (g.testBit k && !decide (k = a) && !decide (k = b)) := by
  have e : (ng_wo g a b).testBit k = nb_t (nI g &&& ((nb_o a ||| nb_o b) ^^^ (-1))) k := by
    unfold ng_wo nb_t
    rw [BitVec.getLsbD]
  rw [e, nb_bt_and, nb_bt_xor, nb_bt_or, nb_bt_b1 ha, nb_bt_b1 hb, ng_tb (by omega)]
  rcases Nat.lt_or_ge k 32 with h | h
  · rw [nb_bt_m1 k h]
    cases g.testBit k <;> cases decide (k = a) <;> cases decide (k = b) <;> rfl
  · have : g.testBit k = false := Nat.testBit_lt_two_pow (Nat.lt_of_lt_of_le hg (Nat.pow_le_pow_right (by decide) (by omega)))
    rw [this]; simp
theorem ng_wo_le {g a b : Nat} (hg : g < 2 ^ 31) : ng_wo g a b ≤ g := by
  unfold ng_wo
  rw [Int32.toBitVec_and, BitVec.toNat_and]
  have h1 : (nI g).toBitVec.toNat = g := pk_tn (by omega)
  rw [h1]
  exact Nat.and_le_left
theorem ng_whole {rl : Nat} (h : rl ≤ 10) : nb_o rl - nI 1 = nI (2 ^ rl - 1) := (by decide +kernel : ∀ rl, rl ≤ 10 → nb_o rl - nI 1 = nI (2 ^ rl - 1)) rl h
def ng_ww (pw lw : Nat → Nat) (g pl pa : Nat) : Nat := if pw (pl * 10 + pa) = ng_F1 ∨ lw (ng_wo g pl pa) = ng_F1 then ng_F1 else pw (pl * 10 + pa) + lw (ng_wo g pl pa)
def ng_lp (rl g : Nat) : Nat := (ng_fst (fun p => nb_t (nI g) p) (rl - 1) 0).getD (rl - 1)
def ng_wi1 (lw : Nat → Nat) (g w : Nat) : Nat → Nat := if w < lw g then va_up lw g w else lw
def ng_wi2 (lw lc : Nat → Nat) (g w k : Nat) : Nat → Nat := if w < lw g then va_up lc g k else if w = lw g ∧ w ≠ ng_F1 then va_up lc g (lc g + k) else lc
def ng_fp (rl : Nat) (pw lw : Nat → Nat) (g pl : Nat) : Nat := (ng_fst (fun p => nb_t (nI g) p && decide (ng_ww pw lw g pl p = lw g)) (rl - (pl + 1)) (pl + 1)).getD pl
def ng_pt (row : Nat → Nat) (nr : Nat → Option Nat) (pl pa : Nat) : Option Nat := if pa = pl then nr pl else some (row pa)
def ng_nb (bd : Int32) (ct : Nat → Nat) (p : Nat) : Nat → Option Nat
  | 0 => none
  | n + 1 => if nb_t bd n = true ∧ ct (p * 20 + n) ≠ dm_FAR ∧ (∀ y, ng_nb bd ct p n = some y → ct (p * 20 + n) / 64 < ct (p * 20 + y) / 64) then some n else ng_nb bd ct p n
theorem ng_nb_lt {bd : Int32} {ct : Nat → Nat} {p : Nat} : ∀ {n y : Nat}, ng_nb bd ct p n = some y → y < n := by
  intro n
  induction n with
  | zero => intro y h; simp [ng_nb] at h
  | succ n ih =>
    intro y h
    unfold ng_nb at h
    split at h
    · cases h; omega
    · have := ih h; omega
theorem ng_nb_t {bd : Int32} {ct : Nat → Nat} {p n : Nat} (h1 : nb_t bd n = true) (h2 : ct (p * 20 + n) ≠ dm_FAR) (h3 : ∀ y, ng_nb bd ct p n = some y → ct (p * 20 + n) / 64 < ct (p * 20 + y) / 64) : ng_nb bd ct p (n + 1) = some n := by
  rw [ng_nb, if_pos ⟨h1, h2, h3⟩]
theorem ng_nb_f {bd : Int32} {ct : Nat → Nat} {p n : Nat} (h : ¬ (nb_t bd n = true ∧ ct (p * 20 + n) ≠ dm_FAR ∧ (∀ y, ng_nb bd ct p n = some y → ct (p * 20 + n) / 64 < ct (p * 20 + y) / 64))) : ng_nb bd ct p (n + 1) = ng_nb bd ct p n := by
  rw [ng_nb, if_neg h]
def ng_rw (fi : Int32) : Nat → List Nat
  | 0 => []
  | n + 1 => if nb_t fi n = true then ng_rw fi n ++ [n] else ng_rw fi n
theorem ng_rw_mono {fi : Int32} {i : Nat} : ∀ {n : Nat}, i ≤ n → (ng_rw fi i).length ≤ (ng_rw fi n).length := by
  intro n
  induction n with
  | zero => intro h; rw [Nat.le_zero.mp h]; exact Nat.le_refl _
  | succ n ih =>
    intro h
    by_cases q : i = n + 1
    · rw [q]; exact Nat.le_refl _
    · have h1 := ih (by omega)
      have h2 : (ng_rw fi n).length ≤ (ng_rw fi (n + 1)).length := by
        rw [ng_rw]
        split
        · simp
        · exact Nat.le_refl _
      omega
theorem ng_rw_same {fi : Int32} {i : Nat} : ∀ {n : Nat}, i ≤ n → (ng_rw fi n).length ≤ (ng_rw fi i).length → ng_rw fi n = ng_rw fi i := by
  intro n
  induction n with
  | zero => intro h _; rw [Nat.le_zero.mp h]
  | succ n ih =>
    intro h hl
    by_cases q : i = n + 1
    · rw [q]
    · have h1 := ng_rw_mono (fi := fi) (show i ≤ n by omega)
      rw [ng_rw] at hl ⊢
      split at hl
      · rw [List.length_append] at hl
        simp at hl
        omega
      · rename_i hb
        rw [if_neg hb]
        exact ih (by omega) hl
theorem ng_rw_t {fi : Int32} {n : Nat} (h : nb_t fi n = true) : ng_rw fi (n + 1) = ng_rw fi n ++ [n] := by rw [ng_rw, if_pos h]
theorem ng_rw_f {fi : Int32} {n : Nat} (h : nb_t fi n = false) : ng_rw fi (n + 1) = ng_rw fi n := by rw [ng_rw, if_neg (by rw [h]; decide)]
theorem ng_rw_lt {fi : Int32} : ∀ {n x : Nat}, x ∈ ng_rw fi n → x < n ∧ nb_t fi x = true := by
  intro n
  induction n with
  | zero => intro x h; cases h
  | succ n ih =>
    intro x h
    rw [ng_rw] at h
    split at h
    · rename_i hb
      rcases List.mem_append.mp h with q | q
      · have := ih q; exact ⟨by omega, this.2⟩
      · rw [List.mem_singleton] at q; subst q; exact ⟨by omega, hb⟩
    · have := ih h; exact ⟨by omega, this.2⟩
def ng_pv (ct row : Nat → Nat) (nr : Nat → Option Nat) (a b : Nat) : Nat := match ng_pt row nr a b with
  | none => ng_F1
  | some y => if ct (row a * 20 + y) = dm_FAR then ng_F1 else ct (row a * 20 + y) / 64
def ng_wq (q : Nat × Nat) (w k : Nat) : Nat × Nat := if w < q.1 then (w, k) else if w = q.1 ∧ w ≠ ng_F1 then (q.1, q.2 + k) else q
def ng_sg (pw lw lc : Nat → Nat) (g pl : Nat) : Nat → Nat × Nat
  | 0 => (ng_F1, 0)
  | n + 1 => if nb_t (nI g) (pl + n) = true then ng_wq (ng_sg pw lw lc g pl n) (ng_ww pw lw g pl (pl + n)) (lc (ng_wo g pl (pl + n))) else ng_sg pw lw lc g pl n
theorem ng_nb_ok {bd : Int32} {ct : Nat → Nat} {p : Nat} : ∀ {n y : Nat}, ng_nb bd ct p n = some y → nb_t bd y = true ∧ ct (p * 20 + y) ≠ dm_FAR := by
  intro n
  induction n with
  | zero => intro y h; simp [ng_nb] at h
  | succ n ih =>
    intro y h
    unfold ng_nb at h
    split at h
    · rename_i hq
      cases h
      exact ⟨hq.1, hq.2.1⟩
    · exact ih h
theorem ng_row1 {l l2 : List Nat} {n x : Nat} {f : Nat → Nat} (hn : n = l.length) (h2 : l2 = l ++ [x]) (h : ∀ j, j < n → l[j]? = some (f j)) : ∀ j, j < n + 1 → l2[j]? = some (va_up f n x j) := by
  intro j hj
  subst h2
  by_cases q : j = n
  · subst q
    rw [va_up_self, hn, List.getElem?_append_right (Nat.le_refl _)]
    simp
  · rw [va_up_ne _ _ q, List.getElem?_append_left (by omega)]
    exact h j (by omega)
theorem ng_row2 {n x : Nat} {f : Nat → Nat} {g : Nat → Option Nat} {F : Nat → Option Nat} {v : Option Nat} (hv : v = F x) (h : ∀ j, j < n → g j = F (f j)) : ∀ j, j < n + 1 → va_up g n v j = F (va_up f n x j) := by
  intro j hj
  by_cases q : j = n
  · subst q
    rw [va_up_self, va_up_self]; exact hv
  · rw [va_up_ne _ _ q, va_up_ne _ _ q]
    exact h j (by omega)
theorem ng_pws {rl i j v : Nat} {ct row pw1 : Nat → Nat} {nr : Nat → Option Nat} (hrl : rl ≤ 10) (hi : i < rl) (hj : j < rl) (hij : i ≤ j) (hv : v = ng_pv ct row nr i j) (h : ∀ a b, a ≤ b → b < rl → (a < i ∨ (a = i ∧ b < j)) → pw1 (a * 10 + b) = ng_pv ct row nr a b) : ∀ a b, a ≤ b → b < rl → (a < i ∨ (a = i ∧ b < j + 1)) → va_up pw1 (i * 10 + j) v (a * 10 + b) = ng_pv ct row nr a b := by
  intro a b h1 h2 h3
  by_cases q : a * 10 + b = i * 10 + j
  · have q1 : a = i := by omega
    have q2 : b = j := by omega
    subst q1 q2
    rw [va_up_self]; exact hv
  · rw [va_up_ne _ _ q]
    refine h a b h1 h2 ?_
    by_cases z : a = i
    · have : b ≠ j := fun z2 => q (by rw [z, z2])
      omega
    · omega
theorem ng_pwf {f : Nat → Nat} {k v : Nat} (h : ∀ i, i < 100 → f i ≤ ng_F1) (hv : v ≤ ng_F1) : ∀ i, i < 100 → va_up f k v i ≤ ng_F1 := by
  intro i hi
  by_cases q : i = k
  · subst q; rw [va_up_self]; exact hv
  · rw [va_up_ne _ _ q]; exact h i hi
theorem ng_up1 {f : Nat → Nat} {k v : Nat} (h : ∀ i, i < 1024 → f i ≤ ng_F1) (hv : v ≤ ng_F1) : ∀ i, i < 1024 → va_up f k v i ≤ ng_F1 := by
  intro i hi
  by_cases q : i = k
  · subst q; rw [va_up_self]; exact hv
  · rw [va_up_ne _ _ q]; exact h i hi
theorem ng_pt_lt {row : Nat → Nat} {nr : Nat → Option Nat} {i j y np rl : Nat} (h : ng_pt row nr i j = some y) (hrow : ∀ j, j < rl → row j < np) (hnr : ∀ z, nr i = some z → z < np) (hj : j < rl) : y < np := by
  unfold ng_pt at h
  split at h
  · exact hnr y h
  · cases h; exact hrow j hj
theorem ng_wo_ne {g a b : Nat} (hg : g < 2 ^ 31) (ha : a < 32) (hb : b < 32) (h : g.testBit a = true) : ng_wo g a b ≠ g := by
  intro q
  have e := ng_wo_tb (g := g) (a := a) (b := b) (k := a) hg ha hb
  rw [q, h] at e
  simp at e
theorem ng_ww_up {pw lw : Nat → Nat} {g pl pa v : Nat} (h : ng_wo g pl pa ≠ g) : ng_ww pw (va_up lw g v) g pl pa = ng_ww pw lw g pl pa := by
  unfold ng_ww
  rw [va_up_ne _ _ h]
theorem ng_ww_le {pw lw : Nat → Nat} {g pl pa : Nat} (hpw : ∀ i, i < 100 → pw i ≤ ng_F1) (hlw : ∀ i, i < 1024 → lw i ≤ ng_F1) (hg : g < 1024) (h1 : pl < 10) (h2 : pa < 10) : ng_ww pw lw g pl pa < 2 ^ 31 := by
  have e1 := hpw (pl * 10 + pa) (by omega)
  have e2 := hlw (ng_wo g pl pa) (Nat.lt_of_le_of_lt (ng_wo_le (by omega)) hg)
  have hF1 : ng_F1 = 1000000000 := rfl
  unfold ng_ww
  split <;> omega
theorem ng_ww_b {pw lw : Nat → Nat} {g pl pa : Nat} (hpw : ∀ i, i < 100 → pw i ≤ ng_F1) (hlw : ∀ i, i < 1024 → lw i ≤ ng_F1) (hg : g < 1024) (h1 : pl < 10) (h2 : pa < 10) : ng_ww pw lw g pl pa < 2 ^ 31 := ng_ww_le hpw hlw hg h1 h2
theorem ng_wq_le {q : Nat × Nat} {w k : Nat} (h : q.1 ≤ ng_F1) : (ng_wq q w k).1 ≤ ng_F1 := by
  unfold ng_wq
  split
  · show w ≤ ng_F1; omega
  · split
    · exact h
    · exact h
theorem ng_sg_b {pw lw lc : Nat → Nat} {g pl n : Nat} (hpw : ∀ i, i < 100 → pw i ≤ ng_F1) (hlw : ∀ i, i < 1024 → lw i ≤ ng_F1) (hg : g < 1024) (h1 : pl < 10) (h2 : pl + n ≤ 10) : (ng_sg pw lw lc g pl n).1 ≤ ng_F1 := by
  induction n with
  | zero => exact Nat.le_refl _
  | succ n ih =>
    unfold ng_sg
    split
    · exact ng_wq_le (ih (by omega))
    · exact ih (by omega)
theorem ng_sg_f {pw lw lc : Nat → Nat} {g pl i : Nat} (h : pl ≤ i) (hb : nb_t (nI g) i = false) : ng_sg pw lw lc g pl (i + 1 - pl) = ng_sg pw lw lc g pl (i - pl) := by
  rw [show i + 1 - pl = (i - pl) + 1 by omega, ng_sg, if_neg (by rw [show pl + (i - pl) = i by omega, hb]; decide)]
theorem ng_sg_t {pw lw lc : Nat → Nat} {g pl i : Nat} (h : pl ≤ i) (hb : nb_t (nI g) i = true) : ng_sg pw lw lc g pl (i + 1 - pl) = ng_wq (ng_sg pw lw lc g pl (i - pl)) (ng_ww pw lw g pl i) (lc (ng_wo g pl i)) := by
  rw [show i + 1 - pl = (i - pl) + 1 by omega, ng_sg, show pl + (i - pl) = i by omega, if_pos hb]
theorem ng_sg_1 {pw lw lc : Nat → Nat} {g pl i : Nat} (h : pl ≤ i) (hb : nb_t (nI g) i = true) : ng_wi1 (va_up lw g (ng_sg pw lw lc g pl (i - pl)).1) g (ng_ww pw lw g pl i) = va_up lw g (ng_sg pw lw lc g pl (i + 1 - pl)).1 := by
  rw [ng_sg_t h hb]
  unfold ng_wi1 ng_wq
  rw [va_up_self]
  split
  · rw [bx_uu]
  · split <;> rfl
theorem ng_sg_2 {pw lw lc : Nat → Nat} {g pl i : Nat} (h : pl ≤ i) (hb : nb_t (nI g) i = true) : ng_wi2 (va_up lw g (ng_sg pw lw lc g pl (i - pl)).1) (va_up lc g (ng_sg pw lw lc g pl (i - pl)).2) g (ng_ww pw lw g pl i) (lc (ng_wo g pl i)) = va_up lc g (ng_sg pw lw lc g pl (i + 1 - pl)).2 := by
  rw [ng_sg_t h hb]
  unfold ng_wi2 ng_wq
  rw [va_up_self, va_up_self]
  split
  · rw [bx_uu]
  · split
    · rw [bx_uu]
    · rfl
/-! arrays of options (-1 for none) and of booleans -/
section OR
variable {p : Program} {l : Launch} {e : Env} {R : Room} {s : State} {m : MethodId} {args : Array Value} {below : List Frame} {meth : Method} {c : Code} {H : Heap} {locs : List Loc} {cells slots : Nat} {Q : State → Prop} {cc : ByteArray} {pc : Nat} {ls : Array Slot} {rest : List Value}
variable {D : va_G} {cl : List vw_C} {A : Nat → Prop} {a : Nat} {tys : List (ClassId × FieldType)} {ws : va_W} {H0 : Heap}
theorem nr_oald (hx : p.tables.exec = Jvm.exec) (hb : c.code = cc) (hK : va_K D cl tys s) (hP : va_P D cl ws H) (q0 t0 : Nat) {cA : ClassId} {n : Nat} {f : Nat → Option Nat} (ha : ws[q0]? = some (a, .inl (cA, n, .inl (fun k => ng_oi (f k))))) (ht : tys[t0]? = some (cA, .int)) {i : Nat} (hi : i < n) (hn : n < 2 ^ 31) (hd : decode cc pc = .ok (.iaload, 1)) (k : W p l e R s m args below meth c H locs cells slots Q (F0 m (pc + 1) ls (.int (ng_oi (f i)) :: rest))) : W p l e R s m args below meth c H locs cells slots Q (F0 m pc ls (.int (nI i) :: .ref a :: rest)) := va_iald hx hb hK hP q0 t0 ha ht (vp_in_nI hi hn) hd (by rw [nI_clamp (Nat.lt_trans hi hn)]; exact k)
theorem nr_oup (f : Nat → Option Nat) (i : Nat) (x : Option Nat) : upd (fun k => ng_oi (f k)) i (ng_oi x) = fun k => ng_oi (va_up f i x k) := by funext j; unfold upd va_up; by_cases h : j = i <;> simp [h]
theorem nr_oast {x : Option Nat} (hx : p.tables.exec = Jvm.exec) (hb : c.code = cc) (hK : va_K D cl tys s) (hP : va_P D cl ws H) (hD : va_D A ws) (hS : va_S A H0 H locs) (q0 t0 : Nat) {cA : ClassId} {n : Nat} {f : Nat → Option Nat} (ha : ws[q0]? = some (a, .inl (cA, n, .inl (fun k => ng_oi (f k))))) (ht : tys[t0]? = some (cA, .int)) {i : Nat} (hi : i < n) (hn : n < 2 ^ 31) (hd : decode cc pc = .ok (.iastore, 1)) (kk : ∀ (H1 : Heap) (locs1 : List Loc), va_P D cl (ws.set q0 (a, .inl (cA, n, .inl (fun k => ng_oi (va_up f i x k))))) H1 → va_D A (ws.set q0 (a, .inl (cA, n, .inl (fun k => ng_oi (va_up f i x k))))) → va_S A H0 H1 locs1 → W p l e R s m args below meth c H1 locs1 cells slots Q (F0 m (pc + 1) ls rest)) : W p l e R s m args below meth c H locs cells slots Q (F0 m pc ls (.int (ng_oi x) :: .int (nI i) :: .ref a :: rest)) := va_iast hx hb hK hP hD hS q0 t0 ha ht (vp_in_nI hi hn) hd (fun H1 locs1 h1 h2 h3 => by rw [nI_clamp (Nat.lt_trans hi hn), nr_oup] at h1 h2; exact kk H1 locs1 h1 h2 h3)
theorem nr_zald (hx : p.tables.exec = Jvm.exec) (hb : c.code = cc) (hK : va_K D cl tys s) (hP : va_P D cl ws H) (q0 t0 : Nat) {cA : ClassId} {n : Nat} {f : Nat → Bool} (ha : ws[q0]? = some (a, .inl (cA, n, .inl (fun k => nb_i (f k))))) (ht : tys[t0]? = some (cA, .boolean)) {i : Nat} (hi : i < n) (hn : n < 2 ^ 31) (hd : decode cc pc = .ok (.baload, 1)) (k : W p l e R s m args below meth c H locs cells slots Q (F0 m (pc + 1) ls (.int (nb_i (f i)) :: rest))) : W p l e R s m args below meth c H locs cells slots Q (F0 m pc ls (.int (nI i) :: .ref a :: rest)) := va_zald hx hb hK hP q0 t0 ha ht (vp_in_nI hi hn) hd (by rw [nI_clamp (Nat.lt_trans hi hn)]; exact k)
theorem nr_zup (f : Nat → Bool) (i : Nat) (x : Bool) : upd (fun k => nb_i (f k)) i (nb_i x) = fun k => nb_i (va_up f i x k) := by funext j; unfold upd va_up; by_cases h : j = i <;> simp [h]
end OR
end
section
set_option maxHeartbeats 4000000 in
set_option maxRecDepth 100000 in
theorem c_F_begin (l : Launch) (dC : Nat → ClassId) (dI : Nat → Nat → Nat) (cI cL : ClassId) (fo lA hA sz wt lc : Nat) (od : Int64) (w k : Nat)  : Met l y_F_begin w_F_begin ({ frames := 0, cells := 0, slots := 0, locals := 0 } : Room) (va_Pc [.ref fo, .int (nI w), .int (nI k)] (rw_B (dC, dI) classes [(cI, .int), (cL, .long)] [cg_F fo lA hA sz wt lc od])) (rw_Qv (dC, dI) classes (rw_A [cg_F fo lA hA sz wt lc od]) (fun (u : Unit) => True) (fun u => [cg_F fo lA hA 0 w k (lN 0)])) 0 0 (rw_A [cg_F fo lA hA sz wt lc od]) := by
  refine Met.ofW (cc := b_F_begin) (maxL := 3) (ret := none) (by decide) rfl ?_
  intro p e s m args below meth c s₁ B hml hv
  obtain ⟨rfl, hP, hK, hD0⟩ := hv
  have hx := B.exec
  have hb := B.bytes
  have hr := B.returns
  have hts := atoms_spec (ws := w_F_begin) B.pre
  have hown : s.vm.findClass R_F = some m.cls := findClass_of_methodNamed B.named
  have hlocks := B.notSynchronized
  have iF : ∀ w ∈ w_F, w ∈ w_F_begin := fun w h => List.mem_cons_of_mem _ (i_F w h)
  have hD := rw_own hD0
  generalize hAe : rw_A [cg_F fo lA hA sz wt lc od] = A at hD ⊢
  have hS : va_S A s.heap s.heap [] := va_S.rf
  have hP : va_P (dC, dI) classes [cg_F fo lA hA sz wt lc od] s.heap := hP
  have hl := lv_entry ([.ref fo, .int (nI w), .int (nI k)]) (n := 3) (Nat.le_of_ble_eq_true rfl)
  rw [lg_entry_eq]
  generalize (lg_sl ([.ref fo, .int (nI w), .int (nI k)]) ++ List.replicate (3 - (lg_sl ([.ref fo, .int (nI w), .int (nI k)])).length) Slot.unset).toArray = ls at hl ⊢
  have hl : lv_has ls 3 [(0, .ref fo), (1, .int (nI w)), (2, .int (nI k))] := hl
  refine lv_aload_n hx hb d_F_begin_0 rfl (lv_at hl 0 rfl) ?_
  refine lv_iconst (v := nI 0) hx hb d_F_begin_1 (by decide) ?_
  refine va_put (D := (dC, dI)) (ci := 2) (v := .int (nI 0)) (ty := .int) (C := R_F) (T := F_F) (N := 6) hx hb hts iF t_F t_F_ok n_F hown hK hP hD hS 0 rfl rfl 2 (by decide) (hts _ (List.mem_cons_of_mem _ wk_F_18)) (fun _ h9 => h9) rfl (by decide +kernel) rfl rfl (Nat.le_of_ble_eq_true rfl) d_F_begin_2 (fun H locs hP hD hS => ?_)
  have hP : va_P (dC, dI) classes [cg_F fo lA hA 0 wt lc od] H := hP
  have hD : va_D A [cg_F fo lA hA 0 wt lc od] := hD
  refine lv_aload_n hx hb d_F_begin_5 rfl (lv_at hl 0 rfl) ?_
  refine lv_iload_n hx hb d_F_begin_6 rfl (lv_at hl 1 rfl) ?_
  refine va_put (D := (dC, dI)) (ci := 2) (v := .int (nI w)) (ty := .int) (C := R_F) (T := F_F) (N := 6) hx hb hts iF t_F t_F_ok n_F hown hK hP hD hS 0 rfl rfl 3 (by decide) (hts _ (List.mem_cons_of_mem _ wk_F_22)) (fun _ h9 => h9) rfl (by decide +kernel) rfl rfl (Nat.le_of_ble_eq_true rfl) d_F_begin_7 (fun H locs hP hD hS => ?_)
  have hP : va_P (dC, dI) classes [cg_F fo lA hA 0 w lc od] H := hP
  have hD : va_D A [cg_F fo lA hA 0 w lc od] := hD
  refine lv_aload_n hx hb d_F_begin_10 rfl (lv_at hl 0 rfl) ?_
  refine lv_iload_n hx hb d_F_begin_11 rfl (lv_at hl 2 rfl) ?_
  refine va_put (D := (dC, dI)) (ci := 2) (v := .int (nI k)) (ty := .int) (C := R_F) (T := F_F) (N := 6) hx hb hts iF t_F t_F_ok n_F hown hK hP hD hS 0 rfl rfl 4 (by decide) (hts _ (List.mem_cons_of_mem _ wk_F_25)) (fun _ h9 => h9) rfl (by decide +kernel) rfl rfl (Nat.le_of_ble_eq_true rfl) d_F_begin_12 (fun H locs hP hD hS => ?_)
  have hP : va_P (dC, dI) classes [cg_F fo lA hA 0 w k od] H := hP
  have hD : va_D A [cg_F fo lA hA 0 w k od] := hD
  refine lv_aload_n hx hb d_F_begin_15 rfl (lv_at hl 0 rfl) ?_
  refine lv_lconst (v := lN 0) hx hb d_F_begin_16 (by decide) ?_
  refine va_put (D := (dC, dI)) (ci := 2) (v := .long (lN 0)) (ty := .long) (C := R_F) (T := F_F) (N := 6) hx hb hts iF t_F t_F_ok n_F hown hK hP hD hS 0 rfl rfl 5 (by decide) (hts _ (List.mem_cons_of_mem _ wk_F_28)) (fun _ h9 => h9) rfl (by decide +kernel) rfl rfl (Nat.le_of_ble_eq_true rfl) d_F_begin_17 (fun H locs hP hD hS => ?_)
  have hP : va_P (dC, dI) classes [cg_F fo lA hA 0 w k (lN 0)] H := hP
  have hD : va_D A [cg_F fo lA hA 0 w k (lN 0)] := hD
  exact rw_vret () hx hb hr hlocks hS hP trivial d_F_begin_20
set_option maxHeartbeats 4000000 in
set_option maxRecDepth 100000 in
theorem c_F_addPair (l : Launch) (dC : Nat → ClassId) (dI : Nat → Nat → Nat) (cI cL : ClassId) (fo lA hA sz wt lc : Nat) (od : Int64) (le ho : Nat → Nat) (a b : Nat) (x : Int64) (hsz : sz < 10) : Met l y_F_addPair w_F_addPair ({ frames := 0, cells := 0, slots := 0, locals := 0 } : Room) (va_Pc [.ref fo, .int (nI a), .int (nI b), .long x] (rw_B (dC, dI) classes [(cI, .int), (cL, .long)] [cg_F fo lA hA sz wt lc od, cg_N lA cI 10 le, cg_N hA cI 10 ho])) (rw_Qv (dC, dI) classes (rw_A [cg_F fo lA hA sz wt lc od, cg_N lA cI 10 le, cg_N hA cI 10 ho]) (fun (u : Unit) => True) (fun u => [cg_F fo lA hA (sz + 1) wt lc (od ^^^ x), cg_N lA cI 10 (va_up le sz a), cg_N hA cI 10 (va_up ho sz b)])) 0 0 (rw_A [cg_F fo lA hA sz wt lc od, cg_N lA cI 10 le, cg_N hA cI 10 ho]) := by
  refine Met.ofW (cc := b_F_addPair) (maxL := 5) (ret := none) (by decide) rfl ?_
  intro p e s m args below meth c s₁ B hml hv
  obtain ⟨rfl, hP, hK, hD0⟩ := hv
  have hx := B.exec
  have hb := B.bytes
  have hr := B.returns
  have hts := atoms_spec (ws := w_F_addPair) B.pre
  have hown : s.vm.findClass R_F = some m.cls := findClass_of_methodNamed B.named
  have hlocks := B.notSynchronized
  have iF : ∀ w ∈ w_F, w ∈ w_F_addPair := fun w h => List.mem_cons_of_mem _ (i_F w h)
  have hD := rw_own hD0
  generalize hAe : rw_A [cg_F fo lA hA sz wt lc od, cg_N lA cI 10 le, cg_N hA cI 10 ho] = A at hD ⊢
  have hS : va_S A s.heap s.heap [] := va_S.rf
  have hP : va_P (dC, dI) classes [cg_F fo lA hA sz wt lc od, cg_N lA cI 10 le, cg_N hA cI 10 ho] s.heap := hP
  have hl := lv_entry ([.ref fo, .int (nI a), .int (nI b), .long x]) (n := 5) (Nat.le_of_ble_eq_true rfl)
  rw [lg_entry_eq]
  generalize (lg_sl ([.ref fo, .int (nI a), .int (nI b), .long x]) ++ List.replicate (5 - (lg_sl ([.ref fo, .int (nI a), .int (nI b), .long x])).length) Slot.unset).toArray = ls at hl ⊢
  have hl : lv_has ls 5 [(0, .ref fo), (1, .int (nI a)), (2, .int (nI b)), (3, .long x)] := hl
  refine lv_aload_n hx hb d_F_addPair_0 rfl (lv_at hl 0 rfl) ?_
  refine va_get (D := (dC, dI)) (ci := 2) (v := .int (nI sz)) (C := R_F) (T := F_F) (N := 6) hx hb hts iF hown hK hP 0 rfl rfl 2 (by decide) (hts _ (List.mem_cons_of_mem _ wk_F_18)) (fun _ h9 => h9) rfl d_F_addPair_1 ?_
  refine lv_bipush (v := nI 10) hx hb d_F_addPair_4 (by decide) ?_
  refine nr_icmp_lt (by omega) (by omega) (tgt := 10) hx hb d_F_addPair_6 (by decide) (fun c_6 => ?_) (fun c_6 => ?_)
  · refine lv_aload_n hx hb d_F_addPair_10 rfl (lv_at hl 0 rfl) ?_
    refine va_get (D := (dC, dI)) (ci := 2) (v := .ref lA) (C := R_F) (T := F_F) (N := 6) hx hb hts iF hown hK hP 0 rfl rfl 0 (by decide) (hts _ (List.mem_cons_of_mem _ wk_F_9)) (fun _ h9 => h9) rfl d_F_addPair_11 ?_
    refine lv_aload_n hx hb d_F_addPair_14 rfl (lv_at hl 0 rfl) ?_
    refine va_get (D := (dC, dI)) (ci := 2) (v := .int (nI sz)) (C := R_F) (T := F_F) (N := 6) hx hb hts iF hown hK hP 0 rfl rfl 2 (by decide) (hts _ (List.mem_cons_of_mem _ wk_F_18)) (fun _ h9 => h9) rfl d_F_addPair_15 ?_
    refine lv_iload_n hx hb d_F_addPair_18 rfl (lv_at hl 1 rfl) ?_
    refine nr_iast hx hb hK hP hD hS 1 0 rfl rfl (by omega) (by decide) d_F_addPair_19 (fun H locs hP hD hS => ?_)
    have hP : va_P (dC, dI) classes [cg_F fo lA hA sz wt lc od, cg_N lA cI 10 (va_up le sz a), cg_N hA cI 10 ho] H := hP
    have hD : va_D A [cg_F fo lA hA sz wt lc od, cg_N lA cI 10 (va_up le sz a), cg_N hA cI 10 ho] := hD
    refine lv_aload_n hx hb d_F_addPair_20 rfl (lv_at hl 0 rfl) ?_
    refine va_get (D := (dC, dI)) (ci := 2) (v := .ref hA) (C := R_F) (T := F_F) (N := 6) hx hb hts iF hown hK hP 0 rfl rfl 1 (by decide) (hts _ (List.mem_cons_of_mem _ wk_F_15)) (fun _ h9 => h9) rfl d_F_addPair_21 ?_
    refine lv_aload_n hx hb d_F_addPair_24 rfl (lv_at hl 0 rfl) ?_
    refine va_get (D := (dC, dI)) (ci := 2) (v := .int (nI sz)) (C := R_F) (T := F_F) (N := 6) hx hb hts iF hown hK hP 0 rfl rfl 2 (by decide) (hts _ (List.mem_cons_of_mem _ wk_F_18)) (fun _ h9 => h9) rfl d_F_addPair_25 ?_
    refine lv_iload_n hx hb d_F_addPair_28 rfl (lv_at hl 2 rfl) ?_
    refine nr_iast hx hb hK hP hD hS 2 0 rfl rfl (by omega) (by decide) d_F_addPair_29 (fun H locs hP hD hS => ?_)
    have hP : va_P (dC, dI) classes [cg_F fo lA hA sz wt lc od, cg_N lA cI 10 (va_up le sz a), cg_N hA cI 10 (va_up ho sz b)] H := hP
    have hD : va_D A [cg_F fo lA hA sz wt lc od, cg_N lA cI 10 (va_up le sz a), cg_N hA cI 10 (va_up ho sz b)] := hD
    refine lv_aload_n hx hb d_F_addPair_30 rfl (lv_at hl 0 rfl) ?_
    refine lv_dup hx hb d_F_addPair_31 rfl ?_
    refine va_get (D := (dC, dI)) (ci := 2) (v := .int (nI sz)) (C := R_F) (T := F_F) (N := 6) hx hb hts iF hown hK hP 0 rfl rfl 2 (by decide) (hts _ (List.mem_cons_of_mem _ wk_F_18)) (fun _ h9 => h9) rfl d_F_addPair_32 ?_
    refine lv_iconst (v := nI 1) hx hb d_F_addPair_35 (by decide) ?_
    refine nr_iadd hx hb d_F_addPair_36 ?_
    refine va_put (D := (dC, dI)) (ci := 2) (v := .int (nI (sz + 1))) (ty := .int) (C := R_F) (T := F_F) (N := 6) hx hb hts iF t_F t_F_ok n_F hown hK hP hD hS 0 rfl rfl 2 (by decide) (hts _ (List.mem_cons_of_mem _ wk_F_18)) (fun _ h9 => h9) rfl (by decide +kernel) rfl rfl (Nat.le_of_ble_eq_true rfl) d_F_addPair_37 (fun H locs hP hD hS => ?_)
    have hP : va_P (dC, dI) classes [cg_F fo lA hA (sz + 1) wt lc od, cg_N lA cI 10 (va_up le sz a), cg_N hA cI 10 (va_up ho sz b)] H := hP
    have hD : va_D A [cg_F fo lA hA (sz + 1) wt lc od, cg_N lA cI 10 (va_up le sz a), cg_N hA cI 10 (va_up ho sz b)] := hD
    refine lv_aload_n hx hb d_F_addPair_40 rfl (lv_at hl 0 rfl) ?_
    refine lv_dup hx hb d_F_addPair_41 rfl ?_
    refine va_get (D := (dC, dI)) (ci := 2) (v := .long od) (C := R_F) (T := F_F) (N := 6) hx hb hts iF hown hK hP 0 rfl rfl 5 (by decide) (hts _ (List.mem_cons_of_mem _ wk_F_28)) (fun _ h9 => h9) rfl d_F_addPair_42 ?_
    refine lv_lload_n hx hb d_F_addPair_45 rfl (lv_at hl 3 rfl) ?_
    refine lv_lxor hx hb d_F_addPair_46 ?_
    refine va_put (D := (dC, dI)) (ci := 2) (v := .long (od ^^^ x)) (ty := .long) (C := R_F) (T := F_F) (N := 6) hx hb hts iF t_F t_F_ok n_F hown hK hP hD hS 0 rfl rfl 5 (by decide) (hts _ (List.mem_cons_of_mem _ wk_F_28)) (fun _ h9 => h9) rfl (by decide +kernel) rfl rfl (Nat.le_of_ble_eq_true rfl) d_F_addPair_47 (fun H locs hP hD hS => ?_)
    have hP : va_P (dC, dI) classes [cg_F fo lA hA (sz + 1) wt lc (od ^^^ x), cg_N lA cI 10 (va_up le sz a), cg_N hA cI 10 (va_up ho sz b)] H := hP
    have hD : va_D A [cg_F fo lA hA (sz + 1) wt lc (od ^^^ x), cg_N lA cI 10 (va_up le sz a), cg_N hA cI 10 (va_up ho sz b)] := hD
    exact rw_vret () hx hb hr hlocks hS hP trivial d_F_addPair_50
  · exact absurd hsz (by omega)
set_option maxHeartbeats 4000000 in
set_option maxRecDepth 100000 in
theorem c_M_wholeGroup (l : Launch) (dC : Nat → ClassId) (dI : Nat → Nat → Nat) (cI cL : ClassId) (mt g wy xA nA pA qA kA rl : Nat) (hrl : rl ≤ 10) : Met l y_M_wholeGroup w_M_wholeGroup ({ frames := 0, cells := 0, slots := 0, locals := 0 } : Room) (va_Pc [.ref mt] (ro_B (dC, dI) classes [(cI, .int), (cL, .long)] [cg_M mt g wy xA nA pA qA kA rl])) (ro_Qi (nI (2 ^ rl - 1))) 0 0 ro_A := by
  refine Met.ofW (cc := b_M_wholeGroup) (maxL := 1) (ret := (some .int)) (by decide) rfl ?_
  intro p e s m args below meth c s₁ B hml hv
  obtain ⟨rfl, hP, hK⟩ := hv
  have hx := B.exec
  have hb := B.bytes
  have hr := B.returns
  have hts := atoms_spec (ws := w_M_wholeGroup) B.pre
  have hown : s.vm.findClass R_M = some m.cls := findClass_of_methodNamed B.named
  have hlocks := B.notSynchronized
  have iM : ∀ w ∈ w_M, w ∈ w_M_wholeGroup := fun w h => List.mem_cons_of_mem _ (i_M w h)
  have hS : va_S ro_A s.heap s.heap [] := va_S.rf
  have hP : va_P (dC, dI) classes [cg_M mt g wy xA nA pA qA kA rl] s.heap := hP
  have hl := lv_entry ([.ref mt]) (n := 1) (Nat.le_of_ble_eq_true rfl)
  rw [lg_entry_eq]
  generalize (lg_sl ([.ref mt]) ++ List.replicate (1 - (lg_sl ([.ref mt])).length) Slot.unset).toArray = ls at hl ⊢
  have hl : lv_has ls 1 [(0, .ref mt)] := hl
  refine lv_iconst (v := nI 1) hx hb d_M_wholeGroup_0 (by decide) ?_
  refine lv_aload_n hx hb d_M_wholeGroup_1 rfl (lv_at hl 0 rfl) ?_
  refine va_get (D := (dC, dI)) (ci := 3) (v := .int (nI rl)) (C := R_M) (T := F_M) (N := 8) hx hb hts iM hown hK hP 0 rfl rfl 7 (by decide) (hts _ (List.mem_cons_of_mem _ wk_M_27)) (fun _ h9 => h9) rfl d_M_wholeGroup_2 ?_
  refine lv_ishl hx hb d_M_wholeGroup_5 ?_
  refine nr_as (v := nb_o rl) rfl ?_
  refine lv_iconst (v := nI 1) hx hb d_M_wholeGroup_6 (by decide) ?_
  refine lv_isub hx hb d_M_wholeGroup_7 ?_
  exact ro_iret hx hb hr hlocks hS (ng_whole hrl) d_M_wholeGroup_8
set_option maxHeartbeats 4000000 in
set_option maxRecDepth 100000 in
theorem c_M_pointOf (l : Launch) (dC : Nat → ClassId) (dI : Nat → Nat → Nat) (cI cL : ClassId) (mt g wy xA nA pA qA kA rl : Nat) (row : Nat → Nat) (nr : Nat → Option Nat) (a b : Nat) (ha : a < 10) (hb1 : b < 10) : Met l y_M_pointOf w_M_pointOf ({ frames := 0, cells := 0, slots := 0, locals := 0 } : Room) (va_Pc [.ref mt, .int (nI a), .int (nI b)] (ro_B (dC, dI) classes [(cI, .int), (cL, .long)] [cg_M mt g wy xA nA pA qA kA rl, cg_N xA cI 10 row, cg_O nA cI 10 nr])) (ro_Qi (ng_oi (ng_pt row nr a b))) 0 0 ro_A := by
  refine Met.ofW (cc := b_M_pointOf) (maxL := 3) (ret := (some .int)) (by decide) rfl ?_
  intro p e s m args below meth c s₁ B hml hv
  obtain ⟨rfl, hP, hK⟩ := hv
  have hx := B.exec
  have hb := B.bytes
  have hr := B.returns
  have hts := atoms_spec (ws := w_M_pointOf) B.pre
  have hown : s.vm.findClass R_M = some m.cls := findClass_of_methodNamed B.named
  have hlocks := B.notSynchronized
  have iM : ∀ w ∈ w_M, w ∈ w_M_pointOf := fun w h => List.mem_cons_of_mem _ (i_M w h)
  have hS : va_S ro_A s.heap s.heap [] := va_S.rf
  have hP : va_P (dC, dI) classes [cg_M mt g wy xA nA pA qA kA rl, cg_N xA cI 10 row, cg_O nA cI 10 nr] s.heap := hP
  have hl := lv_entry ([.ref mt, .int (nI a), .int (nI b)]) (n := 3) (Nat.le_of_ble_eq_true rfl)
  rw [lg_entry_eq]
  generalize (lg_sl ([.ref mt, .int (nI a), .int (nI b)]) ++ List.replicate (3 - (lg_sl ([.ref mt, .int (nI a), .int (nI b)])).length) Slot.unset).toArray = ls at hl ⊢
  have hl : lv_has ls 3 [(0, .ref mt), (1, .int (nI a)), (2, .int (nI b))] := hl
  refine lv_iload_n hx hb d_M_pointOf_0 rfl (lv_at hl 2 rfl) ?_
  refine lv_iload_n hx hb d_M_pointOf_1 rfl (lv_at hl 1 rfl) ?_
  refine nr_icmp_ne (by omega) (by omega) (tgt := 14) hx hb d_M_pointOf_2 (by decide) (fun c_2 => ?_) (fun c_2 => ?_)
  · refine lv_aload_n hx hb d_M_pointOf_14 rfl (lv_at hl 0 rfl) ?_
    refine va_get (D := (dC, dI)) (ci := 3) (v := .ref xA) (C := R_M) (T := F_M) (N := 8) hx hb hts iM hown hK hP 0 rfl rfl 2 (by decide) (hts _ (List.mem_cons_of_mem _ wk_M_9)) (fun _ h9 => h9) rfl d_M_pointOf_15 ?_
    refine lv_iload_n hx hb d_M_pointOf_18 rfl (lv_at hl 2 rfl) ?_
    refine nr_iald hx hb hK hP 1 0 rfl rfl (by omega) (by decide) d_M_pointOf_19 ?_
    exact ro_iret hx hb hr hlocks hS (by first | (rw [ng_pt, if_pos c_2]; done) | (rw [ng_pt, if_neg c_2]; rfl)) d_M_pointOf_20
  · refine lv_aload_n hx hb d_M_pointOf_5 rfl (lv_at hl 0 rfl) ?_
    refine va_get (D := (dC, dI)) (ci := 3) (v := .ref nA) (C := R_M) (T := F_M) (N := 8) hx hb hts iM hown hK hP 0 rfl rfl 3 (by decide) (hts _ (List.mem_cons_of_mem _ wk_M_15)) (fun _ h9 => h9) rfl d_M_pointOf_6 ?_
    refine lv_iload_n hx hb d_M_pointOf_9 rfl (lv_at hl 1 rfl) ?_
    refine nr_oald hx hb hK hP 2 0 rfl rfl (by omega) (by decide) d_M_pointOf_10 ?_
    refine lv_goto (tgt := 20) hx hb d_M_pointOf_11 (by decide) ?_
    exact ro_iret hx hb hr hlocks hS (by first | (rw [ng_pt, if_pos c_2]; done) | (rw [ng_pt, if_neg c_2]; rfl)) d_M_pointOf_20
set_option maxHeartbeats 4000000 in
set_option maxRecDepth 100000 in
theorem c_M_without (l : Launch) (dC : Nat → ClassId) (dI : Nat → Nat → Nat) (cI cL : ClassId) (g a b : Nat)  : Met l y_M_without w_M_without ({ frames := 0, cells := 0, slots := 0, locals := 0 } : Room) (va_Pc [.int (nI g), .int (nI a), .int (nI b)] (ro_B (dC, dI) classes [(cI, .int), (cL, .long)] [])) (ro_Qi (nI (ng_wo g a b))) 0 0 ro_A := by
  refine Met.ofW (cc := b_M_without) (maxL := 3) (ret := (some .int)) (by decide) rfl ?_
  intro p e s m args below meth c s₁ B hml hv
  obtain ⟨rfl, hP, hK⟩ := hv
  have hx := B.exec
  have hb := B.bytes
  have hr := B.returns
  have hts := atoms_spec (ws := w_M_without) B.pre
  have hown : s.vm.findClass R_M = some m.cls := findClass_of_methodNamed B.named
  have hlocks := B.notSynchronized
  have hS : va_S ro_A s.heap s.heap [] := va_S.rf
  have hP : va_P (dC, dI) classes [] s.heap := hP
  have hl := lv_entry ([.int (nI g), .int (nI a), .int (nI b)]) (n := 3) (Nat.le_of_ble_eq_true rfl)
  rw [lg_entry_eq]
  generalize (lg_sl ([.int (nI g), .int (nI a), .int (nI b)]) ++ List.replicate (3 - (lg_sl ([.int (nI g), .int (nI a), .int (nI b)])).length) Slot.unset).toArray = ls at hl ⊢
  have hl : lv_has ls 3 [(0, .int (nI g)), (1, .int (nI a)), (2, .int (nI b))] := hl
  refine lv_iload_n hx hb d_M_without_0 rfl (lv_at hl 0 rfl) ?_
  refine lv_iconst (v := nI 1) hx hb d_M_without_1 (by decide) ?_
  refine lv_iload_n hx hb d_M_without_2 rfl (lv_at hl 1 rfl) ?_
  refine lv_ishl hx hb d_M_without_3 ?_
  refine nr_as (v := nb_o a) rfl ?_
  refine lv_iconst (v := nI 1) hx hb d_M_without_4 (by decide) ?_
  refine lv_iload_n hx hb d_M_without_5 rfl (lv_at hl 2 rfl) ?_
  refine lv_ishl hx hb d_M_without_6 ?_
  refine nr_as (v := nb_o b) rfl ?_
  refine lv_ior hx hb d_M_without_7 ?_
  refine lv_iconst (v := -1) hx hb d_M_without_8 (by decide) ?_
  refine lv_ixor hx hb d_M_without_9 ?_
  refine lv_iand hx hb d_M_without_10 ?_
  exact ro_iret hx hb hr hlocks hS (ng_wo_eq g a b) d_M_without_11
set_option maxHeartbeats 4000000 in
set_option maxRecDepth 100000 in
theorem c_M_weightWith (l : Launch) (dC : Nat → ClassId) (dI : Nat → Nat → Nat) (cI cL : ClassId) (mt g wy xA nA pA qA kA rl : Nat) (pw lw : Nat → Nat) (g0 a b : Nat) (hg : g0 < 1024) (ha : a < 10) (hb1 : b < 10) (hpw : pw (a * 10 + b) ≤ ng_F1) (hlw : ∀ i, i < 1024 → lw i ≤ ng_F1) : Met l y_M_weightWith w_M_weightWith ({ frames := 1, cells := 0, slots := 0, locals := 22 } : Room) (va_Pc [.ref mt, .int (nI g0), .int (nI a), .int (nI b)] (ro_B (dC, dI) classes [(cI, .int), (cL, .long)] [cg_M mt g wy xA nA pA qA kA rl, cg_N pA cI 100 pw, cg_N qA cI 1024 lw])) (ro_Qi (nI (ng_ww pw lw g0 a b))) 0 0 ro_A := by
  refine Met.ofW (cc := b_M_weightWith) (maxL := 6) (ret := (some .int)) (by decide) rfl ?_
  intro p e s m args below meth c s₁ B hml hv
  obtain ⟨rfl, hP, hK⟩ := hv
  have hx := B.exec
  have hb := B.bytes
  have hr := B.returns
  have hts := atoms_spec (ws := w_M_weightWith) B.pre
  have hown : s.vm.findClass R_M = some m.cls := findClass_of_methodNamed B.named
  have hlocks := B.notSynchronized
  have iM : ∀ w ∈ w_M, w ∈ w_M_weightWith := fun w h => List.mem_cons_of_mem _ (i_M w h)
  have hS : va_S ro_A s.heap s.heap [] := va_S.rf
  have hP : va_P (dC, dI) classes [cg_M mt g wy xA nA pA qA kA rl, cg_N pA cI 100 pw, cg_N qA cI 1024 lw] s.heap := hP
  have hl := lv_entry ([.ref mt, .int (nI g0), .int (nI a), .int (nI b)]) (n := 6) (Nat.le_of_ble_eq_true rfl)
  rw [lg_entry_eq]
  generalize (lg_sl ([.ref mt, .int (nI g0), .int (nI a), .int (nI b)]) ++ List.replicate (6 - (lg_sl ([.ref mt, .int (nI g0), .int (nI a), .int (nI b)])).length) Slot.unset).toArray = ls at hl ⊢
  have hl : lv_has ls 6 [(0, .ref mt), (1, .int (nI g0)), (2, .int (nI a)), (3, .int (nI b))] := hl
  have hF1 : ng_F1 = 1000000000 := rfl
  have hwo : ng_wo g0 a b < 1024 := Nat.lt_of_le_of_lt (ng_wo_le (by omega)) hg
  have hlx := hlw (ng_wo g0 a b) hwo
  refine lv_aload_n hx hb d_M_weightWith_0 rfl (lv_at hl 0 rfl) ?_
  refine va_get (D := (dC, dI)) (ci := 3) (v := .ref pA) (C := R_M) (T := F_M) (N := 8) hx hb hts iM hown hK hP 0 rfl rfl 4 (by decide) (hts _ (List.mem_cons_of_mem _ wk_M_18)) (fun _ h9 => h9) rfl d_M_weightWith_1 ?_
  refine lv_iload_n hx hb d_M_weightWith_4 rfl (lv_at hl 2 rfl) ?_
  refine lv_bipush (v := nI 10) hx hb d_M_weightWith_5 (by decide) ?_
  refine nr_imul hx hb d_M_weightWith_7 ?_
  refine lv_iload_n hx hb d_M_weightWith_8 rfl (lv_at hl 3 rfl) ?_
  refine nr_iadd hx hb d_M_weightWith_9 ?_
  refine nr_iald hx hb hK hP 1 0 rfl rfl (by omega) (by decide) d_M_weightWith_10 ?_
  refine lv_istore (lv' := [(4, .int (nI (pw ((a * 10) + b)))), (0, .ref mt), (1, .int (nI g0)), (2, .int (nI a)), (3, .int (nI b))]) hx hb d_M_weightWith_11 hl (by decide) rfl (fun ls hl => ?_)
  refine lv_aload_n hx hb d_M_weightWith_13 rfl (lv_at hl 1 rfl) ?_
  refine va_get (D := (dC, dI)) (ci := 3) (v := .ref qA) (C := R_M) (T := F_M) (N := 8) hx hb hts iM hown hK hP 0 rfl rfl 5 (by decide) (hts _ (List.mem_cons_of_mem _ wk_M_21)) (fun _ h9 => h9) rfl d_M_weightWith_14 ?_
  refine lv_iload_n hx hb d_M_weightWith_17 rfl (lv_at hl 2 rfl) ?_
  refine lv_iload_n hx hb d_M_weightWith_18 rfl (lv_at hl 3 rfl) ?_
  refine lv_iload_n hx hb d_M_weightWith_19 rfl (lv_at hl 4 rfl) ?_
  refine ro_Si (As := [.int (nI g0), .int (nI a), .int (nI b)]) (rest := [.ref qA]) ⟨hx, hb, hml, hown, hts⟩ (c_M_without l dC dI cI cL g0 a b ) (cwS 3 hts (wg_S wk_M_80 ws_M_without wi_M wc_M_without) rfl rfl rfl (by decide +kernel) ⟨Nat.le_of_ble_eq_true rfl, Nat.le_of_ble_eq_true rfl⟩) hK (hP.sub [] rfl) rfl hl.1 rfl (lv_room (Nat.le_of_ble_eq_true rfl)) d_M_weightWith_20 ⟨Nat.zero_le _, Nat.zero_le _⟩ hS hP (fun H locs hP hS => ?_)
  refine nr_iald hx hb hK hP 2 0 rfl rfl (by omega) (by decide) d_M_weightWith_23 ?_
  refine lv_istore (lv' := [(5, .int (nI (lw (ng_wo g0 a b)))), (4, .int (nI (pw ((a * 10) + b)))), (0, .ref mt), (1, .int (nI g0)), (2, .int (nI a)), (3, .int (nI b))]) hx hb d_M_weightWith_24 hl (by decide) rfl (fun ls hl => ?_)
  refine lv_iload hx hb d_M_weightWith_26 (lv_at hl 1 rfl) ?_
  refine lv_ldc (v := 1000000000) hx hb hown (hts _ (List.mem_cons_of_mem _ wk_M_53)) d_M_weightWith_28 ?_
  refine nr_as (v := nI 1000000000) (by decide) ?_
  refine nr_icmp_eq (by omega) (by omega) (tgt := 40) hx hb d_M_weightWith_30 (by decide) (fun c_30 => ?_) (fun c_30 => ?_)
  · refine lv_ldc (v := 1000000000) hx hb hown (hts _ (List.mem_cons_of_mem _ wk_M_53)) d_M_weightWith_40 ?_
    refine nr_as (v := nI 1000000000) (by decide) ?_
    refine lv_goto (tgt := 50) hx hb d_M_weightWith_42 (by decide) ?_
    exact ro_iret hx hb hr hlocks hS (by first | (rw [ng_ww, if_pos (Or.inl (show pw (a * 10 + b) = ng_F1 from c_30))]; rfl) | (rw [ng_ww, if_pos (Or.inr (show lw (ng_wo g0 a b) = ng_F1 from c_37))]; rfl) | (rw [ng_ww, if_neg (by omega)])) d_M_weightWith_50
  · refine lv_iload hx hb d_M_weightWith_33 (lv_at hl 0 rfl) ?_
    refine lv_ldc (v := 1000000000) hx hb hown (hts _ (List.mem_cons_of_mem _ wk_M_53)) d_M_weightWith_35 ?_
    refine nr_as (v := nI 1000000000) (by decide) ?_
    refine nr_icmp_ne (by omega) (by omega) (tgt := 45) hx hb d_M_weightWith_37 (by decide) (fun c_37 => ?_) (fun c_37 => ?_)
    · refine lv_iload hx hb d_M_weightWith_45 (lv_at hl 1 rfl) ?_
      refine lv_iload hx hb d_M_weightWith_47 (lv_at hl 0 rfl) ?_
      refine nr_iadd hx hb d_M_weightWith_49 ?_
      exact ro_iret hx hb hr hlocks hS (by first | (rw [ng_ww, if_pos (Or.inl (show pw (a * 10 + b) = ng_F1 from c_30))]; rfl) | (rw [ng_ww, if_pos (Or.inr (show lw (ng_wo g0 a b) = ng_F1 from c_37))]; rfl) | (rw [ng_ww, if_neg (by omega)])) d_M_weightWith_50
    · refine lv_ldc (v := 1000000000) hx hb hown (hts _ (List.mem_cons_of_mem _ wk_M_53)) d_M_weightWith_40 ?_
      refine nr_as (v := nI 1000000000) (by decide) ?_
      refine lv_goto (tgt := 50) hx hb d_M_weightWith_42 (by decide) ?_
      exact ro_iret hx hb hr hlocks hS (by first | (rw [ng_ww, if_pos (Or.inl (show pw (a * 10 + b) = ng_F1 from c_30))]; rfl) | (rw [ng_ww, if_pos (Or.inr (show lw (ng_wo g0 a b) = ng_F1 from c_37))]; rfl) | (rw [ng_ww, if_neg (by omega)])) d_M_weightWith_50
set_option maxHeartbeats 4000000 in
set_option maxRecDepth 100000 in
theorem c_M_leastPlace (l : Launch) (dC : Nat → ClassId) (dI : Nat → Nat → Nat) (cI cL : ClassId) (mt g wy xA nA pA qA kA rl : Nat) (g0 : Nat) (hrl : rl ≤ 10) (hr0 : 0 < rl) : Met l y_M_leastPlace w_M_leastPlace ({ frames := 0, cells := 0, slots := 0, locals := 0 } : Room) (va_Pc [.ref mt, .int (nI g0)] (ro_B (dC, dI) classes [(cI, .int), (cL, .long)] [cg_M mt g wy xA nA pA qA kA rl])) (ro_Qi (nI (ng_lp rl g0))) 0 0 ro_A := by
  refine Met.ofW (cc := b_M_leastPlace) (maxL := 3) (ret := (some .int)) (by decide) rfl ?_
  intro p e s m args below meth c s₁ B hml hv
  obtain ⟨rfl, hP, hK⟩ := hv
  have hx := B.exec
  have hb := B.bytes
  have hr := B.returns
  have hts := atoms_spec (ws := w_M_leastPlace) B.pre
  have hown : s.vm.findClass R_M = some m.cls := findClass_of_methodNamed B.named
  have hlocks := B.notSynchronized
  have iM : ∀ w ∈ w_M, w ∈ w_M_leastPlace := fun w h => List.mem_cons_of_mem _ (i_M w h)
  have hS : va_S ro_A s.heap s.heap [] := va_S.rf
  have hP : va_P (dC, dI) classes [cg_M mt g wy xA nA pA qA kA rl] s.heap := hP
  have hl := lv_entry ([.ref mt, .int (nI g0)]) (n := 3) (Nat.le_of_ble_eq_true rfl)
  rw [lg_entry_eq]
  generalize (lg_sl ([.ref mt, .int (nI g0)]) ++ List.replicate (3 - (lg_sl ([.ref mt, .int (nI g0)])).length) Slot.unset).toArray = ls at hl ⊢
  have hl : lv_has ls 3 [(0, .ref mt), (1, .int (nI g0))] := hl
  refine lv_iconst (v := nI 0) hx hb d_M_leastPlace_0 (by decide) ?_
  refine lv_istore_n (lv' := [(2, .int (nI 0)), (0, .ref mt), (1, .int (nI g0))]) hx hb d_M_leastPlace_1 rfl hl (by decide) rfl (fun ls hl => ?_)
  have lp_2 : ∀ (n : Nat) (i : Nat), (i ≤ rl - 1) → (ng_fst (fun p => nb_t (nI g0) p) (rl - 1) 0 = ng_fst (fun p => nb_t (nI g0) p) (rl - 1 - i) i) → rl - 1 - i < n → ∀ (H : Heap) (locs : List Loc), va_P (dC, dI) classes [cg_M mt g wy xA nA pA qA kA rl] H → va_S ro_A s.heap H locs → ∀ (ls : Array Slot), lv_has ls 3 [(0, .ref mt), (1, .int (nI g0)), (2, .int (nI i))] → W p l e (headSpec w_M_leastPlace ({ frames := 0, cells := 0, slots := 0, locals := 0 } : Room)).room s m ([.ref mt, .int (nI g0)] : List Value).toArray below meth c H locs 0 0 (MQ below (ro_Qi (nI (ng_lp rl g0))) ([.ref mt, .int (nI g0)] : List Value).toArray s 0 0 ro_A) (F0 m 2 ls []) := by
    intro n
    induction n with
    | zero => intro i hi hq hme; exact absurd hme (Nat.not_lt_zero _)
    | succ n ih =>
      intro i hi hq hme H locs hP hS ls hl
      have ih_2 := ih
      refine lv_iload_n hx hb d_M_leastPlace_2 rfl (lv_at hl 2 rfl) ?_
      refine lv_aload_n hx hb d_M_leastPlace_3 rfl (lv_at hl 0 rfl) ?_
      refine va_get (D := (dC, dI)) (ci := 3) (v := .int (nI rl)) (C := R_M) (T := F_M) (N := 8) hx hb hts iM hown hK hP 0 rfl rfl 7 (by decide) (hts _ (List.mem_cons_of_mem _ wk_M_27)) (fun _ h9 => h9) rfl d_M_leastPlace_4 ?_
      refine lv_iconst (v := nI 1) hx hb d_M_leastPlace_7 (by decide) ?_
      refine nr_isub (by omega) hx hb d_M_leastPlace_8 ?_
      refine nr_icmp_ge (by omega) (by omega) (tgt := 26) hx hb d_M_leastPlace_9 (by decide) (fun c_9 => ?_) (fun c_9 => ?_)
      · refine lv_iload_n hx hb d_M_leastPlace_26 rfl (lv_at hl 2 rfl) ?_
        exact ro_iret hx hb hr hlocks hS (by first | (rw [ng_lp, hq, ng_fst_t (P := (fun p => nb_t (nI g0) p)) c_9 c_17]; rfl) | (rw [ng_lp, hq, show rl - 1 - i = 0 by omega]; exact congrArg nI (show i = rl - 1 by omega))) d_M_leastPlace_27
      · refine lv_iload_n hx hb d_M_leastPlace_12 rfl (lv_at hl 1 rfl) ?_
        refine lv_iload_n hx hb d_M_leastPlace_13 rfl (lv_at hl 2 rfl) ?_
        refine lv_ishr hx hb d_M_leastPlace_14 ?_
        refine lv_iconst (v := nI 1) hx hb d_M_leastPlace_15 (by decide) ?_
        refine lv_iand hx hb d_M_leastPlace_16 ?_
        refine nr_as (v := nb_i (nb_t (nI g0) i)) (nb_bt_and1 (by omega)) ?_
        refine nr_ifneB (tgt := 26) hx hb d_M_leastPlace_17 (by decide) (fun c_17 => ?_) (fun c_17 => ?_)
        · refine lv_iload_n hx hb d_M_leastPlace_26 rfl (lv_at hl 2 rfl) ?_
          exact ro_iret hx hb hr hlocks hS (by first | (rw [ng_lp, hq, ng_fst_t (P := (fun p => nb_t (nI g0) p)) c_9 c_17]; rfl) | (rw [ng_lp, hq, show rl - 1 - i = 0 by omega]; exact congrArg nI (show i = rl - 1 by omega))) d_M_leastPlace_27
        · refine lv_iinc (v := (nI (i + 1))) (lv' := [(2, .int (nI (i + 1))), (0, .ref mt), (1, .int (nI g0))]) hx hb d_M_leastPlace_20 hl (k := 2) rfl (nI_1 i) (by decide) rfl (fun ls hl => ?_)
          refine lv_goto (tgt := 2) hx hb d_M_leastPlace_23 (by decide) ?_
          exact ih_2 (i + 1) (by omega) (hq.trans (ng_fst_f (P := (fun p => nb_t (nI g0) p)) c_9 c_17)) (by omega) _ _ hP hS ls (lv_sub hl [1, 2, 0] rfl)
  exact lp_2 (rl - 1 - 0 + 1) 0 (by omega) rfl (Nat.lt_succ_self _) _ _ hP hS ls (lv_sub hl [1, 2, 0] rfl)
set_option maxHeartbeats 4000000 in
set_option maxRecDepth 100000 in
theorem c_M_weighIn (l : Launch) (dC : Nat → ClassId) (dI : Nat → Nat → Nat) (cI cL : ClassId) (mt g wy xA nA pA qA kA rl : Nat) (lw lc : Nat → Nat) (g0 w k : Nat) (hg : g0 < 1024) (hw : w < 2 ^ 31) (hl1 : lw g0 < 2 ^ 31) : Met l y_M_weighIn w_M_weighIn ({ frames := 0, cells := 0, slots := 0, locals := 0 } : Room) (va_Pc [.ref mt, .int (nI g0), .int (nI w), .int (nI k)] (rw_B (dC, dI) classes [(cI, .int), (cL, .long)] [cg_M mt g wy xA nA pA qA kA rl, cg_N qA cI 1024 lw, cg_N kA cI 1024 lc])) (rw_Qv (dC, dI) classes (rw_A [cg_M mt g wy xA nA pA qA kA rl, cg_N qA cI 1024 lw, cg_N kA cI 1024 lc]) (fun (u : Unit) => True) (fun u => [cg_M mt g wy xA nA pA qA kA rl, cg_N qA cI 1024 (ng_wi1 lw g0 w), cg_N kA cI 1024 (ng_wi2 lw lc g0 w k)])) 0 0 (rw_A [cg_M mt g wy xA nA pA qA kA rl, cg_N qA cI 1024 lw, cg_N kA cI 1024 lc]) := by
  refine Met.ofW (cc := b_M_weighIn) (maxL := 4) (ret := none) (by decide) rfl ?_
  intro p e s m args below meth c s₁ B hml hv
  obtain ⟨rfl, hP, hK, hD0⟩ := hv
  have hx := B.exec
  have hb := B.bytes
  have hr := B.returns
  have hts := atoms_spec (ws := w_M_weighIn) B.pre
  have hown : s.vm.findClass R_M = some m.cls := findClass_of_methodNamed B.named
  have hlocks := B.notSynchronized
  have iM : ∀ w ∈ w_M, w ∈ w_M_weighIn := fun w h => List.mem_cons_of_mem _ (i_M w h)
  have hD := rw_own hD0
  generalize hAe : rw_A [cg_M mt g wy xA nA pA qA kA rl, cg_N qA cI 1024 lw, cg_N kA cI 1024 lc] = A at hD ⊢
  have hS : va_S A s.heap s.heap [] := va_S.rf
  have hP : va_P (dC, dI) classes [cg_M mt g wy xA nA pA qA kA rl, cg_N qA cI 1024 lw, cg_N kA cI 1024 lc] s.heap := hP
  have hl := lv_entry ([.ref mt, .int (nI g0), .int (nI w), .int (nI k)]) (n := 4) (Nat.le_of_ble_eq_true rfl)
  rw [lg_entry_eq]
  generalize (lg_sl ([.ref mt, .int (nI g0), .int (nI w), .int (nI k)]) ++ List.replicate (4 - (lg_sl ([.ref mt, .int (nI g0), .int (nI w), .int (nI k)])).length) Slot.unset).toArray = ls at hl ⊢
  have hl : lv_has ls 4 [(0, .ref mt), (1, .int (nI g0)), (2, .int (nI w)), (3, .int (nI k))] := hl
  refine lv_iload_n hx hb d_M_weighIn_0 rfl (lv_at hl 2 rfl) ?_
  refine lv_aload_n hx hb d_M_weighIn_1 rfl (lv_at hl 0 rfl) ?_
  refine va_get (D := (dC, dI)) (ci := 3) (v := .ref qA) (C := R_M) (T := F_M) (N := 8) hx hb hts iM hown hK hP 0 rfl rfl 5 (by decide) (hts _ (List.mem_cons_of_mem _ wk_M_21)) (fun _ h9 => h9) rfl d_M_weighIn_2 ?_
  refine lv_iload_n hx hb d_M_weighIn_5 rfl (lv_at hl 1 rfl) ?_
  refine nr_iald hx hb hK hP 1 0 rfl rfl (by omega) (by decide) d_M_weighIn_6 ?_
  refine nr_icmp_ge (by omega) (by omega) (tgt := 27) hx hb d_M_weighIn_7 (by decide) (fun c_7 => ?_) (fun c_7 => ?_)
  · refine lv_iload_n hx hb d_M_weighIn_27 rfl (lv_at hl 2 rfl) ?_
    refine lv_aload_n hx hb d_M_weighIn_28 rfl (lv_at hl 0 rfl) ?_
    refine va_get (D := (dC, dI)) (ci := 3) (v := .ref qA) (C := R_M) (T := F_M) (N := 8) hx hb hts iM hown hK hP 0 rfl rfl 5 (by decide) (hts _ (List.mem_cons_of_mem _ wk_M_21)) (fun _ h9 => h9) rfl d_M_weighIn_29 ?_
    refine lv_iload_n hx hb d_M_weighIn_32 rfl (lv_at hl 1 rfl) ?_
    refine nr_iald hx hb hK hP 1 0 rfl rfl (by omega) (by decide) d_M_weighIn_33 ?_
    refine nr_icmp_ne (by omega) (by omega) (tgt := 53) hx hb d_M_weighIn_34 (by decide) (fun c_34 => ?_) (fun c_34 => ?_)
    · rw [show ng_wi1 lw g0 w = lw from if_neg (by omega), show ng_wi2 lw lc g0 w k = lc from (if_neg (by omega)).trans (if_neg (fun q => c_34 q.1))]
      exact rw_vret () hx hb hr hlocks hS hP trivial d_M_weighIn_53
    · refine lv_iload_n hx hb d_M_weighIn_37 rfl (lv_at hl 2 rfl) ?_
      refine lv_ldc (v := 1000000000) hx hb hown (hts _ (List.mem_cons_of_mem _ wk_M_53)) d_M_weighIn_38 ?_
      refine nr_as (v := nI 1000000000) (by decide) ?_
      refine nr_icmp_eq (by omega) (by omega) (tgt := 53) hx hb d_M_weighIn_40 (by decide) (fun c_40 => ?_) (fun c_40 => ?_)
      · rw [show ng_wi1 lw g0 w = lw from if_neg (by omega), show ng_wi2 lw lc g0 w k = lc from (if_neg (by omega)).trans (if_neg (fun q => q.2 c_40))]
        exact rw_vret () hx hb hr hlocks hS hP trivial d_M_weighIn_53
      · rw [show ng_wi1 lw g0 w = lw from if_neg (by omega), show ng_wi2 lw lc g0 w k = va_up lc g0 (lc g0 + k) from (if_neg (by omega)).trans (if_pos ⟨c_34, c_40⟩)]
        refine lv_aload_n hx hb d_M_weighIn_43 rfl (lv_at hl 0 rfl) ?_
        refine va_get (D := (dC, dI)) (ci := 3) (v := .ref kA) (C := R_M) (T := F_M) (N := 8) hx hb hts iM hown hK hP 0 rfl rfl 6 (by decide) (hts _ (List.mem_cons_of_mem _ wk_M_24)) (fun _ h9 => h9) rfl d_M_weighIn_44 ?_
        refine lv_iload_n hx hb d_M_weighIn_47 rfl (lv_at hl 1 rfl) ?_
        refine lv_dup2_11 hx hb d_M_weighIn_48 rfl rfl ?_
        refine nr_iald hx hb hK hP 2 0 rfl rfl (by omega) (by decide) d_M_weighIn_49 ?_
        refine lv_iload_n hx hb d_M_weighIn_50 rfl (lv_at hl 3 rfl) ?_
        refine nr_iadd hx hb d_M_weighIn_51 ?_
        refine nr_iast hx hb hK hP hD hS 2 0 rfl rfl (by omega) (by decide) d_M_weighIn_52 (fun H locs hP hD hS => ?_)
        have hP : va_P (dC, dI) classes [cg_M mt g wy xA nA pA qA kA rl, cg_N qA cI 1024 lw, cg_N kA cI 1024 (va_up lc g0 ((lc g0) + k))] H := hP
        have hD : va_D A [cg_M mt g wy xA nA pA qA kA rl, cg_N qA cI 1024 lw, cg_N kA cI 1024 (va_up lc g0 ((lc g0) + k))] := hD
        exact rw_vret () hx hb hr hlocks hS hP trivial d_M_weighIn_53
  · refine lv_aload_n hx hb d_M_weighIn_10 rfl (lv_at hl 0 rfl) ?_
    refine va_get (D := (dC, dI)) (ci := 3) (v := .ref qA) (C := R_M) (T := F_M) (N := 8) hx hb hts iM hown hK hP 0 rfl rfl 5 (by decide) (hts _ (List.mem_cons_of_mem _ wk_M_21)) (fun _ h9 => h9) rfl d_M_weighIn_11 ?_
    refine lv_iload_n hx hb d_M_weighIn_14 rfl (lv_at hl 1 rfl) ?_
    refine lv_iload_n hx hb d_M_weighIn_15 rfl (lv_at hl 2 rfl) ?_
    refine nr_iast hx hb hK hP hD hS 1 0 rfl rfl (by omega) (by decide) d_M_weighIn_16 (fun H locs hP hD hS => ?_)
    have hP : va_P (dC, dI) classes [cg_M mt g wy xA nA pA qA kA rl, cg_N qA cI 1024 (va_up lw g0 w), cg_N kA cI 1024 lc] H := hP
    have hD : va_D A [cg_M mt g wy xA nA pA qA kA rl, cg_N qA cI 1024 (va_up lw g0 w), cg_N kA cI 1024 lc] := hD
    refine lv_aload_n hx hb d_M_weighIn_17 rfl (lv_at hl 0 rfl) ?_
    refine va_get (D := (dC, dI)) (ci := 3) (v := .ref kA) (C := R_M) (T := F_M) (N := 8) hx hb hts iM hown hK hP 0 rfl rfl 6 (by decide) (hts _ (List.mem_cons_of_mem _ wk_M_24)) (fun _ h9 => h9) rfl d_M_weighIn_18 ?_
    refine lv_iload_n hx hb d_M_weighIn_21 rfl (lv_at hl 1 rfl) ?_
    refine lv_iload_n hx hb d_M_weighIn_22 rfl (lv_at hl 3 rfl) ?_
    refine nr_iast hx hb hK hP hD hS 2 0 rfl rfl (by omega) (by decide) d_M_weighIn_23 (fun H locs hP hD hS => ?_)
    have hP : va_P (dC, dI) classes [cg_M mt g wy xA nA pA qA kA rl, cg_N qA cI 1024 (va_up lw g0 w), cg_N kA cI 1024 (va_up lc g0 k)] H := hP
    have hD : va_D A [cg_M mt g wy xA nA pA qA kA rl, cg_N qA cI 1024 (va_up lw g0 w), cg_N kA cI 1024 (va_up lc g0 k)] := hD
    rw [show ng_wi1 lw g0 w = va_up lw g0 w from if_pos c_7, show ng_wi2 lw lc g0 w k = va_up lc g0 k from if_pos c_7]
    refine lv_goto (tgt := 53) hx hb d_M_weighIn_24 (by decide) ?_
    exact rw_vret () hx hb hr hlocks hS hP trivial d_M_weighIn_53
set_option maxHeartbeats 4000000 in
set_option maxRecDepth 100000 in
theorem c_M_firstPartner (l : Launch) (dC : Nat → ClassId) (dI : Nat → Nat → Nat) (cI cL : ClassId) (mt g wy xA nA pA qA kA rl : Nat) (pw lw : Nat → Nat) (g0 a : Nat) (hg : g0 < 1024) (hrl : rl ≤ 10) (ha : a < rl) (hpw : ∀ i, i < 100 → pw i ≤ ng_F1) (hlw : ∀ i, i < 1024 → lw i ≤ ng_F1) : Met l y_M_firstPartner w_M_firstPartner ({ frames := 2, cells := 0, slots := 0, locals := 47 } : Room) (va_Pc [.ref mt, .int (nI g0), .int (nI a)] (ro_B (dC, dI) classes [(cI, .int), (cL, .long)] [cg_M mt g wy xA nA pA qA kA rl, cg_N pA cI 100 pw, cg_N qA cI 1024 lw])) (ro_Qi (nI (ng_fp rl pw lw g0 a))) 0 0 ro_A := by
  refine Met.ofW (cc := b_M_firstPartner) (maxL := 4) (ret := (some .int)) (by decide) rfl ?_
  intro p e s m args below meth c s₁ B hml hv
  obtain ⟨rfl, hP, hK⟩ := hv
  have hx := B.exec
  have hb := B.bytes
  have hr := B.returns
  have hts := atoms_spec (ws := w_M_firstPartner) B.pre
  have hown : s.vm.findClass R_M = some m.cls := findClass_of_methodNamed B.named
  have hlocks := B.notSynchronized
  have iM : ∀ w ∈ w_M, w ∈ w_M_firstPartner := fun w h => List.mem_cons_of_mem _ (i_M w h)
  have hS : va_S ro_A s.heap s.heap [] := va_S.rf
  have hP : va_P (dC, dI) classes [cg_M mt g wy xA nA pA qA kA rl, cg_N pA cI 100 pw, cg_N qA cI 1024 lw] s.heap := hP
  have hl := lv_entry ([.ref mt, .int (nI g0), .int (nI a)]) (n := 4) (Nat.le_of_ble_eq_true rfl)
  rw [lg_entry_eq]
  generalize (lg_sl ([.ref mt, .int (nI g0), .int (nI a)]) ++ List.replicate (4 - (lg_sl ([.ref mt, .int (nI g0), .int (nI a)])).length) Slot.unset).toArray = ls at hl ⊢
  have hl : lv_has ls 4 [(0, .ref mt), (1, .int (nI g0)), (2, .int (nI a))] := hl
  have hF1 : ng_F1 = 1000000000 := rfl
  have hlg := hlw g0 hg
  refine lv_iload_n hx hb d_M_firstPartner_0 rfl (lv_at hl 2 rfl) ?_
  refine lv_iconst (v := nI 1) hx hb d_M_firstPartner_1 (by decide) ?_
  refine nr_iadd hx hb d_M_firstPartner_2 ?_
  refine lv_istore_n (lv' := [(3, .int (nI (a + 1))), (0, .ref mt), (1, .int (nI g0)), (2, .int (nI a))]) hx hb d_M_firstPartner_3 rfl hl (by decide) rfl (fun ls hl => ?_)
  have lp_4 : ∀ (n : Nat) (i : Nat), (i ≤ rl) → (a < i) → (ng_fst (fun p => nb_t (nI g0) p && decide (ng_ww pw lw g0 a p = lw g0)) (rl - (a + 1)) (a + 1) = ng_fst (fun p => nb_t (nI g0) p && decide (ng_ww pw lw g0 a p = lw g0)) (rl - i) i) → rl - i < n → ∀ (H : Heap) (locs : List Loc), va_P (dC, dI) classes [cg_M mt g wy xA nA pA qA kA rl, cg_N pA cI 100 pw, cg_N qA cI 1024 lw] H → va_S ro_A s.heap H locs → ∀ (ls : Array Slot), lv_has ls 4 [(0, .ref mt), (1, .int (nI g0)), (2, .int (nI a)), (3, .int (nI i))] → W p l e (headSpec w_M_firstPartner ({ frames := 2, cells := 0, slots := 0, locals := 47 } : Room)).room s m ([.ref mt, .int (nI g0), .int (nI a)] : List Value).toArray below meth c H locs 0 0 (MQ below (ro_Qi (nI (ng_fp rl pw lw g0 a))) ([.ref mt, .int (nI g0), .int (nI a)] : List Value).toArray s 0 0 ro_A) (F0 m 4 ls []) := by
    intro n
    induction n with
    | zero => intro i hi hai hq hme; exact absurd hme (Nat.not_lt_zero _)
    | succ n ih =>
      intro i hi hai hq hme H locs hP hS ls hl
      have ih_4 := ih
      refine lv_iload_n hx hb d_M_firstPartner_4 rfl (lv_at hl 3 rfl) ?_
      refine lv_aload_n hx hb d_M_firstPartner_5 rfl (lv_at hl 0 rfl) ?_
      refine va_get (D := (dC, dI)) (ci := 3) (v := .int (nI rl)) (C := R_M) (T := F_M) (N := 8) hx hb hts iM hown hK hP 0 rfl rfl 7 (by decide) (hts _ (List.mem_cons_of_mem _ wk_M_27)) (fun _ h9 => h9) rfl d_M_firstPartner_6 ?_
      refine nr_icmp_ge (by omega) (by omega) (tgt := 45) hx hb d_M_firstPartner_9 (by decide) (fun c_9 => ?_) (fun c_9 => ?_)
      · refine lv_iload_n hx hb d_M_firstPartner_45 rfl (lv_at hl 2 rfl) ?_
        exact ro_iret hx hb hr hlocks hS (by rw [ng_fp, hq, show rl - i = 0 by omega]; rfl) d_M_firstPartner_46
      · refine lv_iload_n hx hb d_M_firstPartner_12 rfl (lv_at hl 1 rfl) ?_
        refine lv_iload_n hx hb d_M_firstPartner_13 rfl (lv_at hl 3 rfl) ?_
        refine lv_ishr hx hb d_M_firstPartner_14 ?_
        refine lv_iconst (v := nI 1) hx hb d_M_firstPartner_15 (by decide) ?_
        refine lv_iand hx hb d_M_firstPartner_16 ?_
        refine nr_as (v := nb_i (nb_t (nI g0) i)) (nb_bt_and1 (by omega)) ?_
        refine lv_iconst (v := nI 1) hx hb d_M_firstPartner_17 (by decide) ?_
        refine nr_icmpneB1 (tgt := 39) hx hb d_M_firstPartner_18 (by decide) (fun c_18 => ?_) (fun c_18 => ?_)
        · refine lv_iinc (v := (nI (i + 1))) (lv' := [(3, .int (nI (i + 1))), (0, .ref mt), (1, .int (nI g0)), (2, .int (nI a))]) hx hb d_M_firstPartner_39 hl (k := 3) rfl (nI_1 i) (by decide) rfl (fun ls hl => ?_)
          refine lv_goto (tgt := 4) hx hb d_M_firstPartner_42 (by decide) ?_
          exact ih_4 (i + 1) (by omega) (by omega) (hq.trans (ng_fst_f (P := (fun p => nb_t (nI g0) p && decide (ng_ww pw lw g0 a p = lw g0))) c_9 (by first | (show (nb_t (nI g0) i && decide (ng_ww pw lw g0 a i = lw g0)) = false; rw [c_18]; rfl) | (show (nb_t (nI g0) i && decide (ng_ww pw lw g0 a i = lw g0)) = false; rw [decide_eq_false c_34, Bool.and_false])))) (by omega) _ _ hP hS ls (lv_sub hl [1, 2, 3, 0] rfl)
        · refine lv_aload_n hx hb d_M_firstPartner_21 rfl (lv_at hl 0 rfl) ?_
          refine lv_iload_n hx hb d_M_firstPartner_22 rfl (lv_at hl 1 rfl) ?_
          refine lv_iload_n hx hb d_M_firstPartner_23 rfl (lv_at hl 2 rfl) ?_
          refine lv_iload_n hx hb d_M_firstPartner_24 rfl (lv_at hl 3 rfl) ?_
          refine ro_Vi (As := [.int (nI g0), .int (nI a), .int (nI i)]) (rest := []) ⟨hx, hb, hml, hown, hts⟩ (c_M_weightWith l dC dI cI cL mt g wy xA nA pA qA kA rl pw lw g0 a i (by omega) (by omega) (by omega) (hpw (a * 10 + i) (by omega)) hlw) (cwV 3 hts (wg_V wk_M_107 wm_M_weightWith we_M_weightWith wi_M wc_M_weightWith) rfl rfl rfl (by decide +kernel) ⟨Nat.le_of_ble_eq_true rfl, Nat.le_of_ble_eq_true rfl⟩) hK (hP.sub [0, 1, 2] rfl) (q0 := 0) rfl rfl rfl rfl hl.1 rfl (lv_room (Nat.le_of_ble_eq_true rfl)) d_M_firstPartner_25 ⟨Nat.zero_le _, Nat.zero_le _⟩ hS hP (fun H locs hP hS => ?_)
          have hwb : ng_ww pw lw g0 a i < 2 ^ 31 := by unfold ng_ww; have h1 := hpw (a * 10 + i) (by omega); have h2 := hlw (ng_wo g0 a i) (Nat.lt_of_le_of_lt (ng_wo_le (by omega)) hg); split <;> omega
          refine lv_aload_n hx hb d_M_firstPartner_28 rfl (lv_at hl 0 rfl) ?_
          refine va_get (D := (dC, dI)) (ci := 3) (v := .ref qA) (C := R_M) (T := F_M) (N := 8) hx hb hts iM hown hK hP 0 rfl rfl 5 (by decide) (hts _ (List.mem_cons_of_mem _ wk_M_21)) (fun _ h9 => h9) rfl d_M_firstPartner_29 ?_
          refine lv_iload_n hx hb d_M_firstPartner_32 rfl (lv_at hl 1 rfl) ?_
          refine nr_iald hx hb hK hP 2 0 rfl rfl (by omega) (by decide) d_M_firstPartner_33 ?_
          refine nr_icmp_ne (by omega) (by omega) (tgt := 39) hx hb d_M_firstPartner_34 (by decide) (fun c_34 => ?_) (fun c_34 => ?_)
          · refine lv_iinc (v := (nI (i + 1))) (lv' := [(3, .int (nI (i + 1))), (0, .ref mt), (1, .int (nI g0)), (2, .int (nI a))]) hx hb d_M_firstPartner_39 hl (k := 3) rfl (nI_1 i) (by decide) rfl (fun ls hl => ?_)
            refine lv_goto (tgt := 4) hx hb d_M_firstPartner_42 (by decide) ?_
            exact ih_4 (i + 1) (by omega) (by omega) (hq.trans (ng_fst_f (P := (fun p => nb_t (nI g0) p && decide (ng_ww pw lw g0 a p = lw g0))) c_9 (by first | (show (nb_t (nI g0) i && decide (ng_ww pw lw g0 a i = lw g0)) = false; rw [c_18]; rfl) | (show (nb_t (nI g0) i && decide (ng_ww pw lw g0 a i = lw g0)) = false; rw [decide_eq_false c_34, Bool.and_false])))) (by omega) _ _ hP hS ls (lv_sub hl [1, 2, 3, 0] rfl)
          · refine lv_iload_n hx hb d_M_firstPartner_37 rfl (lv_at hl 3 rfl) ?_
            exact ro_iret hx hb hr hlocks hS (by rw [ng_fp, hq, ng_fst_t (P := (fun p => nb_t (nI g0) p && decide (ng_ww pw lw g0 a p = lw g0))) c_9 (by show (nb_t (nI g0) i && decide (ng_ww pw lw g0 a i = lw g0)) = true; rw [c_18, decide_eq_true c_34]; rfl)]; rfl) d_M_firstPartner_38
  exact lp_4 (rl - (a + 1) + 1) (a + 1) (by omega) (by omega) rfl (Nat.lt_succ_self _) _ _ hP hS ls (lv_sub hl [1, 2, 3, 0] rfl)
set_option maxHeartbeats 4000000 in
set_option maxRecDepth 100000 in
theorem c_M_nearestBoundary (l : Launch) (dC : Nat → ClassId) (dI : Nat → Nat → Nat) (cI cL : ClassId) (g tA oA uA wA sA np ne : Nat) (bd : Int32) (er : Int64) (vr : Nat) (wy cA rA : Nat) (mv : Int32) (tl : Nat) (mt xA nA pA qA kA rl : Nat) (ct : Nat → Nat) (p0 : Nat) (hnp : np ≤ 20) (hp0 : p0 < np) (hct : ∀ i, i < 400 → ct i ≤ dm_FAR) (hcf : ∀ a b, a < np → b < np → ct (a * 20 + b) = dm_FAR ∨ ct (a * 20 + b) ≤ 1300000000) : Met l y_M_nearestBoundary w_M_nearestBoundary ({ frames := 2, cells := 0, slots := 0, locals := 43 } : Room) (va_Pc [.ref mt, .int (nI p0)] (ro_B (dC, dI) classes [(cI, .int), (cL, .long)] [cg_G g tA oA uA wA sA np ne bd er vr, cg_W wy g cA rA mv tl, cg_L cA cL 400 ct, cg_M mt g wy xA nA pA qA kA rl])) (ro_Qi (ng_oi (ng_nb bd ct p0 np))) 0 0 ro_A := by
  refine Met.ofW (cc := b_M_nearestBoundary) (maxL := 4) (ret := (some .int)) (by decide) rfl ?_
  intro p e s m args below meth c s₁ B hml hv
  obtain ⟨rfl, hP, hK⟩ := hv
  have hx := B.exec
  have hb := B.bytes
  have hr := B.returns
  have hts := atoms_spec (ws := w_M_nearestBoundary) B.pre
  have hown : s.vm.findClass R_M = some m.cls := findClass_of_methodNamed B.named
  have hlocks := B.notSynchronized
  have iG : ∀ w ∈ w_G, w ∈ w_M_nearestBoundary := fun w h => List.mem_cons_of_mem _ (i_G w h)
  have iM : ∀ w ∈ w_M, w ∈ w_M_nearestBoundary := fun w h => List.mem_cons_of_mem _ (i_M w h)
  have hS : va_S ro_A s.heap s.heap [] := va_S.rf
  have hP : va_P (dC, dI) classes [cg_G g tA oA uA wA sA np ne bd er vr, cg_W wy g cA rA mv tl, cg_L cA cL 400 ct, cg_M mt g wy xA nA pA qA kA rl] s.heap := hP
  have hl := lv_entry ([.ref mt, .int (nI p0)]) (n := 4) (Nat.le_of_ble_eq_true rfl)
  rw [lg_entry_eq]
  generalize (lg_sl ([.ref mt, .int (nI p0)]) ++ List.replicate (4 - (lg_sl ([.ref mt, .int (nI p0)])).length) Slot.unset).toArray = ls at hl ⊢
  have hl : lv_has ls 4 [(0, .ref mt), (1, .int (nI p0))] := hl
  have hFAR : dm_FAR = 1000000000000 := rfl
  refine lv_iconst (v := -1) hx hb d_M_nearestBoundary_0 (by decide) ?_
  refine lv_istore_n (lv' := [(2, .int (-1)), (0, .ref mt), (1, .int (nI p0))]) hx hb d_M_nearestBoundary_1 rfl hl (by decide) rfl (fun ls hl => ?_)
  refine lv_iconst (v := nI 0) hx hb d_M_nearestBoundary_2 (by decide) ?_
  refine lv_istore_n (lv' := [(3, .int (nI 0)), (2, .int (-1)), (0, .ref mt), (1, .int (nI p0))]) hx hb d_M_nearestBoundary_3 rfl hl (by decide) rfl (fun ls hl => ?_)
  have lp_4 : ∀ (n : Nat) (i : Nat) (bo : Option Nat), (i ≤ np) → (bo = ng_nb bd ct p0 i) → np - i < n → ∀ (H : Heap) (locs : List Loc), va_P (dC, dI) classes [cg_G g tA oA uA wA sA np ne bd er vr, cg_W wy g cA rA mv tl, cg_L cA cL 400 ct, cg_M mt g wy xA nA pA qA kA rl] H → va_S ro_A s.heap H locs → ∀ (ls : Array Slot), lv_has ls 4 [(0, .ref mt), (1, .int (nI p0)), (2, .int (ng_oi bo)), (3, .int (nI i))] → W p l e (headSpec w_M_nearestBoundary ({ frames := 2, cells := 0, slots := 0, locals := 43 } : Room)).room s m ([.ref mt, .int (nI p0)] : List Value).toArray below meth c H locs 0 0 (MQ below (ro_Qi (ng_oi (ng_nb bd ct p0 np))) ([.ref mt, .int (nI p0)] : List Value).toArray s 0 0 ro_A) (F0 m 4 ls []) := by
    intro n
    induction n with
    | zero => intro i bo hi hbo hme; exact absurd hme (Nat.not_lt_zero _)
    | succ n ih =>
      intro i bo hi hbo hme H locs hP hS ls hl
      have ih_4 := ih
      refine lv_iload_n hx hb d_M_nearestBoundary_4 rfl (lv_at hl 3 rfl) ?_
      refine lv_aload_n hx hb d_M_nearestBoundary_5 rfl (lv_at hl 0 rfl) ?_
      refine va_get (D := (dC, dI)) (ci := 3) (v := .ref g) (C := R_M) (T := F_M) (N := 8) hx hb hts iM hown hK hP 3 rfl rfl 0 (by decide) (hts _ (List.mem_cons_of_mem _ wk_M_31)) (fun _ h9 => h9) rfl d_M_nearestBoundary_6 ?_
      refine va_get (D := (dC, dI)) (ci := 0) (v := .int (nI np)) (C := R_G) (T := F_G) (N := 10) hx hb hts iG hown hK hP 0 rfl rfl 5 (by decide) (hts _ (List.mem_cons_of_mem _ wk_M_84)) (fun _ h9 => h9) rfl d_M_nearestBoundary_9 ?_
      refine nr_icmp_ge (by omega) (by omega) (tgt := 72) hx hb d_M_nearestBoundary_12 (by decide) (fun c_12 => ?_) (fun c_12 => ?_)
      · refine lv_iload_n hx hb d_M_nearestBoundary_72 rfl (lv_at hl 2 rfl) ?_
        exact ro_iret hx hb hr hlocks hS (by rw [hbo, show i = np by omega]) d_M_nearestBoundary_73
      · have hc1 := hct (p0 * 20 + i) (by omega)
        refine lv_aload_n hx hb d_M_nearestBoundary_15 rfl (lv_at hl 0 rfl) ?_
        refine va_get (D := (dC, dI)) (ci := 3) (v := .ref g) (C := R_M) (T := F_M) (N := 8) hx hb hts iM hown hK hP 3 rfl rfl 0 (by decide) (hts _ (List.mem_cons_of_mem _ wk_M_31)) (fun _ h9 => h9) rfl d_M_nearestBoundary_16 ?_
        refine lv_iload_n hx hb d_M_nearestBoundary_19 rfl (lv_at hl 3 rfl) ?_
        refine ro_Vi (As := [.int (nI i)]) (rest := []) ⟨hx, hb, hml, hown, hts⟩ (c_G_isBoundary l dC dI cI cL g tA oA uA wA sA np ne bd er vr i (by omega)) (cwV 1 hts (wg_V wk_M_93 wm_G_isBoundary we_G_isBoundary wi_G wc_G_isBoundary) rfl rfl rfl (by decide +kernel) ⟨Nat.le_of_ble_eq_true rfl, Nat.le_of_ble_eq_true rfl⟩) hK (hP.sub [0] rfl) (q0 := 0) rfl rfl rfl rfl hl.1 rfl (lv_room (Nat.le_of_ble_eq_true rfl)) d_M_nearestBoundary_20 ⟨Nat.zero_le _, Nat.zero_le _⟩ hS hP (fun H locs hP hS => ?_)
        refine nr_ifeqB (tgt := 66) hx hb d_M_nearestBoundary_23 (by decide) (fun c_23 => ?_) (fun c_23 => ?_)
        · have hb2 : bo = ng_nb bd ct p0 (i + 1) := hbo.trans (ng_nb_f (fun q => by rw [c_23] at q; exact absurd q.1 (by decide))).symm
          refine lv_iinc (v := (nI (i + 1))) (lv' := [(3, .int (nI (i + 1))), (0, .ref mt), (1, .int (nI p0)), (2, .int (ng_oi bo))]) hx hb d_M_nearestBoundary_66 hl (k := 3) rfl (nI_1 i) (by decide) rfl (fun ls hl => ?_)
          refine lv_goto (tgt := 4) hx hb d_M_nearestBoundary_69 (by decide) ?_
          exact ih_4 (i + 1) bo (by omega) hb2 (by omega) _ _ hP hS ls (lv_sub hl [1, 2, 3, 0] rfl)
        · refine lv_aload_n hx hb d_M_nearestBoundary_26 rfl (lv_at hl 0 rfl) ?_
          refine va_get (D := (dC, dI)) (ci := 3) (v := .ref wy) (C := R_M) (T := F_M) (N := 8) hx hb hts iM hown hK hP 3 rfl rfl 1 (by decide) (hts _ (List.mem_cons_of_mem _ wk_M_35)) (fun _ h9 => h9) rfl d_M_nearestBoundary_27 ?_
          refine lv_iload_n hx hb d_M_nearestBoundary_30 rfl (lv_at hl 1 rfl) ?_
          refine lv_iload_n hx hb d_M_nearestBoundary_31 rfl (lv_at hl 3 rfl) ?_
          refine ro_Vi (As := [.int (nI p0), .int (nI i)]) (rest := []) ⟨hx, hb, hml, hown, hts⟩ (c_W_isThere l dC dI cI cL wy g cA rA mv tl ct p0 i (by omega) (by omega) (by omega)) (cwV 2 hts (wg_V wk_M_97 wm_W_isThere we_W_isThere wi_W wc_W_isThere) rfl rfl rfl (by decide +kernel) ⟨Nat.le_of_ble_eq_true rfl, Nat.le_of_ble_eq_true rfl⟩) hK (hP.sub [1, 2] rfl) (q0 := 0) rfl rfl rfl rfl hl.1 rfl (lv_room (Nat.le_of_ble_eq_true rfl)) d_M_nearestBoundary_32 ⟨Nat.zero_le _, Nat.zero_le _⟩ hS hP (fun H locs hP hS => ?_)
          refine nr_ifeqB (tgt := 66) hx hb d_M_nearestBoundary_35 (by decide) (fun c_35 => ?_) (fun c_35 => ?_)
          · have hb2 : bo = ng_nb bd ct p0 (i + 1) := hbo.trans (ng_nb_f (fun q => by simp at c_35; exact q.2.1 c_35)).symm
            refine lv_iinc (v := (nI (i + 1))) (lv' := [(3, .int (nI (i + 1))), (0, .ref mt), (1, .int (nI p0)), (2, .int (ng_oi bo))]) hx hb d_M_nearestBoundary_66 hl (k := 3) rfl (nI_1 i) (by decide) rfl (fun ls hl => ?_)
            refine lv_goto (tgt := 4) hx hb d_M_nearestBoundary_69 (by decide) ?_
            exact ih_4 (i + 1) bo (by omega) hb2 (by omega) _ _ hP hS ls (lv_sub hl [1, 2, 3, 0] rfl)
          · rcases bo with _ | y
            · have hl : lv_has ls 4 [(0, .ref mt), (1, .int (nI p0)), (2, .int (-1)), (3, .int (nI i))] := hl
              have hb2 : some i = ng_nb bd ct p0 (i + 1) := (ng_nb_t c_23 (by simpa using c_35) (fun y hy => by rw [← hbo] at hy; cases hy)).symm
              refine lv_iload_n hx hb d_M_nearestBoundary_38 rfl (lv_at hl 2 rfl) ?_
              refine lv_iconst (v := -1) hx hb d_M_nearestBoundary_39 (by decide) ?_
              refine lv_icmp_eq (tgt := 64) hx hb d_M_nearestBoundary_40 (by decide) (fun c_40 => ?_) (fun c => absurd rfl c)
              refine lv_iload_n hx hb d_M_nearestBoundary_64 rfl (lv_at hl 3 rfl) ?_
              refine lv_istore_n (lv' := [(2, .int (nI i)), (0, .ref mt), (1, .int (nI p0)), (3, .int (nI i))]) hx hb d_M_nearestBoundary_65 rfl hl (by decide) rfl (fun ls hl => ?_)
              refine lv_iinc (v := (nI (i + 1))) (lv' := [(3, .int (nI (i + 1))), (2, .int (nI i)), (0, .ref mt), (1, .int (nI p0))]) hx hb d_M_nearestBoundary_66 hl (k := 3) rfl (nI_1 i) (by decide) rfl (fun ls hl => ?_)
              refine lv_goto (tgt := 4) hx hb d_M_nearestBoundary_69 (by decide) ?_
              exact ih_4 (i + 1) (some i) (by omega) hb2 (by omega) _ _ hP hS ls (lv_sub hl [2, 3, 1, 0] rfl)
            · have hl : lv_has ls 4 [(0, .ref mt), (1, .int (nI p0)), (2, .int (nI y)), (3, .int (nI i))] := hl
              have hyl := ng_nb_lt hbo.symm
              have hc2 := hct (p0 * 20 + y) (by omega)
              have hz1 := (hcf p0 i hp0 c_12).resolve_left (by simpa using c_35)
              have hz2 := (hcf p0 y hp0 (by omega)).resolve_left (ng_nb_ok hbo.symm).2
              refine lv_iload_n hx hb d_M_nearestBoundary_38 rfl (lv_at hl 2 rfl) ?_
              refine lv_iconst (v := -1) hx hb d_M_nearestBoundary_39 (by decide) ?_
              refine lv_icmp_eq (tgt := 64) hx hb d_M_nearestBoundary_40 (by decide) (fun c => absurd c (ng_nm1 (by omega))) (fun c_40 => ?_)
              refine lv_aload_n hx hb d_M_nearestBoundary_43 rfl (lv_at hl 0 rfl) ?_
              refine va_get (D := (dC, dI)) (ci := 3) (v := .ref wy) (C := R_M) (T := F_M) (N := 8) hx hb hts iM hown hK hP 3 rfl rfl 1 (by decide) (hts _ (List.mem_cons_of_mem _ wk_M_35)) (fun _ h9 => h9) rfl d_M_nearestBoundary_44 ?_
              refine lv_iload_n hx hb d_M_nearestBoundary_47 rfl (lv_at hl 1 rfl) ?_
              refine lv_iload_n hx hb d_M_nearestBoundary_48 rfl (lv_at hl 3 rfl) ?_
              refine ro_Vi (As := [.int (nI p0), .int (nI i)]) (rest := []) ⟨hx, hb, hml, hown, hts⟩ (c_W_weightBetween l dC dI cI cL wy g cA rA mv tl ct p0 i (by omega) (by omega) (by omega)) (cwV 2 hts (wg_V wk_M_101 wm_W_weightBetween we_W_weightBetween wi_W wc_W_weightBetween) rfl rfl rfl (by decide +kernel) ⟨Nat.le_of_ble_eq_true rfl, Nat.le_of_ble_eq_true rfl⟩) hK (hP.sub [1, 2] rfl) (q0 := 0) rfl rfl rfl rfl hl.1 rfl (lv_room (Nat.le_of_ble_eq_true rfl)) d_M_nearestBoundary_49 ⟨Nat.zero_le _, Nat.zero_le _⟩ hS hP (fun H locs hP hS => ?_)
              refine lv_aload_n hx hb d_M_nearestBoundary_52 rfl (lv_at hl 0 rfl) ?_
              refine va_get (D := (dC, dI)) (ci := 3) (v := .ref wy) (C := R_M) (T := F_M) (N := 8) hx hb hts iM hown hK hP 3 rfl rfl 1 (by decide) (hts _ (List.mem_cons_of_mem _ wk_M_35)) (fun _ h9 => h9) rfl d_M_nearestBoundary_53 ?_
              refine lv_iload_n hx hb d_M_nearestBoundary_56 rfl (lv_at hl 1 rfl) ?_
              refine lv_iload_n hx hb d_M_nearestBoundary_57 rfl (lv_at hl 2 rfl) ?_
              refine ro_Vi (As := [.int (nI p0), .int (nI y)]) (rest := [.int (nI (ct (p0 * 20 + i) / 64))]) ⟨hx, hb, hml, hown, hts⟩ (c_W_weightBetween l dC dI cI cL wy g cA rA mv tl ct p0 y (by omega) (by omega) (by omega)) (cwV 2 hts (wg_V wk_M_101 wm_W_weightBetween we_W_weightBetween wi_W wc_W_weightBetween) rfl rfl rfl (by decide +kernel) ⟨Nat.le_of_ble_eq_true rfl, Nat.le_of_ble_eq_true rfl⟩) hK (hP.sub [1, 2] rfl) (q0 := 0) rfl rfl rfl rfl hl.1 rfl (lv_room (Nat.le_of_ble_eq_true rfl)) d_M_nearestBoundary_58 ⟨Nat.zero_le _, Nat.zero_le _⟩ hS hP (fun H locs hP hS => ?_)
              refine nr_icmp_ge (by omega) (by omega) (tgt := 66) hx hb d_M_nearestBoundary_61 (by decide) (fun c_61 => ?_) (fun c_61 => ?_)
              · have hb2 : some y = ng_nb bd ct p0 (i + 1) := hbo.trans (ng_nb_f (fun q => by have := q.2.2 y hbo.symm; omega)).symm
                refine lv_iinc (v := (nI (i + 1))) (lv' := [(3, .int (nI (i + 1))), (0, .ref mt), (1, .int (nI p0)), (2, .int (nI y))]) hx hb d_M_nearestBoundary_66 hl (k := 3) rfl (nI_1 i) (by decide) rfl (fun ls hl => ?_)
                refine lv_goto (tgt := 4) hx hb d_M_nearestBoundary_69 (by decide) ?_
                exact ih_4 (i + 1) (some y) (by omega) hb2 (by omega) _ _ hP hS ls (lv_sub hl [1, 2, 3, 0] rfl)
              · have hb2 : some i = ng_nb bd ct p0 (i + 1) := (ng_nb_t c_23 (by simpa using c_35) (fun z hz => by rw [← hbo] at hz; cases hz; exact c_61)).symm
                refine lv_iload_n hx hb d_M_nearestBoundary_64 rfl (lv_at hl 3 rfl) ?_
                refine lv_istore_n (lv' := [(2, .int (nI i)), (0, .ref mt), (1, .int (nI p0)), (3, .int (nI i))]) hx hb d_M_nearestBoundary_65 rfl hl (by decide) rfl (fun ls hl => ?_)
                refine lv_iinc (v := (nI (i + 1))) (lv' := [(3, .int (nI (i + 1))), (2, .int (nI i)), (0, .ref mt), (1, .int (nI p0))]) hx hb d_M_nearestBoundary_66 hl (k := 3) rfl (nI_1 i) (by decide) rfl (fun ls hl => ?_)
                refine lv_goto (tgt := 4) hx hb d_M_nearestBoundary_69 (by decide) ?_
                exact ih_4 (i + 1) (some i) (by omega) hb2 (by omega) _ _ hP hS ls (lv_sub hl [2, 3, 1, 0] rfl)
  exact lp_4 (np - 0 + 1) 0 none (by omega) rfl (Nat.lt_succ_self _) _ _ hP hS ls (lv_sub hl [2, 3, 1, 0] rfl)
set_option maxHeartbeats 4000000 in
set_option maxRecDepth 100000 in
theorem c_M_layRow (l : Launch) (dC : Nat → ClassId) (dI : Nat → Nat → Nat) (cI cL : ClassId) (g tA oA uA wA sA np ne : Nat) (bd : Int32) (er : Int64) (vr : Nat) (wy cA rA : Nat) (mv : Int32) (tl : Nat) (mt xA nA pA qA kA rl : Nat) (ct row : Nat → Nat) (nr : Nat → Option Nat) (fi : Int32) (hnp : np ≤ 20) (hfl : (ng_rw fi np).length ≤ 10) (hct : ∀ i, i < 400 → ct i ≤ dm_FAR) (hcf : ∀ a b, a < np → b < np → ct (a * 20 + b) = dm_FAR ∨ ct (a * 20 + b) ≤ 1300000000) : Met l y_M_layRow w_M_layRow ({ frames := 3, cells := 0, slots := 0, locals := 66 } : Room) (va_Pc [.ref mt, .int fi] (rw_B (dC, dI) classes [(cI, .int), (cL, .long)] [cg_G g tA oA uA wA sA np ne bd er vr, cg_W wy g cA rA mv tl, cg_L cA cL 400 ct, cg_M mt g wy xA nA pA qA kA rl, cg_N xA cI 10 row, cg_O nA cI 10 nr])) (rw_Qv (dC, dI) classes (rw_A [cg_G g tA oA uA wA sA np ne bd er vr, cg_W wy g cA rA mv tl, cg_L cA cL 400 ct, cg_M mt g wy xA nA pA qA kA rl, cg_N xA cI 10 row, cg_O nA cI 10 nr]) (fun (u : (Nat → Nat) × (Nat → Option Nat)) => (∀ i, i < (ng_rw fi np).length → (ng_rw fi np)[i]? = some (u.1 i)) ∧ (∀ i, i < (ng_rw fi np).length → u.2 i = ng_nb bd ct (u.1 i) np)) (fun u => [cg_G g tA oA uA wA sA np ne bd er vr, cg_W wy g cA rA mv tl, cg_L cA cL 400 ct, cg_M mt g wy xA nA pA qA kA ((ng_rw fi np).length), cg_N xA cI 10 u.1, cg_O nA cI 10 u.2])) 0 0 (rw_A [cg_G g tA oA uA wA sA np ne bd er vr, cg_W wy g cA rA mv tl, cg_L cA cL 400 ct, cg_M mt g wy xA nA pA qA kA rl, cg_N xA cI 10 row, cg_O nA cI 10 nr]) := by
  refine Met.ofW (cc := b_M_layRow) (maxL := 3) (ret := none) (by decide) rfl ?_
  intro p e s m args below meth c s₁ B hml hv
  obtain ⟨rfl, hP, hK, hD0⟩ := hv
  have hx := B.exec
  have hb := B.bytes
  have hr := B.returns
  have hts := atoms_spec (ws := w_M_layRow) B.pre
  have hown : s.vm.findClass R_M = some m.cls := findClass_of_methodNamed B.named
  have hlocks := B.notSynchronized
  have iG : ∀ w ∈ w_G, w ∈ w_M_layRow := fun w h => List.mem_cons_of_mem _ (i_G w h)
  have iM : ∀ w ∈ w_M, w ∈ w_M_layRow := fun w h => List.mem_cons_of_mem _ (i_M w h)
  have hD := rw_own hD0
  generalize hAe : rw_A [cg_G g tA oA uA wA sA np ne bd er vr, cg_W wy g cA rA mv tl, cg_L cA cL 400 ct, cg_M mt g wy xA nA pA qA kA rl, cg_N xA cI 10 row, cg_O nA cI 10 nr] = A at hD ⊢
  have hS : va_S A s.heap s.heap [] := va_S.rf
  have hP : va_P (dC, dI) classes [cg_G g tA oA uA wA sA np ne bd er vr, cg_W wy g cA rA mv tl, cg_L cA cL 400 ct, cg_M mt g wy xA nA pA qA kA rl, cg_N xA cI 10 row, cg_O nA cI 10 nr] s.heap := hP
  have hl := lv_entry ([.ref mt, .int fi]) (n := 3) (Nat.le_of_ble_eq_true rfl)
  rw [lg_entry_eq]
  generalize (lg_sl ([.ref mt, .int fi]) ++ List.replicate (3 - (lg_sl ([.ref mt, .int fi])).length) Slot.unset).toArray = ls at hl ⊢
  have hl : lv_has ls 3 [(0, .ref mt), (1, .int fi)] := hl
  refine lv_aload_n hx hb d_M_layRow_0 rfl (lv_at hl 0 rfl) ?_
  refine lv_iconst (v := nI 0) hx hb d_M_layRow_1 (by decide) ?_
  refine va_put (D := (dC, dI)) (ci := 3) (v := .int (nI 0)) (ty := .int) (C := R_M) (T := F_M) (N := 8) hx hb hts iM t_M t_M_ok n_M hown hK hP hD hS 3 rfl rfl 7 (by decide) (hts _ (List.mem_cons_of_mem _ wk_M_27)) (fun _ h9 => h9) rfl (by decide +kernel) rfl rfl (Nat.le_of_ble_eq_true rfl) d_M_layRow_2 (fun H locs hP hD hS => ?_)
  have hP : va_P (dC, dI) classes [cg_G g tA oA uA wA sA np ne bd er vr, cg_W wy g cA rA mv tl, cg_L cA cL 400 ct, cg_M mt g wy xA nA pA qA kA 0, cg_N xA cI 10 row, cg_O nA cI 10 nr] H := hP
  have hD : va_D A [cg_G g tA oA uA wA sA np ne bd er vr, cg_W wy g cA rA mv tl, cg_L cA cL 400 ct, cg_M mt g wy xA nA pA qA kA 0, cg_N xA cI 10 row, cg_O nA cI 10 nr] := hD
  refine lv_iconst (v := nI 0) hx hb d_M_layRow_5 (by decide) ?_
  refine lv_istore_n (lv' := [(2, .int (nI 0)), (0, .ref mt), (1, .int fi)]) hx hb d_M_layRow_6 rfl hl (by decide) rfl (fun ls hl => ?_)
  have lp_7 : ∀ (n : Nat) (i rl1 : Nat) (row1 : Nat → Nat) (nr1 : Nat → Option Nat), (i ≤ np) → (rl1 = (ng_rw fi i).length) → (∀ j, j < rl1 → (ng_rw fi i)[j]? = some (row1 j)) → (∀ j, j < rl1 → nr1 j = ng_nb bd ct (row1 j) np) → np - i < n → ∀ (H : Heap) (locs : List Loc), va_P (dC, dI) classes [cg_G g tA oA uA wA sA np ne bd er vr, cg_W wy g cA rA mv tl, cg_L cA cL 400 ct, cg_M mt g wy xA nA pA qA kA rl1, cg_N xA cI 10 row1, cg_O nA cI 10 nr1] H → va_D A [cg_G g tA oA uA wA sA np ne bd er vr, cg_W wy g cA rA mv tl, cg_L cA cL 400 ct, cg_M mt g wy xA nA pA qA kA rl1, cg_N xA cI 10 row1, cg_O nA cI 10 nr1] → va_S A s.heap H locs → ∀ (ls : Array Slot), lv_has ls 3 [(0, .ref mt), (1, .int fi), (2, .int (nI i))] → W p l e (headSpec w_M_layRow ({ frames := 3, cells := 0, slots := 0, locals := 66 } : Room)).room s m ([.ref mt, .int fi] : List Value).toArray below meth c H locs 0 0 (MQ below (rw_Qv (dC, dI) classes A (fun (u : (Nat → Nat) × (Nat → Option Nat)) => (∀ i, i < (ng_rw fi np).length → (ng_rw fi np)[i]? = some (u.1 i)) ∧ (∀ i, i < (ng_rw fi np).length → u.2 i = ng_nb bd ct (u.1 i) np)) (fun u => [cg_G g tA oA uA wA sA np ne bd er vr, cg_W wy g cA rA mv tl, cg_L cA cL 400 ct, cg_M mt g wy xA nA pA qA kA ((ng_rw fi np).length), cg_N xA cI 10 u.1, cg_O nA cI 10 u.2])) ([.ref mt, .int fi] : List Value).toArray s 0 0 A) (F0 m 7 ls []) := by
    intro n
    induction n with
    | zero => intro i rl1 row1 nr1 hi hrl h1 h2 hme; exact absurd hme (Nat.not_lt_zero _)
    | succ n ih =>
      intro i rl1 row1 nr1 hi hrl h1 h2 hme H locs hP hD hS ls hl
      have ih_7 := ih
      refine lv_iload_n hx hb d_M_layRow_7 rfl (lv_at hl 2 rfl) ?_
      refine lv_aload_n hx hb d_M_layRow_8 rfl (lv_at hl 0 rfl) ?_
      refine va_get (D := (dC, dI)) (ci := 3) (v := .ref g) (C := R_M) (T := F_M) (N := 8) hx hb hts iM hown hK hP 3 rfl rfl 0 (by decide) (hts _ (List.mem_cons_of_mem _ wk_M_31)) (fun _ h9 => h9) rfl d_M_layRow_9 ?_
      refine va_get (D := (dC, dI)) (ci := 0) (v := .int (nI np)) (C := R_G) (T := F_G) (N := 10) hx hb hts iG hown hK hP 0 rfl rfl 5 (by decide) (hts _ (List.mem_cons_of_mem _ wk_M_84)) (fun _ h9 => h9) rfl d_M_layRow_12 ?_
      refine nr_icmp_ge (by omega) (by omega) (tgt := 76) hx hb d_M_layRow_15 (by decide) (fun c_15 => ?_) (fun c_15 => ?_)
      · have e9 : ng_rw fi np = ng_rw fi i := by rw [show i = np by omega]
        rw [e9, ← hrl]
        exact rw_vret (row1, nr1) hx hb hr hlocks hS hP (⟨fun j hj => h1 j hj, fun j hj => h2 j hj⟩) d_M_layRow_76
      · have hr10 : rl1 ≤ 10 := by have := ng_rw_mono (fi := fi) hi; omega
        refine lv_aload_n hx hb d_M_layRow_18 rfl (lv_at hl 0 rfl) ?_
        refine va_get (D := (dC, dI)) (ci := 3) (v := .int (nI rl1)) (C := R_M) (T := F_M) (N := 8) hx hb hts iM hown hK hP 3 rfl rfl 7 (by decide) (hts _ (List.mem_cons_of_mem _ wk_M_27)) (fun _ h9 => h9) rfl d_M_layRow_19 ?_
        refine lv_bipush (v := nI 10) hx hb d_M_layRow_22 (by decide) ?_
        refine nr_icmp_ge (by omega) (by omega) (tgt := 76) hx hb d_M_layRow_24 (by decide) (fun c_24 => ?_) (fun c_24 => ?_)
        · have e9 : ng_rw fi np = ng_rw fi i := ng_rw_same hi (by omega)
          rw [e9, ← hrl]
          exact rw_vret (row1, nr1) hx hb hr hlocks hS hP (⟨fun j hj => h1 j hj, fun j hj => h2 j hj⟩) d_M_layRow_76
        · have hmo := ng_rw_mono (fi := fi) (show i + 1 ≤ np by omega)
          refine lv_iload_n hx hb d_M_layRow_27 rfl (lv_at hl 1 rfl) ?_
          refine lv_iload_n hx hb d_M_layRow_28 rfl (lv_at hl 2 rfl) ?_
          refine lv_ishr hx hb d_M_layRow_29 ?_
          refine lv_iconst (v := nI 1) hx hb d_M_layRow_30 (by decide) ?_
          refine lv_iand hx hb d_M_layRow_31 ?_
          refine nr_as (v := nb_i (nb_t fi i)) (nb_bt_and1 (by omega)) ?_
          refine lv_iconst (v := nI 1) hx hb d_M_layRow_32 (by decide) ?_
          refine nr_icmpneB1 (tgt := 70) hx hb d_M_layRow_33 (by decide) (fun c_33 => ?_) (fun c_33 => ?_)
          · have e8 := ng_rw_f c_33
            have hrl2 : rl1 = (ng_rw fi (i + 1)).length := by rw [e8]; exact hrl
            have h12 : ∀ j, j < rl1 → (ng_rw fi (i + 1))[j]? = some (row1 j) := by rw [e8]; exact h1
            have h22 := h2
            refine lv_iinc (v := (nI (i + 1))) (lv' := [(2, .int (nI (i + 1))), (0, .ref mt), (1, .int fi)]) hx hb d_M_layRow_70 hl (k := 2) rfl (nI_1 i) (by decide) rfl (fun ls hl => ?_)
            refine lv_goto (tgt := 7) hx hb d_M_layRow_73 (by decide) ?_
            exact ih_7 (i + 1) rl1 row1 nr1 (by omega) hrl2 h12 h22 (by omega) _ _ hP hD hS ls (lv_sub hl [1, 2, 0] rfl)
          · have e8 := ng_rw_t c_33
            have hrl2 : rl1 + 1 = (ng_rw fi (i + 1)).length := by rw [e8, List.length_append]; simp; exact hrl
            have h12 := ng_row1 hrl e8 h1
            have h22 := ng_row2 (F := fun q => ng_nb bd ct q np) (v := ng_nb bd ct i np) (x := i) rfl h2
            refine lv_aload_n hx hb d_M_layRow_36 rfl (lv_at hl 0 rfl) ?_
            refine va_get (D := (dC, dI)) (ci := 3) (v := .ref xA) (C := R_M) (T := F_M) (N := 8) hx hb hts iM hown hK hP 3 rfl rfl 2 (by decide) (hts _ (List.mem_cons_of_mem _ wk_M_9)) (fun _ h9 => h9) rfl d_M_layRow_37 ?_
            refine lv_aload_n hx hb d_M_layRow_40 rfl (lv_at hl 0 rfl) ?_
            refine va_get (D := (dC, dI)) (ci := 3) (v := .int (nI rl1)) (C := R_M) (T := F_M) (N := 8) hx hb hts iM hown hK hP 3 rfl rfl 7 (by decide) (hts _ (List.mem_cons_of_mem _ wk_M_27)) (fun _ h9 => h9) rfl d_M_layRow_41 ?_
            refine lv_iload_n hx hb d_M_layRow_44 rfl (lv_at hl 2 rfl) ?_
            refine nr_iast hx hb hK hP hD hS 4 0 rfl rfl (by omega) (by decide) d_M_layRow_45 (fun H locs hP hD hS => ?_)
            have hP : va_P (dC, dI) classes [cg_G g tA oA uA wA sA np ne bd er vr, cg_W wy g cA rA mv tl, cg_L cA cL 400 ct, cg_M mt g wy xA nA pA qA kA rl1, cg_N xA cI 10 (va_up row1 rl1 i), cg_O nA cI 10 nr1] H := hP
            have hD : va_D A [cg_G g tA oA uA wA sA np ne bd er vr, cg_W wy g cA rA mv tl, cg_L cA cL 400 ct, cg_M mt g wy xA nA pA qA kA rl1, cg_N xA cI 10 (va_up row1 rl1 i), cg_O nA cI 10 nr1] := hD
            refine lv_aload_n hx hb d_M_layRow_46 rfl (lv_at hl 0 rfl) ?_
            refine va_get (D := (dC, dI)) (ci := 3) (v := .ref nA) (C := R_M) (T := F_M) (N := 8) hx hb hts iM hown hK hP 3 rfl rfl 3 (by decide) (hts _ (List.mem_cons_of_mem _ wk_M_15)) (fun _ h9 => h9) rfl d_M_layRow_47 ?_
            refine lv_aload_n hx hb d_M_layRow_50 rfl (lv_at hl 0 rfl) ?_
            refine va_get (D := (dC, dI)) (ci := 3) (v := .int (nI rl1)) (C := R_M) (T := F_M) (N := 8) hx hb hts iM hown hK hP 3 rfl rfl 7 (by decide) (hts _ (List.mem_cons_of_mem _ wk_M_27)) (fun _ h9 => h9) rfl d_M_layRow_51 ?_
            refine lv_aload_n hx hb d_M_layRow_54 rfl (lv_at hl 0 rfl) ?_
            refine lv_iload_n hx hb d_M_layRow_55 rfl (lv_at hl 2 rfl) ?_
            refine ro_Vi (As := [.int (nI i)]) (rest := [.int (nI rl1), .ref nA]) ⟨hx, hb, hml, hown, hts⟩ (c_M_nearestBoundary l dC dI cI cL g tA oA uA wA sA np ne bd er vr wy cA rA mv tl mt xA nA pA qA kA rl1 ct i (by omega) (by omega) (by omega) (by omega)) (cwV 1 hts (wg_V wk_M_89 wm_M_nearestBoundary we_M_nearestBoundary wi_M wc_M_nearestBoundary) rfl rfl rfl (by decide +kernel) ⟨Nat.le_of_ble_eq_true rfl, Nat.le_of_ble_eq_true rfl⟩) hK (hP.sub [0, 1, 2, 3] rfl) (q0 := 3) rfl rfl rfl rfl hl.1 rfl (lv_room (Nat.le_of_ble_eq_true rfl)) d_M_layRow_56 ⟨Nat.zero_le _, Nat.zero_le _⟩ hS hP (fun H locs hP hS => ?_)
            refine nr_oast (x := (ng_nb bd ct i np)) hx hb hK hP hD hS 5 0 rfl rfl (by omega) (by decide) d_M_layRow_59 (fun H locs hP hD hS => ?_)
            have hP : va_P (dC, dI) classes [cg_G g tA oA uA wA sA np ne bd er vr, cg_W wy g cA rA mv tl, cg_L cA cL 400 ct, cg_M mt g wy xA nA pA qA kA rl1, cg_N xA cI 10 (va_up row1 rl1 i), cg_O nA cI 10 (va_up nr1 rl1 (ng_nb bd ct i np))] H := hP
            have hD : va_D A [cg_G g tA oA uA wA sA np ne bd er vr, cg_W wy g cA rA mv tl, cg_L cA cL 400 ct, cg_M mt g wy xA nA pA qA kA rl1, cg_N xA cI 10 (va_up row1 rl1 i), cg_O nA cI 10 (va_up nr1 rl1 (ng_nb bd ct i np))] := hD
            refine lv_aload_n hx hb d_M_layRow_60 rfl (lv_at hl 0 rfl) ?_
            refine lv_dup hx hb d_M_layRow_61 rfl ?_
            refine va_get (D := (dC, dI)) (ci := 3) (v := .int (nI rl1)) (C := R_M) (T := F_M) (N := 8) hx hb hts iM hown hK hP 3 rfl rfl 7 (by decide) (hts _ (List.mem_cons_of_mem _ wk_M_27)) (fun _ h9 => h9) rfl d_M_layRow_62 ?_
            refine lv_iconst (v := nI 1) hx hb d_M_layRow_65 (by decide) ?_
            refine nr_iadd hx hb d_M_layRow_66 ?_
            refine va_put (D := (dC, dI)) (ci := 3) (v := .int (nI (rl1 + 1))) (ty := .int) (C := R_M) (T := F_M) (N := 8) hx hb hts iM t_M t_M_ok n_M hown hK hP hD hS 3 rfl rfl 7 (by decide) (hts _ (List.mem_cons_of_mem _ wk_M_27)) (fun _ h9 => h9) rfl (by decide +kernel) rfl rfl (Nat.le_of_ble_eq_true rfl) d_M_layRow_67 (fun H locs hP hD hS => ?_)
            have hP : va_P (dC, dI) classes [cg_G g tA oA uA wA sA np ne bd er vr, cg_W wy g cA rA mv tl, cg_L cA cL 400 ct, cg_M mt g wy xA nA pA qA kA (rl1 + 1), cg_N xA cI 10 (va_up row1 rl1 i), cg_O nA cI 10 (va_up nr1 rl1 (ng_nb bd ct i np))] H := hP
            have hD : va_D A [cg_G g tA oA uA wA sA np ne bd er vr, cg_W wy g cA rA mv tl, cg_L cA cL 400 ct, cg_M mt g wy xA nA pA qA kA (rl1 + 1), cg_N xA cI 10 (va_up row1 rl1 i), cg_O nA cI 10 (va_up nr1 rl1 (ng_nb bd ct i np))] := hD
            refine lv_iinc (v := (nI (i + 1))) (lv' := [(2, .int (nI (i + 1))), (0, .ref mt), (1, .int fi)]) hx hb d_M_layRow_70 hl (k := 2) rfl (nI_1 i) (by decide) rfl (fun ls hl => ?_)
            refine lv_goto (tgt := 7) hx hb d_M_layRow_73 (by decide) ?_
            exact ih_7 (i + 1) (rl1 + 1) (va_up row1 rl1 i) (va_up nr1 rl1 (ng_nb bd ct i np)) (by omega) hrl2 h12 h22 (by omega) _ _ hP hD hS ls (lv_sub hl [1, 2, 0] rfl)
  exact lp_7 (np - 0 + 1) 0 0 row nr (by omega) rfl (fun j h => absurd h (Nat.not_lt_zero _)) (fun j h => absurd h (Nat.not_lt_zero _)) (Nat.lt_succ_self _) _ _ hP hD hS ls (lv_sub hl [1, 2, 0] rfl)
set_option maxHeartbeats 4000000 in
set_option maxRecDepth 100000 in
theorem c_M_weighPairs (l : Launch) (dC : Nat → ClassId) (dI : Nat → Nat → Nat) (cI cL : ClassId) (g tA oA uA wA sA np ne : Nat) (bd : Int32) (er : Int64) (vr : Nat) (wy cA rA : Nat) (mv : Int32) (tl : Nat) (mt xA nA pA qA kA rl : Nat) (ct row pw : Nat → Nat) (nr : Nat → Option Nat) (hnp : np ≤ 20) (hrl : rl ≤ 10) (hrow : ∀ j, j < rl → row j < np) (hnr : ∀ j y, j < rl → nr j = some y → y < np) (hpw : ∀ i, i < 100 → pw i ≤ ng_F1) (hct : ∀ i, i < 400 → ct i ≤ dm_FAR) (hcf : ∀ a b, a < np → b < np → ct (a * 20 + b) = dm_FAR ∨ ct (a * 20 + b) ≤ 1300000000) : Met l y_M_weighPairs w_M_weighPairs ({ frames := 2, cells := 0, slots := 0, locals := 43 } : Room) (va_Pc [.ref mt] (rw_B (dC, dI) classes [(cI, .int), (cL, .long)] [cg_G g tA oA uA wA sA np ne bd er vr, cg_W wy g cA rA mv tl, cg_L cA cL 400 ct, cg_M mt g wy xA nA pA qA kA rl, cg_N xA cI 10 row, cg_O nA cI 10 nr, cg_N pA cI 100 pw])) (rw_Qv (dC, dI) classes (rw_A [cg_G g tA oA uA wA sA np ne bd er vr, cg_W wy g cA rA mv tl, cg_L cA cL 400 ct, cg_M mt g wy xA nA pA qA kA rl, cg_N xA cI 10 row, cg_O nA cI 10 nr, cg_N pA cI 100 pw]) (fun (u : (Nat → Nat)) => (∀ a b, a ≤ b → b < rl → u (a * 10 + b) = ng_pv ct row nr a b) ∧ (∀ i, i < 100 → u i ≤ ng_F1)) (fun u => [cg_G g tA oA uA wA sA np ne bd er vr, cg_W wy g cA rA mv tl, cg_L cA cL 400 ct, cg_M mt g wy xA nA pA qA kA rl, cg_N xA cI 10 row, cg_O nA cI 10 nr, cg_N pA cI 100 u])) 0 0 (rw_A [cg_G g tA oA uA wA sA np ne bd er vr, cg_W wy g cA rA mv tl, cg_L cA cL 400 ct, cg_M mt g wy xA nA pA qA kA rl, cg_N xA cI 10 row, cg_O nA cI 10 nr, cg_N pA cI 100 pw]) := by
  refine Met.ofW (cc := b_M_weighPairs) (maxL := 4) (ret := none) (by decide) rfl ?_
  intro p e s m args below meth c s₁ B hml hv
  obtain ⟨rfl, hP, hK, hD0⟩ := hv
  have hx := B.exec
  have hb := B.bytes
  have hr := B.returns
  have hts := atoms_spec (ws := w_M_weighPairs) B.pre
  have hown : s.vm.findClass R_M = some m.cls := findClass_of_methodNamed B.named
  have hlocks := B.notSynchronized
  have iM : ∀ w ∈ w_M, w ∈ w_M_weighPairs := fun w h => List.mem_cons_of_mem _ (i_M w h)
  have hD := rw_own hD0
  generalize hAe : rw_A [cg_G g tA oA uA wA sA np ne bd er vr, cg_W wy g cA rA mv tl, cg_L cA cL 400 ct, cg_M mt g wy xA nA pA qA kA rl, cg_N xA cI 10 row, cg_O nA cI 10 nr, cg_N pA cI 100 pw] = A at hD ⊢
  have hS : va_S A s.heap s.heap [] := va_S.rf
  have hP : va_P (dC, dI) classes [cg_G g tA oA uA wA sA np ne bd er vr, cg_W wy g cA rA mv tl, cg_L cA cL 400 ct, cg_M mt g wy xA nA pA qA kA rl, cg_N xA cI 10 row, cg_O nA cI 10 nr, cg_N pA cI 100 pw] s.heap := hP
  have hl := lv_entry ([.ref mt]) (n := 4) (Nat.le_of_ble_eq_true rfl)
  rw [lg_entry_eq]
  generalize (lg_sl ([.ref mt]) ++ List.replicate (4 - (lg_sl ([.ref mt])).length) Slot.unset).toArray = ls at hl ⊢
  have hl : lv_has ls 4 [(0, .ref mt)] := hl
  have hF1 : ng_F1 = 1000000000 := rfl
  have hFAR : dm_FAR = 1000000000000 := rfl
  refine lv_iconst (v := nI 0) hx hb d_M_weighPairs_0 (by decide) ?_
  refine lv_istore_n (lv' := [(1, .int (nI 0)), (0, .ref mt)]) hx hb d_M_weighPairs_1 rfl hl (by decide) rfl (fun ls hl => ?_)
  have lp_2 : ∀ (n : Nat) (i : Nat) (pw1 : Nat → Nat), (i ≤ rl) → ((∀ a b, a ≤ b → b < rl → a < i → pw1 (a * 10 + b) = ng_pv ct row nr a b)) → (∀ i, i < 100 → pw1 i ≤ ng_F1) → rl - i < n → ∀ (H : Heap) (locs : List Loc), va_P (dC, dI) classes [cg_G g tA oA uA wA sA np ne bd er vr, cg_W wy g cA rA mv tl, cg_L cA cL 400 ct, cg_M mt g wy xA nA pA qA kA rl, cg_N xA cI 10 row, cg_O nA cI 10 nr, cg_N pA cI 100 pw1] H → va_D A [cg_G g tA oA uA wA sA np ne bd er vr, cg_W wy g cA rA mv tl, cg_L cA cL 400 ct, cg_M mt g wy xA nA pA qA kA rl, cg_N xA cI 10 row, cg_O nA cI 10 nr, cg_N pA cI 100 pw1] → va_S A s.heap H locs → ∀ (ls : Array Slot), lv_has ls 4 [(0, .ref mt), (1, .int (nI i))] → W p l e (headSpec w_M_weighPairs ({ frames := 2, cells := 0, slots := 0, locals := 43 } : Room)).room s m ([.ref mt] : List Value).toArray below meth c H locs 0 0 (MQ below (rw_Qv (dC, dI) classes A (fun (u : (Nat → Nat)) => (∀ a b, a ≤ b → b < rl → u (a * 10 + b) = ng_pv ct row nr a b) ∧ (∀ i, i < 100 → u i ≤ ng_F1)) (fun u => [cg_G g tA oA uA wA sA np ne bd er vr, cg_W wy g cA rA mv tl, cg_L cA cL 400 ct, cg_M mt g wy xA nA pA qA kA rl, cg_N xA cI 10 row, cg_O nA cI 10 nr, cg_N pA cI 100 u])) ([.ref mt] : List Value).toArray s 0 0 A) (F0 m 2 ls []) := by
    intro n
    induction n with
    | zero => intro i pw1 hi ho hf1 hme; exact absurd hme (Nat.not_lt_zero _)
    | succ n ih =>
      intro i pw1 hi ho hf1 hme H locs hP hD hS ls hl
      have ih_2 := ih
      refine lv_iload_n hx hb d_M_weighPairs_2 rfl (lv_at hl 1 rfl) ?_
      refine lv_aload_n hx hb d_M_weighPairs_3 rfl (lv_at hl 0 rfl) ?_
      refine va_get (D := (dC, dI)) (ci := 3) (v := .int (nI rl)) (C := R_M) (T := F_M) (N := 8) hx hb hts iM hown hK hP 3 rfl rfl 7 (by decide) (hts _ (List.mem_cons_of_mem _ wk_M_27)) (fun _ h9 => h9) rfl d_M_weighPairs_4 ?_
      refine nr_icmp_ge (by omega) (by omega) (tgt := 91) hx hb d_M_weighPairs_7 (by decide) (fun c_7 => ?_) (fun c_7 => ?_)
      · exact rw_vret pw1 hx hb hr hlocks hS hP (⟨fun a b h1 h2 => ho a b h1 h2 (by omega), hf1⟩) d_M_weighPairs_91
      · have hri := hrow i c_7
        refine lv_iload_n hx hb d_M_weighPairs_10 rfl (lv_at hl 1 rfl) ?_
        refine lv_istore_n (lv' := [(2, .int (nI i)), (0, .ref mt), (1, .int (nI i))]) hx hb d_M_weighPairs_11 rfl hl (by decide) rfl (fun ls hl => ?_)
        have lp_12 : ∀ (n : Nat) (j : Nat) (pw1 : Nat → Nat), (j ≤ rl) → (i ≤ j) → ((∀ a b, a ≤ b → b < rl → (a < i ∨ (a = i ∧ b < j)) → pw1 (a * 10 + b) = ng_pv ct row nr a b)) → (∀ i, i < 100 → pw1 i ≤ ng_F1) → rl - j < n → ∀ (H : Heap) (locs : List Loc), va_P (dC, dI) classes [cg_G g tA oA uA wA sA np ne bd er vr, cg_W wy g cA rA mv tl, cg_L cA cL 400 ct, cg_M mt g wy xA nA pA qA kA rl, cg_N xA cI 10 row, cg_O nA cI 10 nr, cg_N pA cI 100 pw1] H → va_D A [cg_G g tA oA uA wA sA np ne bd er vr, cg_W wy g cA rA mv tl, cg_L cA cL 400 ct, cg_M mt g wy xA nA pA qA kA rl, cg_N xA cI 10 row, cg_O nA cI 10 nr, cg_N pA cI 100 pw1] → va_S A s.heap H locs → ∀ (ls : Array Slot), lv_has ls 4 [(0, .ref mt), (1, .int (nI i)), (2, .int (nI j))] → W p l e (headSpec w_M_weighPairs ({ frames := 2, cells := 0, slots := 0, locals := 43 } : Room)).room s m ([.ref mt] : List Value).toArray below meth c H locs 0 0 (MQ below (rw_Qv (dC, dI) classes A (fun (u : (Nat → Nat)) => (∀ a b, a ≤ b → b < rl → u (a * 10 + b) = ng_pv ct row nr a b) ∧ (∀ i, i < 100 → u i ≤ ng_F1)) (fun u => [cg_G g tA oA uA wA sA np ne bd er vr, cg_W wy g cA rA mv tl, cg_L cA cL 400 ct, cg_M mt g wy xA nA pA qA kA rl, cg_N xA cI 10 row, cg_O nA cI 10 nr, cg_N pA cI 100 u])) ([.ref mt] : List Value).toArray s 0 0 A) (F0 m 12 ls []) := by
          intro n
          induction n with
          | zero => intro j pw1 hj hij ho2 hf1 hme; exact absurd hme (Nat.not_lt_zero _)
          | succ n ih =>
            intro j pw1 hj hij ho2 hf1 hme H locs hP hD hS ls hl
            have ih_12 := ih
            refine lv_iload_n hx hb d_M_weighPairs_12 rfl (lv_at hl 2 rfl) ?_
            refine lv_aload_n hx hb d_M_weighPairs_13 rfl (lv_at hl 0 rfl) ?_
            refine va_get (D := (dC, dI)) (ci := 3) (v := .int (nI rl)) (C := R_M) (T := F_M) (N := 8) hx hb hts iM hown hK hP 3 rfl rfl 7 (by decide) (hts _ (List.mem_cons_of_mem _ wk_M_27)) (fun _ h9 => h9) rfl d_M_weighPairs_14 ?_
            refine nr_icmp_ge (by omega) (by omega) (tgt := 85) hx hb d_M_weighPairs_17 (by decide) (fun c_17 => ?_) (fun c_17 => ?_)
            · refine lv_iinc (v := (nI (i + 1))) (lv' := [(1, .int (nI (i + 1))), (0, .ref mt), (2, .int (nI j))]) hx hb d_M_weighPairs_85 hl (k := 1) rfl (nI_1 i) (by decide) rfl (fun ls hl => ?_)
              refine lv_goto (tgt := 2) hx hb d_M_weighPairs_88 (by decide) ?_
              exact ih_2 (i + 1) pw1 (by omega) (fun a b h1 h2 h3 => ho2 a b h1 h2 (by omega)) hf1 (by omega) _ _ hP hD hS ls (lv_sub hl [1, 0] rfl)
            · refine lv_aload_n hx hb d_M_weighPairs_20 rfl (lv_at hl 0 rfl) ?_
              refine lv_iload_n hx hb d_M_weighPairs_21 rfl (lv_at hl 1 rfl) ?_
              refine lv_iload_n hx hb d_M_weighPairs_22 rfl (lv_at hl 2 rfl) ?_
              refine ro_Vi (As := [.int (nI i), .int (nI j)]) (rest := []) ⟨hx, hb, hml, hown, hts⟩ (c_M_pointOf l dC dI cI cL mt g wy xA nA pA qA kA rl row nr i j (by omega) (by omega)) (cwV 2 hts (wg_V wk_M_64 wm_M_pointOf we_M_pointOf wi_M wc_M_pointOf) rfl rfl rfl (by decide +kernel) ⟨Nat.le_of_ble_eq_true rfl, Nat.le_of_ble_eq_true rfl⟩) hK (hP.sub [3, 4, 5] rfl) (q0 := 0) rfl rfl rfl rfl hl.1 rfl (lv_room (Nat.le_of_ble_eq_true rfl)) d_M_weighPairs_23 ⟨Nat.zero_le _, Nat.zero_le _⟩ hS hP (fun H locs hP hS => ?_)
              rcases hpt : ng_pt row nr i j with _ | y
              · refine nr_as (v := -1) rfl ?_
                have hvv : ng_F1 = ng_pv ct row nr i j := by rw [ng_pv, hpt]
                have hvb : ng_F1 ≤ ng_F1 := Nat.le_refl _
                refine lv_istore_n (lv' := [(3, .int (-1)), (0, .ref mt), (1, .int (nI i)), (2, .int (nI j))]) hx hb d_M_weighPairs_26 rfl hl (by decide) rfl (fun ls hl => ?_)
                refine lv_aload_n hx hb d_M_weighPairs_27 rfl (lv_at hl 1 rfl) ?_
                refine va_get (D := (dC, dI)) (ci := 3) (v := .ref pA) (C := R_M) (T := F_M) (N := 8) hx hb hts iM hown hK hP 3 rfl rfl 4 (by decide) (hts _ (List.mem_cons_of_mem _ wk_M_18)) (fun _ h9 => h9) rfl d_M_weighPairs_28 ?_
                refine lv_iload_n hx hb d_M_weighPairs_31 rfl (lv_at hl 2 rfl) ?_
                refine lv_bipush (v := nI 10) hx hb d_M_weighPairs_32 (by decide) ?_
                refine nr_imul hx hb d_M_weighPairs_34 ?_
                refine lv_iload_n hx hb d_M_weighPairs_35 rfl (lv_at hl 3 rfl) ?_
                refine nr_iadd hx hb d_M_weighPairs_36 ?_
                refine lv_iload_n hx hb d_M_weighPairs_37 rfl (lv_at hl 0 rfl) ?_
                refine lv_iconst (v := -1) hx hb d_M_weighPairs_38 (by decide) ?_
                refine lv_icmp_eq (tgt := 76) hx hb d_M_weighPairs_39 (by decide) (fun c_39 => ?_) (fun c => absurd rfl c)
                refine lv_ldc (v := 1000000000) hx hb hown (hts _ (List.mem_cons_of_mem _ wk_M_53)) d_M_weighPairs_76 ?_
                refine nr_as (v := nI 1000000000) (by decide) ?_
                refine nr_iast hx hb hK hP hD hS 6 0 rfl rfl (by omega) (by decide) d_M_weighPairs_78 (fun H locs hP hD hS => ?_)
                have hP : va_P (dC, dI) classes [cg_G g tA oA uA wA sA np ne bd er vr, cg_W wy g cA rA mv tl, cg_L cA cL 400 ct, cg_M mt g wy xA nA pA qA kA rl, cg_N xA cI 10 row, cg_O nA cI 10 nr, cg_N pA cI 100 (va_up pw1 ((i * 10) + j) 1000000000)] H := hP
                have hD : va_D A [cg_G g tA oA uA wA sA np ne bd er vr, cg_W wy g cA rA mv tl, cg_L cA cL 400 ct, cg_M mt g wy xA nA pA qA kA rl, cg_N xA cI 10 row, cg_O nA cI 10 nr, cg_N pA cI 100 (va_up pw1 ((i * 10) + j) 1000000000)] := hD
                refine lv_iinc (v := (nI (j + 1))) (lv' := [(2, .int (nI (j + 1))), (3, .int (-1)), (0, .ref mt), (1, .int (nI i))]) hx hb d_M_weighPairs_79 hl (k := 3) rfl (nI_1 j) (by decide) rfl (fun ls hl => ?_)
                refine lv_goto (tgt := 12) hx hb d_M_weighPairs_82 (by decide) ?_
                exact ih_12 (j + 1) (va_up pw1 ((i * 10) + j) 1000000000) (by omega) (by omega) (ng_pws hrl c_7 c_17 hij hvv ho2) (ng_pwf hf1 hvb) (by omega) _ _ hP hD hS ls (lv_sub hl [2, 3, 0] rfl)
              · refine nr_as (v := nI y) rfl ?_
                have hyl : y < np := ng_pt_lt hpt hrow (fun z hz => hnr i z c_7 hz) c_17
                have hcy := hct (row i * 20 + y) (by omega)
                refine lv_istore_n (lv' := [(3, .int (nI y)), (0, .ref mt), (1, .int (nI i)), (2, .int (nI j))]) hx hb d_M_weighPairs_26 rfl hl (by decide) rfl (fun ls hl => ?_)
                refine lv_aload_n hx hb d_M_weighPairs_27 rfl (lv_at hl 1 rfl) ?_
                refine va_get (D := (dC, dI)) (ci := 3) (v := .ref pA) (C := R_M) (T := F_M) (N := 8) hx hb hts iM hown hK hP 3 rfl rfl 4 (by decide) (hts _ (List.mem_cons_of_mem _ wk_M_18)) (fun _ h9 => h9) rfl d_M_weighPairs_28 ?_
                refine lv_iload_n hx hb d_M_weighPairs_31 rfl (lv_at hl 2 rfl) ?_
                refine lv_bipush (v := nI 10) hx hb d_M_weighPairs_32 (by decide) ?_
                refine nr_imul hx hb d_M_weighPairs_34 ?_
                refine lv_iload_n hx hb d_M_weighPairs_35 rfl (lv_at hl 3 rfl) ?_
                refine nr_iadd hx hb d_M_weighPairs_36 ?_
                refine lv_iload_n hx hb d_M_weighPairs_37 rfl (lv_at hl 0 rfl) ?_
                refine lv_iconst (v := -1) hx hb d_M_weighPairs_38 (by decide) ?_
                refine lv_icmp_eq (tgt := 76) hx hb d_M_weighPairs_39 (by decide) (fun c => absurd c (ng_nm1 (by omega))) (fun c_39 => ?_)
                refine lv_aload_n hx hb d_M_weighPairs_42 rfl (lv_at hl 1 rfl) ?_
                refine va_get (D := (dC, dI)) (ci := 3) (v := .ref wy) (C := R_M) (T := F_M) (N := 8) hx hb hts iM hown hK hP 3 rfl rfl 1 (by decide) (hts _ (List.mem_cons_of_mem _ wk_M_35)) (fun _ h9 => h9) rfl d_M_weighPairs_43 ?_
                refine lv_aload_n hx hb d_M_weighPairs_46 rfl (lv_at hl 1 rfl) ?_
                refine va_get (D := (dC, dI)) (ci := 3) (v := .ref xA) (C := R_M) (T := F_M) (N := 8) hx hb hts iM hown hK hP 3 rfl rfl 2 (by decide) (hts _ (List.mem_cons_of_mem _ wk_M_9)) (fun _ h9 => h9) rfl d_M_weighPairs_47 ?_
                refine lv_iload_n hx hb d_M_weighPairs_50 rfl (lv_at hl 2 rfl) ?_
                refine nr_iald hx hb hK hP 4 0 rfl rfl (by omega) (by decide) d_M_weighPairs_51 ?_
                refine lv_iload_n hx hb d_M_weighPairs_52 rfl (lv_at hl 0 rfl) ?_
                refine ro_Vi (As := [.int (nI (row i)), .int (nI y)]) (rest := [.int (nI ((i * 10) + j)), .ref pA]) ⟨hx, hb, hml, hown, hts⟩ (c_W_isThere l dC dI cI cL wy g cA rA mv tl ct (row i) y (by omega) (by omega) (by omega)) (cwV 2 hts (wg_V wk_M_97 wm_W_isThere we_W_isThere wi_W wc_W_isThere) rfl rfl rfl (by decide +kernel) ⟨Nat.le_of_ble_eq_true rfl, Nat.le_of_ble_eq_true rfl⟩) hK (hP.sub [1, 2] rfl) (q0 := 0) rfl rfl rfl rfl hl.1 rfl (lv_room (Nat.le_of_ble_eq_true rfl)) d_M_weighPairs_53 ⟨Nat.zero_le _, Nat.zero_le _⟩ hS hP (fun H locs hP hS => ?_)
                refine nr_ifeqB (tgt := 76) hx hb d_M_weighPairs_56 (by decide) (fun c_56 => ?_) (fun c_56 => ?_)
                · have hvv : ng_F1 = ng_pv ct row nr i j := by rw [ng_pv, hpt]; exact (if_pos (by simpa using c_56)).symm
                  have hvb : ng_F1 ≤ ng_F1 := Nat.le_refl _
                  refine lv_ldc (v := 1000000000) hx hb hown (hts _ (List.mem_cons_of_mem _ wk_M_53)) d_M_weighPairs_76 ?_
                  refine nr_as (v := nI 1000000000) (by decide) ?_
                  refine nr_iast hx hb hK hP hD hS 6 0 rfl rfl (by omega) (by decide) d_M_weighPairs_78 (fun H locs hP hD hS => ?_)
                  have hP : va_P (dC, dI) classes [cg_G g tA oA uA wA sA np ne bd er vr, cg_W wy g cA rA mv tl, cg_L cA cL 400 ct, cg_M mt g wy xA nA pA qA kA rl, cg_N xA cI 10 row, cg_O nA cI 10 nr, cg_N pA cI 100 (va_up pw1 ((i * 10) + j) 1000000000)] H := hP
                  have hD : va_D A [cg_G g tA oA uA wA sA np ne bd er vr, cg_W wy g cA rA mv tl, cg_L cA cL 400 ct, cg_M mt g wy xA nA pA qA kA rl, cg_N xA cI 10 row, cg_O nA cI 10 nr, cg_N pA cI 100 (va_up pw1 ((i * 10) + j) 1000000000)] := hD
                  refine lv_iinc (v := (nI (j + 1))) (lv' := [(2, .int (nI (j + 1))), (3, .int (nI y)), (0, .ref mt), (1, .int (nI i))]) hx hb d_M_weighPairs_79 hl (k := 3) rfl (nI_1 j) (by decide) rfl (fun ls hl => ?_)
                  refine lv_goto (tgt := 12) hx hb d_M_weighPairs_82 (by decide) ?_
                  exact ih_12 (j + 1) (va_up pw1 ((i * 10) + j) 1000000000) (by omega) (by omega) (ng_pws hrl c_7 c_17 hij hvv ho2) (ng_pwf hf1 hvb) (by omega) _ _ hP hD hS ls (lv_sub hl [2, 3, 0] rfl)
                · have hvv : ct (row i * 20 + y) / 64 = ng_pv ct row nr i j := by rw [ng_pv, hpt]; exact (if_neg (by simpa using c_56)).symm
                  have hvb : ct (row i * 20 + y) / 64 ≤ ng_F1 := by have := (hcf (row i) y hri hyl).resolve_left (by simpa using c_56); omega
                  refine lv_aload_n hx hb d_M_weighPairs_59 rfl (lv_at hl 1 rfl) ?_
                  refine va_get (D := (dC, dI)) (ci := 3) (v := .ref wy) (C := R_M) (T := F_M) (N := 8) hx hb hts iM hown hK hP 3 rfl rfl 1 (by decide) (hts _ (List.mem_cons_of_mem _ wk_M_35)) (fun _ h9 => h9) rfl d_M_weighPairs_60 ?_
                  refine lv_aload_n hx hb d_M_weighPairs_63 rfl (lv_at hl 1 rfl) ?_
                  refine va_get (D := (dC, dI)) (ci := 3) (v := .ref xA) (C := R_M) (T := F_M) (N := 8) hx hb hts iM hown hK hP 3 rfl rfl 2 (by decide) (hts _ (List.mem_cons_of_mem _ wk_M_9)) (fun _ h9 => h9) rfl d_M_weighPairs_64 ?_
                  refine lv_iload_n hx hb d_M_weighPairs_67 rfl (lv_at hl 2 rfl) ?_
                  refine nr_iald hx hb hK hP 4 0 rfl rfl (by omega) (by decide) d_M_weighPairs_68 ?_
                  refine lv_iload_n hx hb d_M_weighPairs_69 rfl (lv_at hl 0 rfl) ?_
                  refine ro_Vi (As := [.int (nI (row i)), .int (nI y)]) (rest := [.int (nI ((i * 10) + j)), .ref pA]) ⟨hx, hb, hml, hown, hts⟩ (c_W_weightBetween l dC dI cI cL wy g cA rA mv tl ct (row i) y (by omega) (by omega) (by omega)) (cwV 2 hts (wg_V wk_M_101 wm_W_weightBetween we_W_weightBetween wi_W wc_W_weightBetween) rfl rfl rfl (by decide +kernel) ⟨Nat.le_of_ble_eq_true rfl, Nat.le_of_ble_eq_true rfl⟩) hK (hP.sub [1, 2] rfl) (q0 := 0) rfl rfl rfl rfl hl.1 rfl (lv_room (Nat.le_of_ble_eq_true rfl)) d_M_weighPairs_70 ⟨Nat.zero_le _, Nat.zero_le _⟩ hS hP (fun H locs hP hS => ?_)
                  refine lv_goto (tgt := 78) hx hb d_M_weighPairs_73 (by decide) ?_
                  refine nr_iast hx hb hK hP hD hS 6 0 rfl rfl (by omega) (by decide) d_M_weighPairs_78 (fun H locs hP hD hS => ?_)
                  have hP : va_P (dC, dI) classes [cg_G g tA oA uA wA sA np ne bd er vr, cg_W wy g cA rA mv tl, cg_L cA cL 400 ct, cg_M mt g wy xA nA pA qA kA rl, cg_N xA cI 10 row, cg_O nA cI 10 nr, cg_N pA cI 100 (va_up pw1 ((i * 10) + j) (ct ((row i) * 20 + y) / 64))] H := hP
                  have hD : va_D A [cg_G g tA oA uA wA sA np ne bd er vr, cg_W wy g cA rA mv tl, cg_L cA cL 400 ct, cg_M mt g wy xA nA pA qA kA rl, cg_N xA cI 10 row, cg_O nA cI 10 nr, cg_N pA cI 100 (va_up pw1 ((i * 10) + j) (ct ((row i) * 20 + y) / 64))] := hD
                  refine lv_iinc (v := (nI (j + 1))) (lv' := [(2, .int (nI (j + 1))), (3, .int (nI y)), (0, .ref mt), (1, .int (nI i))]) hx hb d_M_weighPairs_79 hl (k := 3) rfl (nI_1 j) (by decide) rfl (fun ls hl => ?_)
                  refine lv_goto (tgt := 12) hx hb d_M_weighPairs_82 (by decide) ?_
                  exact ih_12 (j + 1) (va_up pw1 ((i * 10) + j) (ct ((row i) * 20 + y) / 64)) (by omega) (by omega) (ng_pws hrl c_7 c_17 hij hvv ho2) (ng_pwf hf1 hvb) (by omega) _ _ hP hD hS ls (lv_sub hl [2, 3, 0] rfl)
        exact lp_12 (rl - i + 1) i pw1 (by omega) (Nat.le_refl _) (fun a b h1 h2 h3 => ho a b h1 h2 (by omega)) hf1 (Nat.lt_succ_self _) _ _ hP hD hS ls (lv_sub hl [1, 2, 0] rfl)
  exact lp_2 (rl - 0 + 1) 0 pw (by omega) (fun a b _ _ h => absurd h (Nat.not_lt_zero _)) hpw (Nat.lt_succ_self _) _ _ hP hD hS ls (lv_sub hl [1, 0] rfl)
set_option maxHeartbeats 4000000 in
set_option maxRecDepth 100000 in
theorem c_M_solveGroup (l : Launch) (dC : Nat → ClassId) (dI : Nat → Nat → Nat) (cI cL : ClassId) (mt g wy xA nA pA qA kA rl : Nat) (pw lw lc : Nat → Nat) (g0 : Nat) (hg : g0 < 1024) (hrl : rl ≤ 10) (hr0 : 0 < rl) (hpw : ∀ i, i < 100 → pw i ≤ ng_F1) (hlw : ∀ i, i < 1024 → lw i ≤ ng_F1) (hlp : ng_lp rl g0 < rl) (hbt : g0.testBit (ng_lp rl g0) = true) : Met l y_M_solveGroup w_M_solveGroup ({ frames := 2, cells := 0, slots := 0, locals := 47 } : Room) (va_Pc [.ref mt, .int (nI g0)] (rw_B (dC, dI) classes [(cI, .int), (cL, .long)] [cg_M mt g wy xA nA pA qA kA rl, cg_N pA cI 100 pw, cg_N qA cI 1024 lw, cg_N kA cI 1024 lc])) (rw_Qv (dC, dI) classes (rw_A [cg_M mt g wy xA nA pA qA kA rl, cg_N pA cI 100 pw, cg_N qA cI 1024 lw, cg_N kA cI 1024 lc]) (fun (u : Unit) => True) (fun u => [cg_M mt g wy xA nA pA qA kA rl, cg_N pA cI 100 pw, cg_N qA cI 1024 (va_up lw g0 (ng_sg pw lw lc g0 (ng_lp rl g0) (rl - ng_lp rl g0)).1), cg_N kA cI 1024 (va_up lc g0 (ng_sg pw lw lc g0 (ng_lp rl g0) (rl - ng_lp rl g0)).2)])) 0 0 (rw_A [cg_M mt g wy xA nA pA qA kA rl, cg_N pA cI 100 pw, cg_N qA cI 1024 lw, cg_N kA cI 1024 lc]) := by
  refine Met.ofW (cc := b_M_solveGroup) (maxL := 4) (ret := none) (by decide) rfl ?_
  intro p e s m args below meth c s₁ B hml hv
  obtain ⟨rfl, hP, hK, hD0⟩ := hv
  have hx := B.exec
  have hb := B.bytes
  have hr := B.returns
  have hts := atoms_spec (ws := w_M_solveGroup) B.pre
  have hown : s.vm.findClass R_M = some m.cls := findClass_of_methodNamed B.named
  have hlocks := B.notSynchronized
  have iM : ∀ w ∈ w_M, w ∈ w_M_solveGroup := fun w h => List.mem_cons_of_mem _ (i_M w h)
  have hD := rw_own hD0
  generalize hAe : rw_A [cg_M mt g wy xA nA pA qA kA rl, cg_N pA cI 100 pw, cg_N qA cI 1024 lw, cg_N kA cI 1024 lc] = A at hD ⊢
  have hS : va_S A s.heap s.heap [] := va_S.rf
  have hP : va_P (dC, dI) classes [cg_M mt g wy xA nA pA qA kA rl, cg_N pA cI 100 pw, cg_N qA cI 1024 lw, cg_N kA cI 1024 lc] s.heap := hP
  have hl := lv_entry ([.ref mt, .int (nI g0)]) (n := 4) (Nat.le_of_ble_eq_true rfl)
  rw [lg_entry_eq]
  generalize (lg_sl ([.ref mt, .int (nI g0)]) ++ List.replicate (4 - (lg_sl ([.ref mt, .int (nI g0)])).length) Slot.unset).toArray = ls at hl ⊢
  have hl : lv_has ls 4 [(0, .ref mt), (1, .int (nI g0))] := hl
  have hF1 : ng_F1 = 1000000000 := rfl
  refine lv_aload_n hx hb d_M_solveGroup_0 rfl (lv_at hl 0 rfl) ?_
  refine lv_iload_n hx hb d_M_solveGroup_1 rfl (lv_at hl 1 rfl) ?_
  refine ro_Vi (As := [.int (nI g0)]) (rest := []) ⟨hx, hb, hml, hown, hts⟩ (c_M_leastPlace l dC dI cI cL mt g wy xA nA pA qA kA rl g0 (by omega) (by omega)) (cwV 1 hts (wg_V wk_M_104 wm_M_leastPlace we_M_leastPlace wi_M wc_M_leastPlace) rfl rfl rfl (by decide +kernel) ⟨Nat.le_of_ble_eq_true rfl, Nat.le_of_ble_eq_true rfl⟩) hK (hP.sub [0] rfl) (q0 := 0) rfl rfl rfl rfl hl.1 rfl (lv_room (Nat.le_of_ble_eq_true rfl)) d_M_solveGroup_2 ⟨Nat.zero_le _, Nat.zero_le _⟩ hS hP (fun H locs hP hS => ?_)
  refine lv_istore_n (lv' := [(2, .int (nI (ng_lp rl g0))), (0, .ref mt), (1, .int (nI g0))]) hx hb d_M_solveGroup_5 rfl hl (by decide) rfl (fun ls hl => ?_)
  refine lv_aload_n hx hb d_M_solveGroup_6 rfl (lv_at hl 1 rfl) ?_
  refine va_get (D := (dC, dI)) (ci := 3) (v := .ref qA) (C := R_M) (T := F_M) (N := 8) hx hb hts iM hown hK hP 0 rfl rfl 5 (by decide) (hts _ (List.mem_cons_of_mem _ wk_M_21)) (fun _ h9 => h9) rfl d_M_solveGroup_7 ?_
  refine lv_iload_n hx hb d_M_solveGroup_10 rfl (lv_at hl 2 rfl) ?_
  refine lv_ldc (v := 1000000000) hx hb hown (hts _ (List.mem_cons_of_mem _ wk_M_53)) d_M_solveGroup_11 ?_
  refine nr_as (v := nI 1000000000) (by decide) ?_
  refine nr_iast hx hb hK hP hD hS 2 0 rfl rfl (by omega) (by decide) d_M_solveGroup_13 (fun H locs hP hD hS => ?_)
  have hP : va_P (dC, dI) classes [cg_M mt g wy xA nA pA qA kA rl, cg_N pA cI 100 pw, cg_N qA cI 1024 (va_up lw g0 1000000000), cg_N kA cI 1024 lc] H := hP
  have hD : va_D A [cg_M mt g wy xA nA pA qA kA rl, cg_N pA cI 100 pw, cg_N qA cI 1024 (va_up lw g0 1000000000), cg_N kA cI 1024 lc] := hD
  refine lv_aload_n hx hb d_M_solveGroup_14 rfl (lv_at hl 1 rfl) ?_
  refine va_get (D := (dC, dI)) (ci := 3) (v := .ref kA) (C := R_M) (T := F_M) (N := 8) hx hb hts iM hown hK hP 0 rfl rfl 6 (by decide) (hts _ (List.mem_cons_of_mem _ wk_M_24)) (fun _ h9 => h9) rfl d_M_solveGroup_15 ?_
  refine lv_iload_n hx hb d_M_solveGroup_18 rfl (lv_at hl 2 rfl) ?_
  refine lv_iconst (v := nI 0) hx hb d_M_solveGroup_19 (by decide) ?_
  refine nr_iast hx hb hK hP hD hS 3 0 rfl rfl (by omega) (by decide) d_M_solveGroup_20 (fun H locs hP hD hS => ?_)
  have hP : va_P (dC, dI) classes [cg_M mt g wy xA nA pA qA kA rl, cg_N pA cI 100 pw, cg_N qA cI 1024 (va_up lw g0 1000000000), cg_N kA cI 1024 (va_up lc g0 0)] H := hP
  have hD : va_D A [cg_M mt g wy xA nA pA qA kA rl, cg_N pA cI 100 pw, cg_N qA cI 1024 (va_up lw g0 1000000000), cg_N kA cI 1024 (va_up lc g0 0)] := hD
  refine lv_iload_n hx hb d_M_solveGroup_21 rfl (lv_at hl 0 rfl) ?_
  refine lv_istore_n (lv' := [(3, .int (nI (ng_lp rl g0))), (2, .int (nI (ng_lp rl g0))), (0, .ref mt), (1, .int (nI g0))]) hx hb d_M_solveGroup_22 rfl hl (by decide) rfl (fun ls hl => ?_)
  have lp_23 : ∀ (n : Nat) (i : Nat) (lw1 lc1 : Nat → Nat), (i ≤ rl) → (ng_lp rl g0 ≤ i) → (lw1 = va_up lw g0 (ng_sg pw lw lc g0 (ng_lp rl g0) (i - ng_lp rl g0)).1) → (lc1 = va_up lc g0 (ng_sg pw lw lc g0 (ng_lp rl g0) (i - ng_lp rl g0)).2) → rl - i < n → ∀ (H : Heap) (locs : List Loc), va_P (dC, dI) classes [cg_M mt g wy xA nA pA qA kA rl, cg_N pA cI 100 pw, cg_N qA cI 1024 lw1, cg_N kA cI 1024 lc1] H → va_D A [cg_M mt g wy xA nA pA qA kA rl, cg_N pA cI 100 pw, cg_N qA cI 1024 lw1, cg_N kA cI 1024 lc1] → va_S A s.heap H locs → ∀ (ls : Array Slot), lv_has ls 4 [(0, .ref mt), (1, .int (nI g0)), (2, .int (nI (ng_lp rl g0))), (3, .int (nI i))] → W p l e (headSpec w_M_solveGroup ({ frames := 2, cells := 0, slots := 0, locals := 47 } : Room)).room s m ([.ref mt, .int (nI g0)] : List Value).toArray below meth c H locs 0 0 (MQ below (rw_Qv (dC, dI) classes A (fun (u : Unit) => True) (fun u => [cg_M mt g wy xA nA pA qA kA rl, cg_N pA cI 100 pw, cg_N qA cI 1024 (va_up lw g0 (ng_sg pw lw lc g0 (ng_lp rl g0) (rl - ng_lp rl g0)).1), cg_N kA cI 1024 (va_up lc g0 (ng_sg pw lw lc g0 (ng_lp rl g0) (rl - ng_lp rl g0)).2)])) ([.ref mt, .int (nI g0)] : List Value).toArray s 0 0 A) (F0 m 23 ls []) := by
    intro n
    induction n with
    | zero => intro i lw1 lc1 hi hpi h1 h2 hme; exact absurd hme (Nat.not_lt_zero _)
    | succ n ih =>
      intro i lw1 lc1 hi hpi h1 h2 hme H locs hP hD hS ls hl
      have ih_23 := ih
      refine lv_iload_n hx hb d_M_solveGroup_23 rfl (lv_at hl 3 rfl) ?_
      refine lv_aload_n hx hb d_M_solveGroup_24 rfl (lv_at hl 0 rfl) ?_
      refine va_get (D := (dC, dI)) (ci := 3) (v := .int (nI rl)) (C := R_M) (T := F_M) (N := 8) hx hb hts iM hown hK hP 0 rfl rfl 7 (by decide) (hts _ (List.mem_cons_of_mem _ wk_M_27)) (fun _ h9 => h9) rfl d_M_solveGroup_25 ?_
      refine nr_icmp_ge (by omega) (by omega) (tgt := 69) hx hb d_M_solveGroup_28 (by decide) (fun c_28 => ?_) (fun c_28 => ?_)
      · have hie : i = rl := by omega
        rw [hie] at h1 h2
        rw [← h1, ← h2]
        exact rw_vret () hx hb hr hlocks hS hP trivial d_M_solveGroup_69
      · refine lv_iload_n hx hb d_M_solveGroup_31 rfl (lv_at hl 1 rfl) ?_
        refine lv_iload_n hx hb d_M_solveGroup_32 rfl (lv_at hl 3 rfl) ?_
        refine lv_ishr hx hb d_M_solveGroup_33 ?_
        refine lv_iconst (v := nI 1) hx hb d_M_solveGroup_34 (by decide) ?_
        refine lv_iand hx hb d_M_solveGroup_35 ?_
        refine nr_as (v := nb_i (nb_t (nI g0) i)) (nb_bt_and1 (by omega)) ?_
        refine lv_iconst (v := nI 1) hx hb d_M_solveGroup_36 (by decide) ?_
        refine nr_icmpneB1 (tgt := 63) hx hb d_M_solveGroup_37 (by decide) (fun c_37 => ?_) (fun c_37 => ?_)
        · have h3 : lw1 = va_up lw g0 (ng_sg pw lw lc g0 (ng_lp rl g0) (i + 1 - ng_lp rl g0)).1 := by rw [ng_sg_f hpi c_37]; exact h1
          have h4 : lc1 = va_up lc g0 (ng_sg pw lw lc g0 (ng_lp rl g0) (i + 1 - ng_lp rl g0)).2 := by rw [ng_sg_f hpi c_37]; exact h2
          refine lv_iinc (v := (nI (i + 1))) (lv' := [(3, .int (nI (i + 1))), (0, .ref mt), (1, .int (nI g0)), (2, .int (nI (ng_lp rl g0)))]) hx hb d_M_solveGroup_63 hl (k := 3) rfl (nI_1 i) (by decide) rfl (fun ls hl => ?_)
          refine lv_goto (tgt := 23) hx hb d_M_solveGroup_66 (by decide) ?_
          exact ih_23 (i + 1) lw1 lc1 (by omega) (by omega) h3 h4 (by omega) _ _ hP hD hS ls (lv_sub hl [1, 2, 3, 0] rfl)
        · have hne : ng_wo g0 (ng_lp rl g0) i ≠ g0 := ng_wo_ne (by omega) (by omega) (by omega) hbt
          have hsb := ng_sg_b (pw := pw) (lw := lw) (lc := lc) (g := g0) (pl := ng_lp rl g0) hpw hlw hg (by omega) (show ng_lp rl g0 + (i - ng_lp rl g0) ≤ 10 by omega)
          have hlw1 : ∀ k, k < 1024 → lw1 k ≤ ng_F1 := by rw [h1]; exact ng_up1 hlw hsb
          have hww : ng_ww pw lw1 g0 (ng_lp rl g0) i = ng_ww pw lw g0 (ng_lp rl g0) i := by rw [h1]; exact ng_ww_up hne
          have hcc : lc1 (ng_wo g0 (ng_lp rl g0) i) = lc (ng_wo g0 (ng_lp rl g0) i) := by rw [h2]; exact va_up_ne _ _ hne
          have hwo : ng_wo g0 (ng_lp rl g0) i < 1024 := Nat.lt_of_le_of_lt (ng_wo_le (by omega)) hg
          have hwb : ng_ww pw lw1 g0 (ng_lp rl g0) i < 2 ^ 31 := ng_ww_b hpw hlw1 hg (by omega) (by omega)
          have hlg := hlw1 g0 hg
          have h3 : ng_wi1 lw1 g0 (ng_ww pw lw1 g0 (ng_lp rl g0) i) = va_up lw g0 (ng_sg pw lw lc g0 (ng_lp rl g0) (i + 1 - ng_lp rl g0)).1 := by rw [hww, h1]; exact ng_sg_1 hpi c_37
          have h4 : ng_wi2 lw1 lc1 g0 (ng_ww pw lw1 g0 (ng_lp rl g0) i) (lc1 (ng_wo g0 (ng_lp rl g0) i)) = va_up lc g0 (ng_sg pw lw lc g0 (ng_lp rl g0) (i + 1 - ng_lp rl g0)).2 := by rw [hww, hcc, h1, h2]; exact ng_sg_2 hpi c_37
          refine lv_aload_n hx hb d_M_solveGroup_40 rfl (lv_at hl 0 rfl) ?_
          refine lv_iload_n hx hb d_M_solveGroup_41 rfl (lv_at hl 1 rfl) ?_
          refine lv_aload_n hx hb d_M_solveGroup_42 rfl (lv_at hl 0 rfl) ?_
          refine lv_iload_n hx hb d_M_solveGroup_43 rfl (lv_at hl 1 rfl) ?_
          refine lv_iload_n hx hb d_M_solveGroup_44 rfl (lv_at hl 2 rfl) ?_
          refine lv_iload_n hx hb d_M_solveGroup_45 rfl (lv_at hl 3 rfl) ?_
          refine ro_Vi (As := [.int (nI g0), .int (nI (ng_lp rl g0)), .int (nI i)]) (rest := [.int (nI g0), .ref mt]) ⟨hx, hb, hml, hown, hts⟩ (c_M_weightWith l dC dI cI cL mt g wy xA nA pA qA kA rl pw lw1 g0 (ng_lp rl g0) i (by omega) (by omega) (by omega) (hpw _ (by omega)) hlw1) (cwV 3 hts (wg_V wk_M_107 wm_M_weightWith we_M_weightWith wi_M wc_M_weightWith) rfl rfl rfl (by decide +kernel) ⟨Nat.le_of_ble_eq_true rfl, Nat.le_of_ble_eq_true rfl⟩) hK (hP.sub [0, 1, 2] rfl) (q0 := 0) rfl rfl rfl rfl hl.1 rfl (lv_room (Nat.le_of_ble_eq_true rfl)) d_M_solveGroup_46 ⟨Nat.zero_le _, Nat.zero_le _⟩ hS hP (fun H locs hP hS => ?_)
          refine lv_aload_n hx hb d_M_solveGroup_49 rfl (lv_at hl 0 rfl) ?_
          refine va_get (D := (dC, dI)) (ci := 3) (v := .ref kA) (C := R_M) (T := F_M) (N := 8) hx hb hts iM hown hK hP 0 rfl rfl 6 (by decide) (hts _ (List.mem_cons_of_mem _ wk_M_24)) (fun _ h9 => h9) rfl d_M_solveGroup_50 ?_
          refine lv_iload_n hx hb d_M_solveGroup_53 rfl (lv_at hl 1 rfl) ?_
          refine lv_iload_n hx hb d_M_solveGroup_54 rfl (lv_at hl 2 rfl) ?_
          refine lv_iload_n hx hb d_M_solveGroup_55 rfl (lv_at hl 3 rfl) ?_
          refine ro_Si (As := [.int (nI g0), .int (nI (ng_lp rl g0)), .int (nI i)]) (rest := [.ref kA, .int (nI (ng_ww pw lw1 g0 (ng_lp rl g0) i)), .int (nI g0), .ref mt]) ⟨hx, hb, hml, hown, hts⟩ (c_M_without l dC dI cI cL g0 (ng_lp rl g0) i ) (cwS 3 hts (wg_S wk_M_80 ws_M_without wi_M wc_M_without) rfl rfl rfl (by decide +kernel) ⟨Nat.le_of_ble_eq_true rfl, Nat.le_of_ble_eq_true rfl⟩) hK (hP.sub [] rfl) rfl hl.1 rfl (lv_room (Nat.le_of_ble_eq_true rfl)) d_M_solveGroup_56 ⟨Nat.zero_le _, Nat.zero_le _⟩ hS hP (fun H locs hP hS => ?_)
          refine nr_iald hx hb hK hP 3 0 rfl rfl (by omega) (by decide) d_M_solveGroup_59 ?_
          refine rw_Vv (wr := [cg_N pA cI 100 pw]) [0, 2, 3] [1] rfl rfl (by decide) (As := [.int (nI g0), .int (nI (ng_ww pw lw1 g0 (ng_lp rl g0) i)), .int (nI (lc1 (ng_wo g0 (ng_lp rl g0) i)))]) (rest := []) ⟨hx, hb, hml, hown, hts⟩ (c_M_weighIn l dC dI cI cL mt g wy xA nA pA qA kA rl lw1 lc1 g0 (ng_ww pw lw1 g0 (ng_lp rl g0) i) (lc1 (ng_wo g0 (ng_lp rl g0) i)) (by omega) (by omega) (by omega)) (cwV 3 hts (wg_V wk_M_110 wm_M_weighIn we_M_weighIn wi_M wc_M_weighIn) rfl rfl rfl (by decide +kernel) ⟨Nat.le_of_ble_eq_true rfl, Nat.le_of_ble_eq_true rfl⟩) hK (hP.sub [0, 2, 3] rfl) ((hD.sub [0, 2, 3] (by decide) rfl).weaken (fun _ _ _ _ => trivial)) (q0 := 0) rfl rfl rfl rfl hl.1 rfl (lv_room (Nat.le_of_ble_eq_true rfl)) d_M_solveGroup_60 ⟨Nat.zero_le _, Nat.zero_le _⟩ hS hP hD (fun u H locs hw_2 hP hS => ?_)
          have hP : va_P (dC, dI) classes [cg_M mt g wy xA nA pA qA kA rl, cg_N pA cI 100 pw, cg_N qA cI 1024 (ng_wi1 lw1 g0 (ng_ww pw lw1 g0 (ng_lp rl g0) i)), cg_N kA cI 1024 (ng_wi2 lw1 lc1 g0 (ng_ww pw lw1 g0 (ng_lp rl g0) i) (lc1 (ng_wo g0 (ng_lp rl g0) i)))] H := hP.sub [1, 0, 2, 3] rfl
          have hD : va_D A [cg_M mt g wy xA nA pA qA kA rl, cg_N pA cI 100 pw, cg_N qA cI 1024 (ng_wi1 lw1 g0 (ng_ww pw lw1 g0 (ng_lp rl g0) i)), cg_N kA cI 1024 (ng_wi2 lw1 lc1 g0 (ng_ww pw lw1 g0 (ng_lp rl g0) i) (lc1 (ng_wo g0 (ng_lp rl g0) i)))] := rw_re hD rfl
          refine lv_iinc (v := (nI (i + 1))) (lv' := [(3, .int (nI (i + 1))), (0, .ref mt), (1, .int (nI g0)), (2, .int (nI (ng_lp rl g0)))]) hx hb d_M_solveGroup_63 hl (k := 3) rfl (nI_1 i) (by decide) rfl (fun ls hl => ?_)
          refine lv_goto (tgt := 23) hx hb d_M_solveGroup_66 (by decide) ?_
          exact ih_23 (i + 1) (ng_wi1 lw1 g0 (ng_ww pw lw1 g0 (ng_lp rl g0) i)) (ng_wi2 lw1 lc1 g0 (ng_ww pw lw1 g0 (ng_lp rl g0) i) (lc1 (ng_wo g0 (ng_lp rl g0) i))) (by omega) (by omega) h3 h4 (by omega) _ _ hP hD hS ls (lv_sub hl [1, 2, 3, 0] rfl)
  exact lp_23 (rl - (ng_lp rl g0) + 1) (ng_lp rl g0) (va_up lw g0 1000000000) (va_up lc g0 0) (by omega) (Nat.le_refl _) (by rw [Nat.sub_self]; rfl) (by rw [Nat.sub_self]; rfl) (Nat.lt_succ_self _) _ _ hP hD hS ls (lv_sub hl [2, 3, 1, 0] rfl)
end
section
/-! groups: the recurrence of least weights and counts -/
theorem ng_fst_none {P : Nat → Bool} : ∀ {n i : Nat}, ng_fst P n i = none → ∀ k, i ≤ k → k < i + n → P k = false := by
  intro n
  induction n with
  | zero => intro i h k h1 h2; omega
  | succ n ih =>
    intro i h k h1 h2
    unfold ng_fst at h
    split at h
    · cases h
    · rename_i hp
      by_cases q : k = i
      · subst q; simpa using hp
      · exact ih h k (by omega) (by omega)
theorem ng_fst_min {P : Nat → Bool} : ∀ {n i k : Nat}, ng_fst P n i = some k → ∀ j, i ≤ j → j < k → P j = false := by
  intro n
  induction n with
  | zero => intro i k h; simp [ng_fst] at h
  | succ n ih =>
    intro i k h j h1 h2
    unfold ng_fst at h
    split at h
    · cases h; omega
    · rename_i hp
      by_cases q : j = i
      · subst q; simpa using hp
      · exact ih h j (by omega) h2
theorem ng_lp_ok {rl g : Nat} (h0 : 0 < g) (hg : g < 2 ^ rl) (hr : rl ≤ 10) : ng_lp rl g < rl ∧ g.testBit (ng_lp rl g) = true ∧ ∀ j, j < ng_lp rl g → g.testBit j = false := by
  have hr0 : 0 < rl := by
    rcases Nat.eq_zero_or_pos rl with q | q
    · subst q; simp at hg; omega
    · exact q
  have hp : 2 ^ rl ≤ 2 ^ 10 := Nat.pow_le_pow_right (by decide) hr
  have hg32 : g < 2 ^ 32 := by omega
  unfold ng_lp
  cases hf : ng_fst (fun p => nb_t (nI g) p) (rl - 1) 0 with
  | some k =>
    obtain ⟨h1, h2, -⟩ := ng_fst_ok hf
    have h3 := ng_fst_min hf
    refine ⟨?_, ?_, fun j hj => ?_⟩
    · show k < rl; omega
    · show g.testBit k = true
      rw [← ng_tb hg32]; exact h1
    · rw [← ng_tb hg32]; exact h3 j (Nat.zero_le _) hj
  | none =>
    have h3 := ng_fst_none hf
    have hz : ∀ j, j < rl - 1 → g.testBit j = false := fun j hj => by
      rw [← ng_tb hg32]; exact h3 j (Nat.zero_le _) (by omega)
    refine ⟨?_, ?_, fun j hj => hz j hj⟩
    · show rl - 1 < rl; omega
    · show g.testBit (rl - 1) = true
      cases hb : g.testBit (rl - 1) with
      | true => rfl
      | false =>
        exfalso
        have : g = 0 := by
          apply Nat.eq_of_testBit_eq
          intro j
          rw [Nat.zero_testBit]
          rcases Nat.lt_or_ge j (rl - 1) with q | q
          · exact hz j q
          · by_cases q2 : j = rl - 1
            · rw [q2]; exact hb
            · exact Nat.testBit_lt_two_pow (Nat.lt_of_lt_of_le hg (Nat.pow_le_pow_right (by decide) (by omega)))
        omega
theorem ng_sg_congr {pw lw lw' lc lc' : Nat → Nat} {g pl : Nat} : ∀ {n : Nat}, (∀ pa, lw (ng_wo g pl pa) = lw' (ng_wo g pl pa)) → (∀ pa, lc (ng_wo g pl pa) = lc' (ng_wo g pl pa)) → ng_sg pw lw lc g pl n = ng_sg pw lw' lc' g pl n := by
  intro n h1 h2
  induction n with
  | zero => rfl
  | succ n ih =>
    unfold ng_sg
    rw [ih, h2]
    have e : ng_ww pw lw g pl (pl + n) = ng_ww pw lw' g pl (pl + n) := by
      unfold ng_ww; rw [h1]
    rw [e]
/-- the groups below k are solved -/
def ng_gr (rl : Nat) (pw lw lc : Nat → Nat) (k : Nat) : Prop := lw 0 = 0 ∧ lc 0 = 1 ∧ (∀ i, i < 1024 → lw i ≤ ng_F1) ∧ ∀ g, 0 < g → g < k → lw g = (ng_sg pw lw lc g (ng_lp rl g) (rl - ng_lp rl g)).1 ∧ lc g = (ng_sg pw lw lc g (ng_lp rl g) (rl - ng_lp rl g)).2
theorem ng_wo_eq0 {g a b : Nat} (hg : g < 2 ^ 31) (ha : 32 ≤ b) (h : a < 32) : True := trivial
theorem ng_gr_step {rl : Nat} {pw lw lc : Nat → Nat} {k : Nat} (hr : rl ≤ 10) (h0 : 0 < k) (hk : k < 2 ^ rl) (hpw : ∀ i, i < 100 → pw i ≤ ng_F1) (h : ng_gr rl pw lw lc k) : ng_gr rl pw (va_up lw k (ng_sg pw lw lc k (ng_lp rl k) (rl - ng_lp rl k)).1) (va_up lc k (ng_sg pw lw lc k (ng_lp rl k) (rl - ng_lp rl k)).2) (k + 1) := by
  obtain ⟨h1, h2, h3, h4⟩ := h
  obtain ⟨p1, p2, -⟩ := ng_lp_ok h0 hk hr
  have hp : 2 ^ rl ≤ 2 ^ 10 := Nat.pow_le_pow_right (by decide) hr
  have hsb := ng_sg_b (pw := pw) (lw := lw) (lc := lc) (g := k) (pl := ng_lp rl k) hpw h3 (show k < 1024 by omega) (by omega) (show ng_lp rl k + (rl - ng_lp rl k) ≤ 10 by omega)
  refine ⟨?_, ?_, ng_up1 h3 hsb, fun g g0 gk => ?_⟩
  · rw [va_up_ne _ _ (by omega)]; exact h1
  · rw [va_up_ne _ _ (by omega)]; exact h2
  · have hgl : g < 2 ^ 31 := by omega
    have key : ∀ pa, ng_wo g (ng_lp rl g) pa ≠ k := by
      intro pa q
      by_cases z : g = k
      · subst z
        have hle := ng_wo_le (g := g) (a := ng_lp rl g) (b := pa) hgl
        by_cases hpa : pa < 32
        · exact ng_wo_ne hgl (by omega) hpa p2 q
        · have e : (ng_wo g (ng_lp rl g) pa).testBit (ng_lp rl g) = false := by
            unfold ng_wo
            have e2 : nb_t (nI g &&& ((nb_o (ng_lp rl g) ||| nb_o pa) ^^^ (-1))) (ng_lp rl g) = false := by
              rw [nb_bt_and, nb_bt_xor, nb_bt_or, nb_bt_b1 (show ng_lp rl g < 32 by omega), nb_bt_m1 _ (show ng_lp rl g < 32 by omega)]
              simp
            exact e2
          rw [q, p2] at e
          cases e
      · have hle := ng_wo_le (g := g) (a := ng_lp rl g) (b := pa) hgl
        omega
    have e : ng_sg pw (va_up lw k (ng_sg pw lw lc k (ng_lp rl k) (rl - ng_lp rl k)).1) (va_up lc k (ng_sg pw lw lc k (ng_lp rl k) (rl - ng_lp rl k)).2) g (ng_lp rl g) (rl - ng_lp rl g) = ng_sg pw lw lc g (ng_lp rl g) (rl - ng_lp rl g) :=
      ng_sg_congr (fun pa => va_up_ne _ _ (key pa)) (fun pa => va_up_ne _ _ (key pa))
    rw [e]
    by_cases z : g = k
    · subst z
      rw [va_up_self, va_up_self]; exact ⟨rfl, rfl⟩
    · rw [va_up_ne _ _ z, va_up_ne _ _ z]
      exact h4 g g0 (by omega)
/-- attained: a group with a pairing has a partner that gives its least weight -/
theorem ng_sg_att {pw lw lc : Nat → Nat} {g pl : Nat} : ∀ {n : Nat}, (ng_sg pw lw lc g pl n).1 ≠ ng_F1 → ∃ pa, pl ≤ pa ∧ pa < pl + n ∧ nb_t (nI g) pa = true ∧ ng_ww pw lw g pl pa = (ng_sg pw lw lc g pl n).1 := by
  intro n
  induction n with
  | zero => intro h; exact absurd rfl h
  | succ n ih =>
    intro h
    have e : ng_sg pw lw lc g pl (n + 1) = if nb_t (nI g) (pl + n) = true then ng_wq (ng_sg pw lw lc g pl n) (ng_ww pw lw g pl (pl + n)) (lc (ng_wo g pl (pl + n))) else ng_sg pw lw lc g pl n := rfl
    by_cases hb : nb_t (nI g) (pl + n) = true
    · rw [if_pos hb] at e
      by_cases hw : ng_ww pw lw g pl (pl + n) < (ng_sg pw lw lc g pl n).1
      · have e2 : (ng_sg pw lw lc g pl (n + 1)).1 = ng_ww pw lw g pl (pl + n) := by rw [e]; unfold ng_wq; rw [if_pos hw]
        exact ⟨pl + n, by omega, by omega, hb, e2.symm⟩
      · have e2 : (ng_sg pw lw lc g pl (n + 1)).1 = (ng_sg pw lw lc g pl n).1 := by
          rw [e]; unfold ng_wq; rw [if_neg hw]; split <;> rfl
        rw [e2] at h ⊢
        obtain ⟨pa, q1, q2, q3, q4⟩ := ih h
        exact ⟨pa, q1, by omega, q3, q4⟩
    · rw [if_neg hb] at e
      rw [e] at h ⊢
      obtain ⟨pa, q1, q2, q3, q4⟩ := ih h
      exact ⟨pa, q1, by omega, q3, q4⟩
theorem ng_fp_ok {rl : Nat} {pw lw lc : Nat → Nat} {g pl : Nat} (hpl : pl < rl) (hb : nb_t (nI g) pl = true) (h : lw g = (ng_sg pw lw lc g pl (rl - pl)).1) (hF : lw g ≠ ng_F1) : pl ≤ ng_fp rl pw lw g pl ∧ ng_fp rl pw lw g pl < rl ∧ nb_t (nI g) (ng_fp rl pw lw g pl) = true ∧ ng_ww pw lw g pl (ng_fp rl pw lw g pl) = lw g := by
  unfold ng_fp
  cases hf : ng_fst (fun p => nb_t (nI g) p && decide (ng_ww pw lw g pl p = lw g)) (rl - (pl + 1)) (pl + 1) with
  | some k =>
    obtain ⟨h1, h2, h3⟩ := ng_fst_ok hf
    simp only [Bool.and_eq_true, decide_eq_true_eq] at h1
    exact ⟨by show pl ≤ k; omega, by show k < rl; omega, h1.1, h1.2⟩
  | none =>
    have h3 := ng_fst_none hf
    refine ⟨Nat.le_refl _, hpl, hb, ?_⟩
    obtain ⟨pa, q1, q2, q3, q4⟩ := ng_sg_att (pw := pw) (lw := lw) (lc := lc) (g := g) (pl := pl) (n := rl - pl) (by rw [← h]; exact hF)
    by_cases z : pa = pl
    · subst z; show ng_ww pw lw g pa pa = lw g; rw [h]; exact q4
    · have h4 := h3 pa (by omega) (by omega)
      rw [q3, Bool.true_and] at h4
      exact absurd (q4.trans h.symm) (by simpa using h4)
theorem ng_ww_fin {pw lw : Nat → Nat} {g pl pa : Nat} (h : ng_ww pw lw g pl pa ≠ ng_F1) : pw (pl * 10 + pa) ≠ ng_F1 ∧ lw (ng_wo g pl pa) ≠ ng_F1 ∧ ng_ww pw lw g pl pa = pw (pl * 10 + pa) + lw (ng_wo g pl pa) := by
  unfold ng_ww at h ⊢
  split at h
  · exact absurd rfl h
  · rename_i hq
    rw [if_neg hq]
    exact ⟨fun z => hq (Or.inl z), fun z => hq (Or.inr z), rfl⟩
theorem ng_pv_some {ct row : Nat → Nat} {nr : Nat → Option Nat} {a b : Nat} (h : ng_pv ct row nr a b ≠ ng_F1) : ∃ y, ng_pt row nr a b = some y ∧ ct (row a * 20 + y) ≠ dm_FAR ∧ ng_pv ct row nr a b = ct (row a * 20 + y) / 64 := by
  unfold ng_pv at h ⊢
  cases hp : ng_pt row nr a b with
  | none => rw [hp] at h; exact absurd rfl h
  | some y =>
    rw [hp] at h
    show ∃ y', some y = some y' ∧ ct (row a * 20 + y') ≠ dm_FAR ∧ (if ct (row a * 20 + y) = dm_FAR then ng_F1 else ct (row a * 20 + y) / 64) = ct (row a * 20 + y') / 64
    have h : (if ct (row a * 20 + y) = dm_FAR then ng_F1 else ct (row a * 20 + y) / 64) ≠ ng_F1 := h
    split at h
    · exact absurd rfl h
    · rename_i hq
      exact ⟨y, rfl, hq, if_neg hq⟩
def ng_tf (rl : Nat) (pw lw : Nat → Nat) : Nat → Nat → Nat → List (Nat × Nat)
  | 0, _, _ => []
  | n + 1, i, g => if nb_t (nI g) i = true then (i, ng_fp rl pw lw g i) :: ng_tf rl pw lw n (i + 1) (ng_wo g i (ng_fp rl pw lw g i)) else ng_tf rl pw lw n (i + 1) g
def ng_lset (l : List Nat) : Int64 := l.foldl (fun s k => s ||| nb_p k) (lN 0)
theorem ng_set_l {tr : Nat → Nat} {l : List Nat} : ∀ {n : Nat}, n ≤ l.length → (∀ i, i < l.length → l[i]? = some (tr i)) → ng_set tr n = ng_lset (l.take n) := by
  intro n
  induction n with
  | zero => intro _ _; rfl
  | succ n ih =>
    intro hn h
    have h1 : l.take (n + 1) = l.take n ++ [tr n] := by
      rw [List.take_add_one, h n (by omega)]; rfl
    rw [h1]
    unfold ng_lset
    rw [List.foldl_append]
    show ng_set tr n ||| nb_p (tr n) = _
    rw [ih (by omega) h]
    rfl
theorem ng_set_eq {tr : Nat → Nat} {l : List Nat} (h : ∀ i, i < l.length → l[i]? = some (tr i)) : ng_set tr l.length = ng_lset l := by
  have := ng_set_l (Nat.le_refl l.length) h
  rwa [List.take_length] at this
end
section
set_option maxHeartbeats 4000000 in
set_option maxRecDepth 100000 in
theorem c_M_solve (l : Launch) (dC : Nat → ClassId) (dI : Nat → Nat → Nat) (cI cL : ClassId) (g tA oA uA wA sA np ne : Nat) (bd : Int32) (er : Int64) (vr : Nat) (wy cA rA : Nat) (mv : Int32) (tl : Nat) (mt xA nA pA qA kA rl : Nat) (ct row pw lw lc : Nat → Nat) (nr : Nat → Option Nat) (fi : Int32) (hnp : np ≤ 20) (hfl : (ng_rw fi np).length ≤ 10) (hpw : ∀ i, i < 100 → pw i ≤ ng_F1) (hlw : ∀ i, i < 1024 → lw i ≤ ng_F1) (hct : ∀ i, i < 400 → ct i ≤ dm_FAR) (hcf : ∀ a b, a < np → b < np → ct (a * 20 + b) = dm_FAR ∨ ct (a * 20 + b) ≤ 1300000000) : Met l y_M_solve w_M_solve ({ frames := 4, cells := 0, slots := 0, locals := 88 } : Room) (va_Pc [.ref mt, .int fi] (rw_B (dC, dI) classes [(cI, .int), (cL, .long)] [cg_G g tA oA uA wA sA np ne bd er vr, cg_W wy g cA rA mv tl, cg_L cA cL 400 ct, cg_M mt g wy xA nA pA qA kA rl, cg_N xA cI 10 row, cg_O nA cI 10 nr, cg_N pA cI 100 pw, cg_N qA cI 1024 lw, cg_N kA cI 1024 lc])) (rw_Qi (dC, dI) classes (rw_A [cg_G g tA oA uA wA sA np ne bd er vr, cg_W wy g cA rA mv tl, cg_L cA cL 400 ct, cg_M mt g wy xA nA pA qA kA rl, cg_N xA cI 10 row, cg_O nA cI 10 nr, cg_N pA cI 100 pw, cg_N qA cI 1024 lw, cg_N kA cI 1024 lc]) (fun r (u : (Nat → Nat) × (Nat → Option Nat) × (Nat → Nat) × (Nat → Nat) × (Nat → Nat)) => r = nb_i (!decide (u.2.2.2.1 (2 ^ (ng_rw fi np).length - 1) = ng_F1)) ∧ (∀ i, i < (ng_rw fi np).length → (ng_rw fi np)[i]? = some (u.1 i)) ∧ (∀ i, i < (ng_rw fi np).length → u.2.1 i = ng_nb bd ct (u.1 i) np) ∧ (∀ a b, a ≤ b → b < (ng_rw fi np).length → u.2.2.1 (a * 10 + b) = ng_pv ct u.1 u.2.1 a b) ∧ (∀ i, i < 100 → u.2.2.1 i ≤ ng_F1) ∧ ng_gr (ng_rw fi np).length u.2.2.1 u.2.2.2.1 u.2.2.2.2 (2 ^ (ng_rw fi np).length)) (fun u => [cg_G g tA oA uA wA sA np ne bd er vr, cg_W wy g cA rA mv tl, cg_L cA cL 400 ct, cg_M mt g wy xA nA pA qA kA ((ng_rw fi np).length), cg_N xA cI 10 u.1, cg_O nA cI 10 u.2.1, cg_N pA cI 100 u.2.2.1, cg_N qA cI 1024 u.2.2.2.1, cg_N kA cI 1024 u.2.2.2.2])) 0 0 (rw_A [cg_G g tA oA uA wA sA np ne bd er vr, cg_W wy g cA rA mv tl, cg_L cA cL 400 ct, cg_M mt g wy xA nA pA qA kA rl, cg_N xA cI 10 row, cg_O nA cI 10 nr, cg_N pA cI 100 pw, cg_N qA cI 1024 lw, cg_N kA cI 1024 lc]) := by
  refine Met.ofW (cc := b_M_solve) (maxL := 3) (ret := (some .boolean)) (by decide) rfl ?_
  intro p e s m args below meth c s₁ B hml hv
  obtain ⟨rfl, hP, hK, hD0⟩ := hv
  have hx := B.exec
  have hb := B.bytes
  have hr := B.returns
  have hts := atoms_spec (ws := w_M_solve) B.pre
  have hown : s.vm.findClass R_M = some m.cls := findClass_of_methodNamed B.named
  have hlocks := B.notSynchronized
  have iM : ∀ w ∈ w_M, w ∈ w_M_solve := fun w h => List.mem_cons_of_mem _ (i_M w h)
  have hD := rw_own hD0
  generalize hAe : rw_A [cg_G g tA oA uA wA sA np ne bd er vr, cg_W wy g cA rA mv tl, cg_L cA cL 400 ct, cg_M mt g wy xA nA pA qA kA rl, cg_N xA cI 10 row, cg_O nA cI 10 nr, cg_N pA cI 100 pw, cg_N qA cI 1024 lw, cg_N kA cI 1024 lc] = A at hD ⊢
  have hS : va_S A s.heap s.heap [] := va_S.rf
  have hP : va_P (dC, dI) classes [cg_G g tA oA uA wA sA np ne bd er vr, cg_W wy g cA rA mv tl, cg_L cA cL 400 ct, cg_M mt g wy xA nA pA qA kA rl, cg_N xA cI 10 row, cg_O nA cI 10 nr, cg_N pA cI 100 pw, cg_N qA cI 1024 lw, cg_N kA cI 1024 lc] s.heap := hP
  have hl := lv_entry ([.ref mt, .int fi]) (n := 3) (Nat.le_of_ble_eq_true rfl)
  rw [lg_entry_eq]
  generalize (lg_sl ([.ref mt, .int fi]) ++ List.replicate (3 - (lg_sl ([.ref mt, .int fi])).length) Slot.unset).toArray = ls at hl ⊢
  have hl : lv_has ls 3 [(0, .ref mt), (1, .int fi)] := hl
  have hF1 : ng_F1 = 1000000000 := rfl
  have hp2 : 2 ^ (ng_rw fi np).length ≤ 2 ^ 10 := Nat.pow_le_pow_right (by decide) hfl
  have hp1 : 0 < 2 ^ (ng_rw fi np).length := Nat.pow_pos (by decide)
  refine lv_aload_n hx hb d_M_solve_0 rfl (lv_at hl 0 rfl) ?_
  refine lv_iload_n hx hb d_M_solve_1 rfl (lv_at hl 1 rfl) ?_
  refine rw_Vv (wr := [cg_N pA cI 100 pw, cg_N qA cI 1024 lw, cg_N kA cI 1024 lc]) [0, 1, 2, 3, 4, 5] [6, 7, 8] rfl rfl (by decide) (As := [.int fi]) (rest := []) ⟨hx, hb, hml, hown, hts⟩ (c_M_layRow l dC dI cI cL g tA oA uA wA sA np ne bd er vr wy cA rA mv tl mt xA nA pA qA kA rl ct row nr fi (by omega) hfl hct hcf) (cwV 1 hts (wg_V wk_M_39 wm_M_layRow we_M_layRow wi_M wc_M_layRow) rfl rfl rfl (by decide +kernel) ⟨Nat.le_of_ble_eq_true rfl, Nat.le_of_ble_eq_true rfl⟩) hK (hP.sub [0, 1, 2, 3, 4, 5] rfl) ((hD.sub [0, 1, 2, 3, 4, 5] (by decide) rfl).weaken (fun _ _ _ _ => trivial)) (q0 := 3) rfl rfl rfl rfl hl.1 rfl (lv_room (Nat.le_of_ble_eq_true rfl)) d_M_solve_2 ⟨Nat.zero_le _, Nat.zero_le _⟩ hS hP hD (fun u H locs hw_4 hP hS => ?_)
  obtain ⟨row2_1, nr2_2⟩ := u
  have hP : va_P (dC, dI) classes [cg_G g tA oA uA wA sA np ne bd er vr, cg_W wy g cA rA mv tl, cg_L cA cL 400 ct, cg_M mt g wy xA nA pA qA kA ((ng_rw fi np).length), cg_N xA cI 10 row2_1, cg_O nA cI 10 nr2_2, cg_N pA cI 100 pw, cg_N qA cI 1024 lw, cg_N kA cI 1024 lc] H := hP.sub [3, 4, 5, 6, 7, 8, 0, 1, 2] rfl
  have hD : va_D A [cg_G g tA oA uA wA sA np ne bd er vr, cg_W wy g cA rA mv tl, cg_L cA cL 400 ct, cg_M mt g wy xA nA pA qA kA ((ng_rw fi np).length), cg_N xA cI 10 row2_1, cg_O nA cI 10 nr2_2, cg_N pA cI 100 pw, cg_N qA cI 1024 lw, cg_N kA cI 1024 lc] := rw_re hD rfl
  try dsimp only at hw_4
  obtain ⟨hr1, hr2⟩ := hw_4
  have hrow : ∀ j, j < (ng_rw fi np).length → row2_1 j < np := fun j hj => (ng_rw_lt (List.mem_of_getElem? (hr1 j hj))).1
  have hnr : ∀ j y, j < (ng_rw fi np).length → nr2_2 j = some y → y < np := fun j y hj hy => ng_nb_lt ((hr2 j hj).symm.trans hy)
  refine lv_aload_n hx hb d_M_solve_5 rfl (lv_at hl 0 rfl) ?_
  refine rw_Vv (wr := [cg_N qA cI 1024 lw, cg_N kA cI 1024 lc]) [0, 1, 2, 3, 4, 5, 6] [7, 8] rfl rfl (by decide) (As := []) (rest := []) ⟨hx, hb, hml, hown, hts⟩ (c_M_weighPairs l dC dI cI cL g tA oA uA wA sA np ne bd er vr wy cA rA mv tl mt xA nA pA qA kA ((ng_rw fi np).length) ct row2_1 pw nr2_2 (by omega) hfl hrow hnr hpw hct hcf) (cwV 0 hts (wg_V wk_M_43 wm_M_weighPairs we_M_weighPairs wi_M wc_M_weighPairs) rfl rfl rfl (by decide +kernel) ⟨Nat.le_of_ble_eq_true rfl, Nat.le_of_ble_eq_true rfl⟩) hK (hP.sub [0, 1, 2, 3, 4, 5, 6] rfl) ((hD.sub [0, 1, 2, 3, 4, 5, 6] (by decide) rfl).weaken (fun _ _ _ _ => trivial)) (q0 := 3) rfl rfl rfl rfl hl.1 rfl (lv_room (Nat.le_of_ble_eq_true rfl)) d_M_solve_6 ⟨Nat.zero_le _, Nat.zero_le _⟩ hS hP hD (fun pw2_5 H locs hw_7 hP hS => ?_)
  have hP : va_P (dC, dI) classes [cg_G g tA oA uA wA sA np ne bd er vr, cg_W wy g cA rA mv tl, cg_L cA cL 400 ct, cg_M mt g wy xA nA pA qA kA ((ng_rw fi np).length), cg_N xA cI 10 row2_1, cg_O nA cI 10 nr2_2, cg_N pA cI 100 pw2_5, cg_N qA cI 1024 lw, cg_N kA cI 1024 lc] H := hP.sub [2, 3, 4, 5, 6, 7, 8, 0, 1] rfl
  have hD : va_D A [cg_G g tA oA uA wA sA np ne bd er vr, cg_W wy g cA rA mv tl, cg_L cA cL 400 ct, cg_M mt g wy xA nA pA qA kA ((ng_rw fi np).length), cg_N xA cI 10 row2_1, cg_O nA cI 10 nr2_2, cg_N pA cI 100 pw2_5, cg_N qA cI 1024 lw, cg_N kA cI 1024 lc] := rw_re hD rfl
  try dsimp only at hw_7
  obtain ⟨hv1, hv2⟩ := hw_7
  refine lv_aload_n hx hb d_M_solve_9 rfl (lv_at hl 0 rfl) ?_
  refine va_get (D := (dC, dI)) (ci := 3) (v := .ref qA) (C := R_M) (T := F_M) (N := 8) hx hb hts iM hown hK hP 3 rfl rfl 5 (by decide) (hts _ (List.mem_cons_of_mem _ wk_M_21)) (fun _ h9 => h9) rfl d_M_solve_10 ?_
  refine lv_iconst (v := nI 0) hx hb d_M_solve_13 (by decide) ?_
  refine lv_iconst (v := nI 0) hx hb d_M_solve_14 (by decide) ?_
  refine nr_iast hx hb hK hP hD hS 7 0 rfl rfl (by omega) (by decide) d_M_solve_15 (fun H locs hP hD hS => ?_)
  have hP : va_P (dC, dI) classes [cg_G g tA oA uA wA sA np ne bd er vr, cg_W wy g cA rA mv tl, cg_L cA cL 400 ct, cg_M mt g wy xA nA pA qA kA ((ng_rw fi np).length), cg_N xA cI 10 row2_1, cg_O nA cI 10 nr2_2, cg_N pA cI 100 pw2_5, cg_N qA cI 1024 (va_up lw 0 0), cg_N kA cI 1024 lc] H := hP
  have hD : va_D A [cg_G g tA oA uA wA sA np ne bd er vr, cg_W wy g cA rA mv tl, cg_L cA cL 400 ct, cg_M mt g wy xA nA pA qA kA ((ng_rw fi np).length), cg_N xA cI 10 row2_1, cg_O nA cI 10 nr2_2, cg_N pA cI 100 pw2_5, cg_N qA cI 1024 (va_up lw 0 0), cg_N kA cI 1024 lc] := hD
  refine lv_aload_n hx hb d_M_solve_16 rfl (lv_at hl 0 rfl) ?_
  refine va_get (D := (dC, dI)) (ci := 3) (v := .ref kA) (C := R_M) (T := F_M) (N := 8) hx hb hts iM hown hK hP 3 rfl rfl 6 (by decide) (hts _ (List.mem_cons_of_mem _ wk_M_24)) (fun _ h9 => h9) rfl d_M_solve_17 ?_
  refine lv_iconst (v := nI 0) hx hb d_M_solve_20 (by decide) ?_
  refine lv_iconst (v := nI 1) hx hb d_M_solve_21 (by decide) ?_
  refine nr_iast hx hb hK hP hD hS 8 0 rfl rfl (by omega) (by decide) d_M_solve_22 (fun H locs hP hD hS => ?_)
  have hP : va_P (dC, dI) classes [cg_G g tA oA uA wA sA np ne bd er vr, cg_W wy g cA rA mv tl, cg_L cA cL 400 ct, cg_M mt g wy xA nA pA qA kA ((ng_rw fi np).length), cg_N xA cI 10 row2_1, cg_O nA cI 10 nr2_2, cg_N pA cI 100 pw2_5, cg_N qA cI 1024 (va_up lw 0 0), cg_N kA cI 1024 (va_up lc 0 1)] H := hP
  have hD : va_D A [cg_G g tA oA uA wA sA np ne bd er vr, cg_W wy g cA rA mv tl, cg_L cA cL 400 ct, cg_M mt g wy xA nA pA qA kA ((ng_rw fi np).length), cg_N xA cI 10 row2_1, cg_O nA cI 10 nr2_2, cg_N pA cI 100 pw2_5, cg_N qA cI 1024 (va_up lw 0 0), cg_N kA cI 1024 (va_up lc 0 1)] := hD
  have hg0 : ng_gr (ng_rw fi np).length pw2_5 (va_up lw 0 0) (va_up lc 0 1) 1 := ⟨va_up_self _ _ _, va_up_self _ _ _, ng_up1 hlw (Nat.zero_le _), fun g g0 g1 => by omega⟩
  refine lv_iconst (v := nI 1) hx hb d_M_solve_23 (by decide) ?_
  refine lv_istore_n (lv' := [(2, .int (nI 1)), (0, .ref mt), (1, .int fi)]) hx hb d_M_solve_24 rfl hl (by decide) rfl (fun ls hl => ?_)
  have lp_25 : ∀ (n : Nat) (k : Nat) (lw1 lc1 : Nat → Nat), (0 < k) → (k ≤ 2 ^ (ng_rw fi np).length) → (ng_gr (ng_rw fi np).length pw2_5 lw1 lc1 k) → 2 ^ (ng_rw fi np).length - k < n → ∀ (H : Heap) (locs : List Loc), va_P (dC, dI) classes [cg_G g tA oA uA wA sA np ne bd er vr, cg_W wy g cA rA mv tl, cg_L cA cL 400 ct, cg_M mt g wy xA nA pA qA kA ((ng_rw fi np).length), cg_N xA cI 10 row2_1, cg_O nA cI 10 nr2_2, cg_N pA cI 100 pw2_5, cg_N qA cI 1024 lw1, cg_N kA cI 1024 lc1] H → va_D A [cg_G g tA oA uA wA sA np ne bd er vr, cg_W wy g cA rA mv tl, cg_L cA cL 400 ct, cg_M mt g wy xA nA pA qA kA ((ng_rw fi np).length), cg_N xA cI 10 row2_1, cg_O nA cI 10 nr2_2, cg_N pA cI 100 pw2_5, cg_N qA cI 1024 lw1, cg_N kA cI 1024 lc1] → va_S A s.heap H locs → ∀ (ls : Array Slot), lv_has ls 3 [(0, .ref mt), (1, .int fi), (2, .int (nI k))] → W p l e (headSpec w_M_solve ({ frames := 4, cells := 0, slots := 0, locals := 88 } : Room)).room s m ([.ref mt, .int fi] : List Value).toArray below meth c H locs 0 0 (MQ below (rw_Qi (dC, dI) classes A (fun r (u : (Nat → Nat) × (Nat → Option Nat) × (Nat → Nat) × (Nat → Nat) × (Nat → Nat)) => r = nb_i (!decide (u.2.2.2.1 (2 ^ (ng_rw fi np).length - 1) = ng_F1)) ∧ (∀ i, i < (ng_rw fi np).length → (ng_rw fi np)[i]? = some (u.1 i)) ∧ (∀ i, i < (ng_rw fi np).length → u.2.1 i = ng_nb bd ct (u.1 i) np) ∧ (∀ a b, a ≤ b → b < (ng_rw fi np).length → u.2.2.1 (a * 10 + b) = ng_pv ct u.1 u.2.1 a b) ∧ (∀ i, i < 100 → u.2.2.1 i ≤ ng_F1) ∧ ng_gr (ng_rw fi np).length u.2.2.1 u.2.2.2.1 u.2.2.2.2 (2 ^ (ng_rw fi np).length)) (fun u => [cg_G g tA oA uA wA sA np ne bd er vr, cg_W wy g cA rA mv tl, cg_L cA cL 400 ct, cg_M mt g wy xA nA pA qA kA ((ng_rw fi np).length), cg_N xA cI 10 u.1, cg_O nA cI 10 u.2.1, cg_N pA cI 100 u.2.2.1, cg_N qA cI 1024 u.2.2.2.1, cg_N kA cI 1024 u.2.2.2.2])) ([.ref mt, .int fi] : List Value).toArray s 0 0 A) (F0 m 25 ls []) := by
    intro n
    induction n with
    | zero => intro k lw1 lc1 hk0 hk hgr hme; exact absurd hme (Nat.not_lt_zero _)
    | succ n ih =>
      intro k lw1 lc1 hk0 hk hgr hme H locs hP hD hS ls hl
      have ih_25 := ih
      refine lv_iload_n hx hb d_M_solve_25 rfl (lv_at hl 2 rfl) ?_
      refine lv_aload_n hx hb d_M_solve_26 rfl (lv_at hl 0 rfl) ?_
      refine ro_Vi (As := []) (rest := [.int (nI k)]) ⟨hx, hb, hml, hown, hts⟩ (c_M_wholeGroup l dC dI cI cL mt g wy xA nA pA qA kA ((ng_rw fi np).length) hfl) (cwV 0 hts (wg_V wk_M_46 wm_M_wholeGroup we_M_wholeGroup wi_M wc_M_wholeGroup) rfl rfl rfl (by decide +kernel) ⟨Nat.le_of_ble_eq_true rfl, Nat.le_of_ble_eq_true rfl⟩) hK (hP.sub [3] rfl) (q0 := 0) rfl rfl rfl rfl hl.1 rfl (lv_room (Nat.le_of_ble_eq_true rfl)) d_M_solve_27 ⟨Nat.zero_le _, Nat.zero_le _⟩ hS hP (fun H locs hP hS => ?_)
      refine nr_icmp_gt (by omega) (by omega) (tgt := 44) hx hb d_M_solve_30 (by decide) (fun c_30 => ?_) (fun c_30 => ?_)
      · have hke : k = 2 ^ (ng_rw fi np).length := by omega
        rw [hke] at hgr
        have hlg := hgr.2.2.1 (2 ^ (ng_rw fi np).length - 1) (by omega)
        refine lv_aload_n hx hb d_M_solve_44 rfl (lv_at hl 0 rfl) ?_
        refine va_get (D := (dC, dI)) (ci := 3) (v := .ref qA) (C := R_M) (T := F_M) (N := 8) hx hb hts iM hown hK hP 3 rfl rfl 5 (by decide) (hts _ (List.mem_cons_of_mem _ wk_M_21)) (fun _ h9 => h9) rfl d_M_solve_45 ?_
        refine lv_aload_n hx hb d_M_solve_48 rfl (lv_at hl 0 rfl) ?_
        refine ro_Vi (As := []) (rest := [.ref qA]) ⟨hx, hb, hml, hown, hts⟩ (c_M_wholeGroup l dC dI cI cL mt g wy xA nA pA qA kA ((ng_rw fi np).length) hfl) (cwV 0 hts (wg_V wk_M_46 wm_M_wholeGroup we_M_wholeGroup wi_M wc_M_wholeGroup) rfl rfl rfl (by decide +kernel) ⟨Nat.le_of_ble_eq_true rfl, Nat.le_of_ble_eq_true rfl⟩) hK (hP.sub [3] rfl) (q0 := 0) rfl rfl rfl rfl hl.1 rfl (lv_room (Nat.le_of_ble_eq_true rfl)) d_M_solve_49 ⟨Nat.zero_le _, Nat.zero_le _⟩ hS hP (fun H locs hP hS => ?_)
        refine nr_iald hx hb hK hP 7 0 rfl rfl (by omega) (by decide) d_M_solve_52 ?_
        refine lv_ldc (v := 1000000000) hx hb hown (hts _ (List.mem_cons_of_mem _ wk_M_53)) d_M_solve_53 ?_
        refine nr_as (v := nI 1000000000) (by decide) ?_
        refine nr_icmp_eq (by omega) (by omega) (tgt := 62) hx hb d_M_solve_55 (by decide) (fun c_55 => ?_) (fun c_55 => ?_)
        · refine lv_iconst (v := nI 0) hx hb d_M_solve_62 (by decide) ?_
          exact rw_zret (row2_1, nr2_2, pw2_5, lw1, lc1) (b := false) hx hb hr hlocks hS hP rfl (⟨by simp [nb_i, *], hr1, hr2, hv1, hv2, hgr⟩) d_M_solve_63
        · refine lv_iconst (v := nI 1) hx hb d_M_solve_58 (by decide) ?_
          refine lv_goto (tgt := 63) hx hb d_M_solve_59 (by decide) ?_
          exact rw_zret (row2_1, nr2_2, pw2_5, lw1, lc1) (b := true) hx hb hr hlocks hS hP rfl (⟨by simp [nb_i, *], hr1, hr2, hv1, hv2, hgr⟩) d_M_solve_63
      · have hkl : k < 2 ^ (ng_rw fi np).length := by omega
        obtain ⟨lp1, lp2, -⟩ := ng_lp_ok hk0 hkl hfl
        have hg1 := ng_gr_step hfl hk0 hkl hv2 hgr
        refine lv_aload_n hx hb d_M_solve_33 rfl (lv_at hl 0 rfl) ?_
        refine lv_iload_n hx hb d_M_solve_34 rfl (lv_at hl 2 rfl) ?_
        refine rw_Vv (wr := [cg_G g tA oA uA wA sA np ne bd er vr, cg_W wy g cA rA mv tl, cg_L cA cL 400 ct, cg_N xA cI 10 row2_1, cg_O nA cI 10 nr2_2]) [3, 6, 7, 8] [0, 1, 2, 4, 5] rfl rfl (by decide) (As := [.int (nI k)]) (rest := []) ⟨hx, hb, hml, hown, hts⟩ (c_M_solveGroup l dC dI cI cL mt g wy xA nA pA qA kA ((ng_rw fi np).length) pw2_5 lw1 lc1 k (by omega) hfl (by omega) hv2 hgr.2.2.1 lp1 lp2) (cwV 1 hts (wg_V wk_M_50 wm_M_solveGroup we_M_solveGroup wi_M wc_M_solveGroup) rfl rfl rfl (by decide +kernel) ⟨Nat.le_of_ble_eq_true rfl, Nat.le_of_ble_eq_true rfl⟩) hK (hP.sub [3, 6, 7, 8] rfl) ((hD.sub [3, 6, 7, 8] (by decide) rfl).weaken (fun _ _ _ _ => trivial)) (q0 := 0) rfl rfl rfl rfl hl.1 rfl (lv_room (Nat.le_of_ble_eq_true rfl)) d_M_solve_35 ⟨Nat.zero_le _, Nat.zero_le _⟩ hS hP hD (fun u H locs hw_9 hP hS => ?_)
        have hP : va_P (dC, dI) classes [cg_G g tA oA uA wA sA np ne bd er vr, cg_W wy g cA rA mv tl, cg_L cA cL 400 ct, cg_M mt g wy xA nA pA qA kA ((ng_rw fi np).length), cg_N xA cI 10 row2_1, cg_O nA cI 10 nr2_2, cg_N pA cI 100 pw2_5, cg_N qA cI 1024 (va_up lw1 k (ng_sg pw2_5 lw1 lc1 k (ng_lp ((ng_rw fi np).length) k) (((ng_rw fi np).length) - ng_lp ((ng_rw fi np).length) k)).1), cg_N kA cI 1024 (va_up lc1 k (ng_sg pw2_5 lw1 lc1 k (ng_lp ((ng_rw fi np).length) k) (((ng_rw fi np).length) - ng_lp ((ng_rw fi np).length) k)).2)] H := hP.sub [0, 1, 2, 5, 3, 4, 6, 7, 8] rfl
        have hD : va_D A [cg_G g tA oA uA wA sA np ne bd er vr, cg_W wy g cA rA mv tl, cg_L cA cL 400 ct, cg_M mt g wy xA nA pA qA kA ((ng_rw fi np).length), cg_N xA cI 10 row2_1, cg_O nA cI 10 nr2_2, cg_N pA cI 100 pw2_5, cg_N qA cI 1024 (va_up lw1 k (ng_sg pw2_5 lw1 lc1 k (ng_lp ((ng_rw fi np).length) k) (((ng_rw fi np).length) - ng_lp ((ng_rw fi np).length) k)).1), cg_N kA cI 1024 (va_up lc1 k (ng_sg pw2_5 lw1 lc1 k (ng_lp ((ng_rw fi np).length) k) (((ng_rw fi np).length) - ng_lp ((ng_rw fi np).length) k)).2)] := rw_re hD rfl
        refine lv_iinc (v := (nI (k + 1))) (lv' := [(2, .int (nI (k + 1))), (0, .ref mt), (1, .int fi)]) hx hb d_M_solve_38 hl (k := 2) rfl (nI_1 k) (by decide) rfl (fun ls hl => ?_)
        refine lv_goto (tgt := 25) hx hb d_M_solve_41 (by decide) ?_
        exact ih_25 (k + 1) (va_up lw1 k (ng_sg pw2_5 lw1 lc1 k (ng_lp ((ng_rw fi np).length) k) (((ng_rw fi np).length) - ng_lp ((ng_rw fi np).length) k)).1) (va_up lc1 k (ng_sg pw2_5 lw1 lc1 k (ng_lp ((ng_rw fi np).length) k) (((ng_rw fi np).length) - ng_lp ((ng_rw fi np).length) k)).2) (by omega) (by omega) hg1 (by omega) _ _ hP hD hS ls (lv_sub hl [1, 2, 0] rfl)
  exact lp_25 (2 ^ (ng_rw fi np).length - 1 + 1) 1 (va_up lw 0 0) (va_up lc 0 1) (by omega) (by omega) hg0 (Nat.lt_succ_self _) _ _ hP hD hS ls (lv_sub hl [1, 2, 0] rfl)
end
section
/-! the first pairing, read off -/
def ng_pset (bd : Int32) (er : Int64) (oe ot wt ct : Nat → Nat) (ne a b : Nat) : Int64 := ng_lset (ng_path (ng_nxt bd er oe ot wt ct ne (max a b)) (max a b) 20 (min a b))
def ng_od (ps : Nat → Nat → Int64) (row : Nat → Nat) (nr : Nat → Option Nat) (l : List (Nat × Nat)) : Int64 := l.foldl (fun s q => s ^^^ ps (row q.1) ((ng_pt row nr q.1 q.2).getD 0)) (lN 0)
theorem ng_dropP {α : Type} {l t : List α} {n : Nat} {k : α} (h : l.drop n = k :: t) : l[n]? = some k ∧ l.drop (n + 1) = t ∧ n < l.length := by
  have h0 : n < l.length := by
    rcases Nat.lt_or_ge n l.length with q | q
    · exact q
    · rw [List.drop_eq_nil_of_le q] at h; cases h
  rw [List.drop_eq_getElem_cons h0] at h
  injection h with h1 h2
  refine ⟨?_, h2, h0⟩
  rw [List.getElem?_eq_getElem h0, h1]
theorem ng_tf_t {rl : Nat} {pw lw : Nat → Nat} {i g : Nat} (hi : i < rl) (hb : nb_t (nI g) i = true) : ng_tf rl pw lw (rl - i) i g = (i, ng_fp rl pw lw g i) :: ng_tf rl pw lw (rl - (i + 1)) (i + 1) (ng_wo g i (ng_fp rl pw lw g i)) := by
  rw [show rl - i = (rl - (i + 1)) + 1 by omega, ng_tf, if_pos hb]
theorem ng_tf_f {rl : Nat} {pw lw : Nat → Nat} {i g : Nat} (hi : i < rl) (hb : nb_t (nI g) i = false) : ng_tf rl pw lw (rl - i) i g = ng_tf rl pw lw (rl - (i + 1)) (i + 1) g := by
  rw [show rl - i = (rl - (i + 1)) + 1 by omega, ng_tf, if_neg (by rw [hb]; decide)]
theorem ng_lp_eq {rl g i : Nat} (hr : rl ≤ 10) (hg : g < 2 ^ rl) (hi : i < rl) (hb : g.testBit i = true) (hz : ∀ j, j < i → g.testBit j = false) : 0 < g ∧ ng_lp rl g = i := by
  have g0 : 0 < g := by
    rcases Nat.eq_zero_or_pos g with q | q
    · subst q; simp at hb
    · exact q
  obtain ⟨h1, h2, h3⟩ := ng_lp_ok g0 hg hr
  refine ⟨g0, ?_⟩
  rcases Nat.lt_trichotomy (ng_lp rl g) i with q | q | q
  · rw [hz _ q] at h2; cases h2
  · exact q
  · rw [h3 i q] at hb; cases hb
theorem ng_od_s {ps : Nat → Nat → Int64} {row : Nat → Nat} {nr : Nat → Option Nat} {l : List (Nat × Nat)} {n y : Nat} {q : Nat × Nat} (h : l[n]? = some q) (hp : ng_pt row nr q.1 q.2 = some y) : ng_od ps row nr (l.take (n + 1)) = ng_od ps row nr (l.take n) ^^^ ps (row q.1) y := by
  unfold ng_od
  rw [List.take_add_one, h, List.foldl_append]
  show _ ^^^ ps (row q.1) ((ng_pt row nr q.1 q.2).getD 0) = _
  rw [hp]; rfl
/-- what stands in the rows of pairs -/
def ng_pr (row : Nat → Nat) (nr : Nat → Option Nat) (l : List (Nat × Nat)) (le ho : Nat → Nat) (n : Nat) : Prop := ∀ k, k < n → ∃ q, l[k]? = some q ∧ le k = row q.1 ∧ ng_pt row nr q.1 q.2 = some (ho k)
theorem ng_pr_s {row : Nat → Nat} {nr : Nat → Option Nat} {l : List (Nat × Nat)} {le ho : Nat → Nat} {n y : Nat} {q : Nat × Nat} (h : l[n]? = some q) (hp : ng_pt row nr q.1 q.2 = some y) (hr : ng_pr row nr l le ho n) : ng_pr row nr l (va_up le n (row q.1)) (va_up ho n y) (n + 1) := by
  intro k hk
  by_cases z : k = n
  · subst z
    exact ⟨q, h, va_up_self _ _ _, by rw [va_up_self]; exact hp⟩
  · obtain ⟨q2, h1, h2, h3⟩ := hr k (by omega)
    exact ⟨q2, h1, by rw [va_up_ne _ _ z]; exact h2, by rw [va_up_ne _ _ z]; exact h3⟩
theorem ng_wo_z {g i b : Nat} (hg : g < 2 ^ 31) (hi : i < 32) (hb : b < 32) (hz : ∀ j, j < i → g.testBit j = false) : ∀ j, j < i + 1 → (ng_wo g i b).testBit j = false := by
  intro j hj
  rw [ng_wo_tb hg hi hb]
  by_cases q : j = i
  · subst q; simp
  · rw [hz j (by omega)]; simp
theorem ng_gz {g i : Nat} (hz : ∀ j, j < i → g.testBit j = false) (hb : g.testBit i = false) : ∀ j, j < i + 1 → g.testBit j = false := by
  intro j hj
  by_cases q : j = i
  · subst q; exact hb
  · exact hz j (by omega)
end
section
set_option maxHeartbeats 4000000 in
set_option maxRecDepth 100000 in
theorem c_M_tellFirst (l : Launch) (dC : Nat → ClassId) (dI : Nat → Nat → Nat) (cI cL : ClassId) (g tA oA uA wA sA np ne : Nat) (bd : Int32) (er : Int64) (vr : Nat) (wy cA rA : Nat) (mv : Int32) (tl : Nat) (mt xA nA pA qA kA rl : Nat) (fo lA hA sz fw fk : Nat) (od : Int64) (oe ot wt ct tr row pw lw lc le ho : Nat → Nat) (nr : Nat → Option Nat) (hne : ne ≤ 60) (hE : ∀ i, i < ne → oe i < 20 ∧ ot i < 20) (hW : ∀ i, i < ne → ng_w er wt i ≤ 1000000) (hct : ∀ i, i < 400 → ct i ≤ dm_FAR) (hnp : np ≤ 20) (hrl : rl ≤ 10) (hrow : ∀ j, j < rl → row j < np) (hnr : ∀ j y, j < rl → nr j = some y → y < np) (hpv : ∀ a b, a ≤ b → b < rl → pw (a * 10 + b) = ng_pv ct row nr a b) (hpw : ∀ i, i < 100 → pw i ≤ ng_F1) (hgr : ng_gr rl pw lw lc (2 ^ rl)) (hfin : lw (2 ^ rl - 1) ≠ ng_F1) (htl0 : tl ≤ 20) : Met l y_M_tellFirst w_M_tellFirst ({ frames := 4, cells := 0, slots := 0, locals := 91 } : Room) (va_Pc [.ref mt, .ref fo] (rw_B (dC, dI) classes [(cI, .int), (cL, .long)] [cg_G g tA oA uA wA sA np ne bd er vr, cg_N oA cI 60 oe, cg_N uA cI 60 ot, cg_N wA cI 60 wt, cg_W wy g cA rA mv tl, cg_L cA cL 400 ct, cg_N rA cI 20 tr, cg_M mt g wy xA nA pA qA kA rl, cg_N xA cI 10 row, cg_O nA cI 10 nr, cg_N pA cI 100 pw, cg_N qA cI 1024 lw, cg_N kA cI 1024 lc, cg_F fo lA hA sz fw fk od, cg_N lA cI 10 le, cg_N hA cI 10 ho])) (rw_Qv (dC, dI) classes (rw_A [cg_G g tA oA uA wA sA np ne bd er vr, cg_N oA cI 60 oe, cg_N uA cI 60 ot, cg_N wA cI 60 wt, cg_W wy g cA rA mv tl, cg_L cA cL 400 ct, cg_N rA cI 20 tr, cg_M mt g wy xA nA pA qA kA rl, cg_N xA cI 10 row, cg_O nA cI 10 nr, cg_N pA cI 100 pw, cg_N qA cI 1024 lw, cg_N kA cI 1024 lc, cg_F fo lA hA sz fw fk od, cg_N lA cI 10 le, cg_N hA cI 10 ho]) (fun (u : (Nat) × (Nat → Nat) × (Nat → Nat) × (Nat → Nat)) => ng_pr row nr (ng_tf rl pw lw rl 0 (2 ^ rl - 1)) u.2.2.1 u.2.2.2 (ng_tf rl pw lw rl 0 (2 ^ rl - 1)).length ∧ (ng_tf rl pw lw rl 0 (2 ^ rl - 1)).length ≤ 10 ∧ u.1 ≤ 20) (fun u => [cg_G g tA oA uA wA sA np ne bd er vr, cg_N oA cI 60 oe, cg_N uA cI 60 ot, cg_N wA cI 60 wt, cg_W wy g cA rA mv u.1, cg_L cA cL 400 ct, cg_N rA cI 20 u.2.1, cg_M mt g wy xA nA pA qA kA rl, cg_N xA cI 10 row, cg_O nA cI 10 nr, cg_N pA cI 100 pw, cg_N qA cI 1024 lw, cg_N kA cI 1024 lc, cg_F fo lA hA ((ng_tf rl pw lw rl 0 (2 ^ rl - 1)).length) (lw (2 ^ rl - 1)) (lc (2 ^ rl - 1)) (ng_od (ng_pset bd er oe ot wt ct ne) row nr (ng_tf rl pw lw rl 0 (2 ^ rl - 1))), cg_N lA cI 10 u.2.2.1, cg_N hA cI 10 u.2.2.2])) 0 0 (rw_A [cg_G g tA oA uA wA sA np ne bd er vr, cg_N oA cI 60 oe, cg_N uA cI 60 ot, cg_N wA cI 60 wt, cg_W wy g cA rA mv tl, cg_L cA cL 400 ct, cg_N rA cI 20 tr, cg_M mt g wy xA nA pA qA kA rl, cg_N xA cI 10 row, cg_O nA cI 10 nr, cg_N pA cI 100 pw, cg_N qA cI 1024 lw, cg_N kA cI 1024 lc, cg_F fo lA hA sz fw fk od, cg_N lA cI 10 le, cg_N hA cI 10 ho]) := by
  refine Met.ofW (cc := b_M_tellFirst) (maxL := 6) (ret := none) (by decide) rfl ?_
  intro p e s m args below meth c s₁ B hml hv
  obtain ⟨rfl, hP, hK, hD0⟩ := hv
  have hx := B.exec
  have hb := B.bytes
  have hr := B.returns
  have hts := atoms_spec (ws := w_M_tellFirst) B.pre
  have hown : s.vm.findClass R_M = some m.cls := findClass_of_methodNamed B.named
  have hlocks := B.notSynchronized
  have iM : ∀ w ∈ w_M, w ∈ w_M_tellFirst := fun w h => List.mem_cons_of_mem _ (i_M w h)
  have hD := rw_own hD0
  generalize hAe : rw_A [cg_G g tA oA uA wA sA np ne bd er vr, cg_N oA cI 60 oe, cg_N uA cI 60 ot, cg_N wA cI 60 wt, cg_W wy g cA rA mv tl, cg_L cA cL 400 ct, cg_N rA cI 20 tr, cg_M mt g wy xA nA pA qA kA rl, cg_N xA cI 10 row, cg_O nA cI 10 nr, cg_N pA cI 100 pw, cg_N qA cI 1024 lw, cg_N kA cI 1024 lc, cg_F fo lA hA sz fw fk od, cg_N lA cI 10 le, cg_N hA cI 10 ho] = A at hD ⊢
  have hS : va_S A s.heap s.heap [] := va_S.rf
  have hP : va_P (dC, dI) classes [cg_G g tA oA uA wA sA np ne bd er vr, cg_N oA cI 60 oe, cg_N uA cI 60 ot, cg_N wA cI 60 wt, cg_W wy g cA rA mv tl, cg_L cA cL 400 ct, cg_N rA cI 20 tr, cg_M mt g wy xA nA pA qA kA rl, cg_N xA cI 10 row, cg_O nA cI 10 nr, cg_N pA cI 100 pw, cg_N qA cI 1024 lw, cg_N kA cI 1024 lc, cg_F fo lA hA sz fw fk od, cg_N lA cI 10 le, cg_N hA cI 10 ho] s.heap := hP
  have hl := lv_entry ([.ref mt, .ref fo]) (n := 6) (Nat.le_of_ble_eq_true rfl)
  rw [lg_entry_eq]
  generalize (lg_sl ([.ref mt, .ref fo]) ++ List.replicate (6 - (lg_sl ([.ref mt, .ref fo])).length) Slot.unset).toArray = ls at hl ⊢
  have hl : lv_has ls 6 [(0, .ref mt), (1, .ref fo)] := hl
  have hF1 : ng_F1 = 1000000000 := rfl
  have hp2 : 2 ^ rl ≤ 2 ^ 10 := Nat.pow_le_pow_right (by decide) hrl
  have hp1 : 0 < 2 ^ rl := Nat.pow_pos (by decide)
  refine lv_aload_n hx hb d_M_tellFirst_0 rfl (lv_at hl 0 rfl) ?_
  refine ro_Vi (As := []) (rest := []) ⟨hx, hb, hml, hown, hts⟩ (c_M_wholeGroup l dC dI cI cL mt g wy xA nA pA qA kA rl hrl) (cwV 0 hts (wg_V wk_M_46 wm_M_wholeGroup we_M_wholeGroup wi_M wc_M_wholeGroup) rfl rfl rfl (by decide +kernel) ⟨Nat.le_of_ble_eq_true rfl, Nat.le_of_ble_eq_true rfl⟩) hK (hP.sub [7] rfl) (q0 := 0) rfl rfl rfl rfl hl.1 rfl (lv_room (Nat.le_of_ble_eq_true rfl)) d_M_tellFirst_1 ⟨Nat.zero_le _, Nat.zero_le _⟩ hS hP (fun H locs hP hS => ?_)
  refine lv_istore_n (lv' := [(2, .int (nI (2 ^ rl - 1))), (0, .ref mt), (1, .ref fo)]) hx hb d_M_tellFirst_4 rfl hl (by decide) rfl (fun ls hl => ?_)
  refine lv_aload_n hx hb d_M_tellFirst_5 rfl (lv_at hl 2 rfl) ?_
  refine lv_aload_n hx hb d_M_tellFirst_6 rfl (lv_at hl 1 rfl) ?_
  refine va_get (D := (dC, dI)) (ci := 3) (v := .ref qA) (C := R_M) (T := F_M) (N := 8) hx hb hts iM hown hK hP 7 rfl rfl 5 (by decide) (hts _ (List.mem_cons_of_mem _ wk_M_21)) (fun _ h9 => h9) rfl d_M_tellFirst_7 ?_
  refine lv_iload_n hx hb d_M_tellFirst_10 rfl (lv_at hl 0 rfl) ?_
  refine nr_iald hx hb hK hP 11 0 rfl rfl (by omega) (by decide) d_M_tellFirst_11 ?_
  refine lv_aload_n hx hb d_M_tellFirst_12 rfl (lv_at hl 1 rfl) ?_
  refine va_get (D := (dC, dI)) (ci := 3) (v := .ref kA) (C := R_M) (T := F_M) (N := 8) hx hb hts iM hown hK hP 7 rfl rfl 6 (by decide) (hts _ (List.mem_cons_of_mem _ wk_M_24)) (fun _ h9 => h9) rfl d_M_tellFirst_13 ?_
  refine lv_iload_n hx hb d_M_tellFirst_16 rfl (lv_at hl 0 rfl) ?_
  refine nr_iald hx hb hK hP 12 0 rfl rfl (by omega) (by decide) d_M_tellFirst_17 ?_
  refine rw_Vv (wr := [cg_G g tA oA uA wA sA np ne bd er vr, cg_N oA cI 60 oe, cg_N uA cI 60 ot, cg_N wA cI 60 wt, cg_W wy g cA rA mv tl, cg_L cA cL 400 ct, cg_N rA cI 20 tr, cg_M mt g wy xA nA pA qA kA rl, cg_N xA cI 10 row, cg_O nA cI 10 nr, cg_N pA cI 100 pw, cg_N qA cI 1024 lw, cg_N kA cI 1024 lc, cg_N lA cI 10 le, cg_N hA cI 10 ho]) [13] [0, 1, 2, 3, 4, 5, 6, 7, 8, 9, 10, 11, 12, 14, 15] rfl rfl (by decide) (As := [.int (nI (lw (2 ^ rl - 1))), .int (nI (lc (2 ^ rl - 1)))]) (rest := []) ⟨hx, hb, hml, hown, hts⟩ (c_F_begin l dC dI cI cL fo lA hA sz fw fk od (lw (2 ^ rl - 1)) (lc (2 ^ rl - 1)) ) (cwV 2 hts (wg_V wk_M_54 wm_F_begin we_F_begin wi_F wc_F_begin) rfl rfl rfl (by decide +kernel) ⟨Nat.le_of_ble_eq_true rfl, Nat.le_of_ble_eq_true rfl⟩) hK (hP.sub [13] rfl) ((hD.sub [13] (by decide) rfl).weaken (fun _ _ _ _ => trivial)) (q0 := 0) rfl rfl rfl rfl hl.1 rfl (lv_room (Nat.le_of_ble_eq_true rfl)) d_M_tellFirst_18 ⟨Nat.zero_le _, Nat.zero_le _⟩ hS hP hD (fun u H locs hw_2 hP hS => ?_)
  have hP : va_P (dC, dI) classes [cg_G g tA oA uA wA sA np ne bd er vr, cg_N oA cI 60 oe, cg_N uA cI 60 ot, cg_N wA cI 60 wt, cg_W wy g cA rA mv tl, cg_L cA cL 400 ct, cg_N rA cI 20 tr, cg_M mt g wy xA nA pA qA kA rl, cg_N xA cI 10 row, cg_O nA cI 10 nr, cg_N pA cI 100 pw, cg_N qA cI 1024 lw, cg_N kA cI 1024 lc, cg_F fo lA hA 0 (lw (2 ^ rl - 1)) (lc (2 ^ rl - 1)) (lN 0), cg_N lA cI 10 le, cg_N hA cI 10 ho] H := hP.sub [0, 1, 2, 3, 4, 5, 6, 7, 8, 9, 10, 11, 12, 15, 13, 14] rfl
  have hD : va_D A [cg_G g tA oA uA wA sA np ne bd er vr, cg_N oA cI 60 oe, cg_N uA cI 60 ot, cg_N wA cI 60 wt, cg_W wy g cA rA mv tl, cg_L cA cL 400 ct, cg_N rA cI 20 tr, cg_M mt g wy xA nA pA qA kA rl, cg_N xA cI 10 row, cg_O nA cI 10 nr, cg_N pA cI 100 pw, cg_N qA cI 1024 lw, cg_N kA cI 1024 lc, cg_F fo lA hA 0 (lw (2 ^ rl - 1)) (lc (2 ^ rl - 1)) (lN 0), cg_N lA cI 10 le, cg_N hA cI 10 ho] := rw_re hD rfl
  refine lv_iconst (v := nI 0) hx hb d_M_tellFirst_21 (by decide) ?_
  refine lv_istore_n (lv' := [(3, .int (nI 0)), (2, .int (nI (2 ^ rl - 1))), (0, .ref mt), (1, .ref fo)]) hx hb d_M_tellFirst_22 rfl hl (by decide) rfl (fun ls hl => ?_)
  have lp_23 : ∀ (n : Nat) (i gg n1 tl1 : Nat) (tr1 le1 ho1 : Nat → Nat) (od1 : Int64), (i ≤ rl) → (gg < 2 ^ rl) → (∀ j, j < i → gg.testBit j = false) → (lw gg ≠ ng_F1) → ((ng_tf rl pw lw rl 0 (2 ^ rl - 1)).drop n1 = ng_tf rl pw lw (rl - i) i gg) → (n1 ≤ (ng_tf rl pw lw rl 0 (2 ^ rl - 1)).length) → (n1 ≤ i) → (ng_pr row nr (ng_tf rl pw lw rl 0 (2 ^ rl - 1)) le1 ho1 n1) → (od1 = ng_od (ng_pset bd er oe ot wt ct ne) row nr ((ng_tf rl pw lw rl 0 (2 ^ rl - 1)).take n1)) → (tl1 ≤ 20) → rl - i < n → ∀ (H : Heap) (locs : List Loc), va_P (dC, dI) classes [cg_G g tA oA uA wA sA np ne bd er vr, cg_N oA cI 60 oe, cg_N uA cI 60 ot, cg_N wA cI 60 wt, cg_W wy g cA rA mv tl1, cg_L cA cL 400 ct, cg_N rA cI 20 tr1, cg_M mt g wy xA nA pA qA kA rl, cg_N xA cI 10 row, cg_O nA cI 10 nr, cg_N pA cI 100 pw, cg_N qA cI 1024 lw, cg_N kA cI 1024 lc, cg_F fo lA hA n1 (lw (2 ^ rl - 1)) (lc (2 ^ rl - 1)) od1, cg_N lA cI 10 le1, cg_N hA cI 10 ho1] H → va_D A [cg_G g tA oA uA wA sA np ne bd er vr, cg_N oA cI 60 oe, cg_N uA cI 60 ot, cg_N wA cI 60 wt, cg_W wy g cA rA mv tl1, cg_L cA cL 400 ct, cg_N rA cI 20 tr1, cg_M mt g wy xA nA pA qA kA rl, cg_N xA cI 10 row, cg_O nA cI 10 nr, cg_N pA cI 100 pw, cg_N qA cI 1024 lw, cg_N kA cI 1024 lc, cg_F fo lA hA n1 (lw (2 ^ rl - 1)) (lc (2 ^ rl - 1)) od1, cg_N lA cI 10 le1, cg_N hA cI 10 ho1] → va_S A s.heap H locs → ∀ (ls : Array Slot), lv_has ls 6 [(0, .ref mt), (1, .ref fo), (2, .int (nI gg)), (3, .int (nI i))] → W p l e (headSpec w_M_tellFirst ({ frames := 4, cells := 0, slots := 0, locals := 91 } : Room)).room s m ([.ref mt, .ref fo] : List Value).toArray below meth c H locs 0 0 (MQ below (rw_Qv (dC, dI) classes A (fun (u : (Nat) × (Nat → Nat) × (Nat → Nat) × (Nat → Nat)) => ng_pr row nr (ng_tf rl pw lw rl 0 (2 ^ rl - 1)) u.2.2.1 u.2.2.2 (ng_tf rl pw lw rl 0 (2 ^ rl - 1)).length ∧ (ng_tf rl pw lw rl 0 (2 ^ rl - 1)).length ≤ 10 ∧ u.1 ≤ 20) (fun u => [cg_G g tA oA uA wA sA np ne bd er vr, cg_N oA cI 60 oe, cg_N uA cI 60 ot, cg_N wA cI 60 wt, cg_W wy g cA rA mv u.1, cg_L cA cL 400 ct, cg_N rA cI 20 u.2.1, cg_M mt g wy xA nA pA qA kA rl, cg_N xA cI 10 row, cg_O nA cI 10 nr, cg_N pA cI 100 pw, cg_N qA cI 1024 lw, cg_N kA cI 1024 lc, cg_F fo lA hA ((ng_tf rl pw lw rl 0 (2 ^ rl - 1)).length) (lw (2 ^ rl - 1)) (lc (2 ^ rl - 1)) (ng_od (ng_pset bd er oe ot wt ct ne) row nr (ng_tf rl pw lw rl 0 (2 ^ rl - 1))), cg_N lA cI 10 u.2.2.1, cg_N hA cI 10 u.2.2.2])) ([.ref mt, .ref fo] : List Value).toArray s 0 0 A) (F0 m 23 ls []) := by
    intro n
    induction n with
    | zero => intro i gg n1 tl1 tr1 le1 ho1 od1 hi hg hz hf hd hn hni hpr hod htl hme; exact absurd hme (Nat.not_lt_zero _)
    | succ n ih =>
      intro i gg n1 tl1 tr1 le1 ho1 od1 hi hg hz hf hd hn hni hpr hod htl hme H locs hP hD hS ls hl
      have ih_23 := ih
      refine lv_iload_n hx hb d_M_tellFirst_23 rfl (lv_at hl 3 rfl) ?_
      refine lv_aload_n hx hb d_M_tellFirst_24 rfl (lv_at hl 0 rfl) ?_
      refine va_get (D := (dC, dI)) (ci := 3) (v := .int (nI rl)) (C := R_M) (T := F_M) (N := 8) hx hb hts iM hown hK hP 7 rfl rfl 7 (by decide) (hts _ (List.mem_cons_of_mem _ wk_M_27)) (fun _ h9 => h9) rfl d_M_tellFirst_25 ?_
      refine nr_icmp_ge (by omega) (by omega) (tgt := 105) hx hb d_M_tellFirst_28 (by decide) (fun c_28 => ?_) (fun c_28 => ?_)
      · have e9 := ng_dropl (hd.trans (by rw [show rl - i = 0 by omega]; rfl)) hn
        rw [← e9] at hpr hod
        rw [List.take_length] at hod
        rw [← hod, e9]
        exact rw_vret (tl1, tr1, le1, ho1) hx hb hr hlocks hS hP (⟨by first | exact hpr | (rw [← e9]; exact hpr), by omega, htl⟩) d_M_tellFirst_105
      · refine lv_iload_n hx hb d_M_tellFirst_31 rfl (lv_at hl 2 rfl) ?_
        refine lv_iload_n hx hb d_M_tellFirst_32 rfl (lv_at hl 3 rfl) ?_
        refine lv_ishr hx hb d_M_tellFirst_33 ?_
        refine lv_iconst (v := nI 1) hx hb d_M_tellFirst_34 (by decide) ?_
        refine lv_iand hx hb d_M_tellFirst_35 ?_
        refine nr_as (v := nb_i (nb_t (nI gg) i)) (nb_bt_and1 (by omega)) ?_
        refine lv_iconst (v := nI 1) hx hb d_M_tellFirst_36 (by decide) ?_
        refine nr_icmpneB1 (tgt := 99) hx hb d_M_tellFirst_37 (by decide) (fun c_37 => ?_) (fun c_37 => ?_)
        · have hbf : gg.testBit i = false := by rw [← ng_tb (by omega)]; exact c_37
          have hg4 := hg
          have hz4 := ng_gz hz hbf
          have hf4 := hf
          have hd4 := hd.trans (ng_tf_f c_28 c_37)
          have hn4 := hn
          have hpr4 := hpr
          have hod4 := hod
          have htl4 := htl
          refine lv_iinc (v := (nI (i + 1))) (lv' := [(3, .int (nI (i + 1))), (0, .ref mt), (1, .ref fo), (2, .int (nI gg))]) hx hb d_M_tellFirst_99 hl (k := 3) rfl (nI_1 i) (by decide) rfl (fun ls hl => ?_)
          refine lv_goto (tgt := 23) hx hb d_M_tellFirst_102 (by decide) ?_
          exact ih_23 (i + 1) gg n1 tl1 tr1 le1 ho1 od1 (by omega) hg4 hz4 hf4 hd4 hn4 (by omega) hpr4 hod4 htl4 (by omega) _ _ hP hD hS ls (lv_sub hl [1, 2, 3, 0] rfl)
        · have hbt : gg.testBit i = true := by rw [← ng_tb (by omega)]; exact c_37
          obtain ⟨g0, hlp⟩ := ng_lp_eq hrl hg c_28 hbt hz
          have hrec := (hgr.2.2.2 gg g0 hg).1
          rw [hlp] at hrec
          obtain ⟨fp1, fp2, fp3, fp4⟩ := ng_fp_ok c_28 c_37 hrec hf
          obtain ⟨fw1, fw2, -⟩ := ng_ww_fin (by rw [fp4]; exact hf)
          rw [hpv i _ fp1 fp2] at fw1
          obtain ⟨y, hpt, hcy, -⟩ := ng_pv_some fw1
          have hyl : y < np := ng_pt_lt hpt hrow (fun z hz => hnr i z c_28 hz) fp2
          have hri := hrow i c_28
          obtain ⟨hd1, hd4, hn4⟩ := ng_dropP (hd.trans (ng_tf_t c_28 c_37))
          have hg4 : ng_wo gg i (ng_fp rl pw lw gg i) < 2 ^ rl := Nat.lt_of_le_of_lt (ng_wo_le (by omega)) hg
          have hz4 := ng_wo_z (b := ng_fp rl pw lw gg i) (by omega) (by omega) (by omega) hz
          have hf4 := fw2
          have hpr4 := ng_pr_s hd1 hpt hpr
          have hod4 : od1 ^^^ (ng_pset bd er oe ot wt ct ne) (row i) y = ng_od (ng_pset bd er oe ot wt ct ne) row nr ((ng_tf rl pw lw rl 0 (2 ^ rl - 1)).take (n1 + 1)) := by rw [hod]; exact (ng_od_s (ps := (ng_pset bd er oe ot wt ct ne)) hd1 hpt).symm
          refine lv_aload_n hx hb d_M_tellFirst_40 rfl (lv_at hl 0 rfl) ?_
          refine lv_iload_n hx hb d_M_tellFirst_41 rfl (lv_at hl 2 rfl) ?_
          refine lv_iload_n hx hb d_M_tellFirst_42 rfl (lv_at hl 3 rfl) ?_
          refine ro_Vi (As := [.int (nI gg), .int (nI i)]) (rest := []) ⟨hx, hb, hml, hown, hts⟩ (c_M_firstPartner l dC dI cI cL mt g wy xA nA pA qA kA rl pw lw gg i (by omega) hrl (by omega) hpw hgr.2.2.1) (cwV 2 hts (wg_V wk_M_60 wm_M_firstPartner we_M_firstPartner wi_M wc_M_firstPartner) rfl rfl rfl (by decide +kernel) ⟨Nat.le_of_ble_eq_true rfl, Nat.le_of_ble_eq_true rfl⟩) hK (hP.sub [7, 10, 11] rfl) (q0 := 0) rfl rfl rfl rfl hl.1 rfl (lv_room (Nat.le_of_ble_eq_true rfl)) d_M_tellFirst_43 ⟨Nat.zero_le _, Nat.zero_le _⟩ hS hP (fun H locs hP hS => ?_)
          refine lv_istore (lv' := [(4, .int (nI (ng_fp rl pw lw gg i))), (0, .ref mt), (1, .ref fo), (2, .int (nI gg)), (3, .int (nI i))]) hx hb d_M_tellFirst_46 hl (by decide) rfl (fun ls hl => ?_)
          refine lv_aload_n hx hb d_M_tellFirst_48 rfl (lv_at hl 1 rfl) ?_
          refine lv_iload_n hx hb d_M_tellFirst_49 rfl (lv_at hl 4 rfl) ?_
          refine lv_iload hx hb d_M_tellFirst_50 (lv_at hl 0 rfl) ?_
          refine ro_Vi (As := [.int (nI i), .int (nI (ng_fp rl pw lw gg i))]) (rest := []) ⟨hx, hb, hml, hown, hts⟩ (c_M_pointOf l dC dI cI cL mt g wy xA nA pA qA kA rl row nr i (ng_fp rl pw lw gg i) (by omega) (by omega)) (cwV 2 hts (wg_V wk_M_64 wm_M_pointOf we_M_pointOf wi_M wc_M_pointOf) rfl rfl rfl (by decide +kernel) ⟨Nat.le_of_ble_eq_true rfl, Nat.le_of_ble_eq_true rfl⟩) hK (hP.sub [7, 8, 9] rfl) (q0 := 0) rfl rfl rfl rfl hl.1 rfl (lv_room (Nat.le_of_ble_eq_true rfl)) d_M_tellFirst_52 ⟨Nat.zero_le _, Nat.zero_le _⟩ hS hP (fun H locs hP hS => ?_)
          rw [hpt]
          refine nr_as (v := nI y) rfl ?_
          refine lv_istore (lv' := [(5, .int (nI y)), (4, .int (nI (ng_fp rl pw lw gg i))), (0, .ref mt), (1, .ref fo), (2, .int (nI gg)), (3, .int (nI i))]) hx hb d_M_tellFirst_55 hl (by decide) rfl (fun ls hl => ?_)
          refine lv_aload_n hx hb d_M_tellFirst_57 rfl (lv_at hl 2 rfl) ?_
          refine va_get (D := (dC, dI)) (ci := 3) (v := .ref wy) (C := R_M) (T := F_M) (N := 8) hx hb hts iM hown hK hP 7 rfl rfl 1 (by decide) (hts _ (List.mem_cons_of_mem _ wk_M_35)) (fun _ h9 => h9) rfl d_M_tellFirst_58 ?_
          refine lv_aload_n hx hb d_M_tellFirst_61 rfl (lv_at hl 2 rfl) ?_
          refine va_get (D := (dC, dI)) (ci := 3) (v := .ref xA) (C := R_M) (T := F_M) (N := 8) hx hb hts iM hown hK hP 7 rfl rfl 2 (by decide) (hts _ (List.mem_cons_of_mem _ wk_M_9)) (fun _ h9 => h9) rfl d_M_tellFirst_62 ?_
          refine lv_iload_n hx hb d_M_tellFirst_65 rfl (lv_at hl 5 rfl) ?_
          refine nr_iald hx hb hK hP 8 0 rfl rfl (by omega) (by decide) d_M_tellFirst_66 ?_
          refine lv_iload hx hb d_M_tellFirst_67 (lv_at hl 0 rfl) ?_
          refine rw_Vv (wr := [cg_M mt g wy xA nA pA qA kA rl, cg_N xA cI 10 row, cg_O nA cI 10 nr, cg_N pA cI 100 pw, cg_N qA cI 1024 lw, cg_N kA cI 1024 lc, cg_F fo lA hA n1 (lw (2 ^ rl - 1)) (lc (2 ^ rl - 1)) od1, cg_N lA cI 10 le1, cg_N hA cI 10 ho1]) [0, 1, 2, 3, 4, 5, 6] [7, 8, 9, 10, 11, 12, 13, 14, 15] rfl rfl (by decide) (As := [.int (nI (row i)), .int (nI y)]) (rest := []) ⟨hx, hb, hml, hown, hts⟩ (c_W_trace l dC dI cI cL g tA oA uA wA sA np ne bd er vr wy cA rA mv tl1 oe ot wt ct tr1 (row i) y (by omega) (by omega) (by omega) hE hW hct) (cwV 2 hts (wg_V wk_M_67 wm_W_trace we_W_trace wi_W wc_W_trace) rfl rfl rfl (by decide +kernel) ⟨Nat.le_of_ble_eq_true rfl, Nat.le_of_ble_eq_true rfl⟩) hK (hP.sub [0, 1, 2, 3, 4, 5, 6] rfl) ((hD.sub [0, 1, 2, 3, 4, 5, 6] (by decide) rfl).weaken (fun _ _ _ _ => trivial)) (q0 := 4) rfl rfl rfl rfl hl.1 rfl (lv_room (Nat.le_of_ble_eq_true rfl)) d_M_tellFirst_69 ⟨Nat.zero_le _, Nat.zero_le _⟩ hS hP hD (fun tr2_3 H locs hw_5 hP hS => ?_)
          have hP : va_P (dC, dI) classes [cg_G g tA oA uA wA sA np ne bd er vr, cg_N oA cI 60 oe, cg_N uA cI 60 ot, cg_N wA cI 60 wt, cg_W wy g cA rA mv ((ng_path (ng_nxt bd er oe ot wt ct ne (max (row i) y)) (max (row i) y) 20 (min (row i) y)).length), cg_L cA cL 400 ct, cg_N rA cI 20 tr2_3, cg_M mt g wy xA nA pA qA kA rl, cg_N xA cI 10 row, cg_O nA cI 10 nr, cg_N pA cI 100 pw, cg_N qA cI 1024 lw, cg_N kA cI 1024 lc, cg_F fo lA hA n1 (lw (2 ^ rl - 1)) (lc (2 ^ rl - 1)) od1, cg_N lA cI 10 le1, cg_N hA cI 10 ho1] H := hP.sub [9, 10, 11, 12, 13, 14, 15, 0, 1, 2, 3, 4, 5, 6, 7, 8] rfl
          have hD : va_D A [cg_G g tA oA uA wA sA np ne bd er vr, cg_N oA cI 60 oe, cg_N uA cI 60 ot, cg_N wA cI 60 wt, cg_W wy g cA rA mv ((ng_path (ng_nxt bd er oe ot wt ct ne (max (row i) y)) (max (row i) y) 20 (min (row i) y)).length), cg_L cA cL 400 ct, cg_N rA cI 20 tr2_3, cg_M mt g wy xA nA pA qA kA rl, cg_N xA cI 10 row, cg_O nA cI 10 nr, cg_N pA cI 100 pw, cg_N qA cI 1024 lw, cg_N kA cI 1024 lc, cg_F fo lA hA n1 (lw (2 ^ rl - 1)) (lc (2 ^ rl - 1)) od1, cg_N lA cI 10 le1, cg_N hA cI 10 ho1] := rw_re hD rfl
          try dsimp only at hw_5
          have htr := hw_5
          have htl4 := hw_5.2
          refine lv_aload_n hx hb d_M_tellFirst_72 rfl (lv_at hl 3 rfl) ?_
          refine lv_aload_n hx hb d_M_tellFirst_73 rfl (lv_at hl 2 rfl) ?_
          refine va_get (D := (dC, dI)) (ci := 3) (v := .ref xA) (C := R_M) (T := F_M) (N := 8) hx hb hts iM hown hK hP 7 rfl rfl 2 (by decide) (hts _ (List.mem_cons_of_mem _ wk_M_9)) (fun _ h9 => h9) rfl d_M_tellFirst_74 ?_
          refine lv_iload_n hx hb d_M_tellFirst_77 rfl (lv_at hl 5 rfl) ?_
          refine nr_iald hx hb hK hP 8 0 rfl rfl (by omega) (by decide) d_M_tellFirst_78 ?_
          refine lv_iload hx hb d_M_tellFirst_79 (lv_at hl 0 rfl) ?_
          refine lv_aload_n hx hb d_M_tellFirst_81 rfl (lv_at hl 2 rfl) ?_
          refine va_get (D := (dC, dI)) (ci := 3) (v := .ref wy) (C := R_M) (T := F_M) (N := 8) hx hb hts iM hown hK hP 7 rfl rfl 1 (by decide) (hts _ (List.mem_cons_of_mem _ wk_M_35)) (fun _ h9 => h9) rfl d_M_tellFirst_82 ?_
          refine ro_Vl (As := []) (rest := [.int (nI y), .int (nI (row i)), .ref fo]) ⟨hx, hb, hml, hown, hts⟩ (c_W_trailAsSet l dC dI cI cL wy g cA rA mv ((ng_path (ng_nxt bd er oe ot wt ct ne (max (row i) y)) (max (row i) y) 20 (min (row i) y)).length) tr2_3 htr.2) (cwV 0 hts (wg_V wk_M_72 wm_W_trailAsSet we_W_trailAsSet wi_W wc_W_trailAsSet) rfl rfl rfl (by decide +kernel) ⟨Nat.le_of_ble_eq_true rfl, Nat.le_of_ble_eq_true rfl⟩) hK (hP.sub [4, 6] rfl) (q0 := 0) rfl rfl rfl rfl hl.1 rfl (lv_room (Nat.le_of_ble_eq_true rfl)) d_M_tellFirst_85 ⟨Nat.zero_le _, Nat.zero_le _⟩ hS hP (fun H locs hP hS => ?_)
          refine nr_asL (v := (ng_pset bd er oe ot wt ct ne) (row i) y) (ng_set_eq htr.1) ?_
          refine rw_Vv (wr := [cg_G g tA oA uA wA sA np ne bd er vr, cg_N oA cI 60 oe, cg_N uA cI 60 ot, cg_N wA cI 60 wt, cg_W wy g cA rA mv ((ng_path (ng_nxt bd er oe ot wt ct ne (max (row i) y)) (max (row i) y) 20 (min (row i) y)).length), cg_L cA cL 400 ct, cg_N rA cI 20 tr2_3, cg_M mt g wy xA nA pA qA kA rl, cg_N xA cI 10 row, cg_O nA cI 10 nr, cg_N pA cI 100 pw, cg_N qA cI 1024 lw, cg_N kA cI 1024 lc]) [13, 14, 15] [0, 1, 2, 3, 4, 5, 6, 7, 8, 9, 10, 11, 12] rfl rfl (by decide) (As := [.int (nI (row i)), .int (nI y), .long ((ng_pset bd er oe ot wt ct ne) (row i) y)]) (rest := []) ⟨hx, hb, hml, hown, hts⟩ (c_F_addPair l dC dI cI cL fo lA hA n1 (lw (2 ^ rl - 1)) (lc (2 ^ rl - 1)) od1 le1 ho1 (row i) y ((ng_pset bd er oe ot wt ct ne) (row i) y) (by omega)) (cwV 3 hts (wg_V wk_M_76 wm_F_addPair we_F_addPair wi_F wc_F_addPair) rfl rfl rfl (by decide +kernel) ⟨Nat.le_of_ble_eq_true rfl, Nat.le_of_ble_eq_true rfl⟩) hK (hP.sub [13, 14, 15] rfl) ((hD.sub [13, 14, 15] (by decide) rfl).weaken (fun _ _ _ _ => trivial)) (q0 := 0) rfl rfl rfl rfl hl.1 rfl (lv_room (Nat.le_of_ble_eq_true rfl)) d_M_tellFirst_88 ⟨Nat.zero_le _, Nat.zero_le _⟩ hS hP hD (fun u H locs hw_7 hP hS => ?_)
          have hP : va_P (dC, dI) classes [cg_G g tA oA uA wA sA np ne bd er vr, cg_N oA cI 60 oe, cg_N uA cI 60 ot, cg_N wA cI 60 wt, cg_W wy g cA rA mv ((ng_path (ng_nxt bd er oe ot wt ct ne (max (row i) y)) (max (row i) y) 20 (min (row i) y)).length), cg_L cA cL 400 ct, cg_N rA cI 20 tr2_3, cg_M mt g wy xA nA pA qA kA rl, cg_N xA cI 10 row, cg_O nA cI 10 nr, cg_N pA cI 100 pw, cg_N qA cI 1024 lw, cg_N kA cI 1024 lc, cg_F fo lA hA (n1 + 1) (lw (2 ^ rl - 1)) (lc (2 ^ rl - 1)) (od1 ^^^ ((ng_pset bd er oe ot wt ct ne) (row i) y)), cg_N lA cI 10 (va_up le1 n1 (row i)), cg_N hA cI 10 (va_up ho1 n1 y)] H := hP.sub [0, 1, 2, 3, 4, 5, 6, 7, 8, 9, 10, 11, 12, 13, 14, 15] rfl
          have hD : va_D A [cg_G g tA oA uA wA sA np ne bd er vr, cg_N oA cI 60 oe, cg_N uA cI 60 ot, cg_N wA cI 60 wt, cg_W wy g cA rA mv ((ng_path (ng_nxt bd er oe ot wt ct ne (max (row i) y)) (max (row i) y) 20 (min (row i) y)).length), cg_L cA cL 400 ct, cg_N rA cI 20 tr2_3, cg_M mt g wy xA nA pA qA kA rl, cg_N xA cI 10 row, cg_O nA cI 10 nr, cg_N pA cI 100 pw, cg_N qA cI 1024 lw, cg_N kA cI 1024 lc, cg_F fo lA hA (n1 + 1) (lw (2 ^ rl - 1)) (lc (2 ^ rl - 1)) (od1 ^^^ ((ng_pset bd er oe ot wt ct ne) (row i) y)), cg_N lA cI 10 (va_up le1 n1 (row i)), cg_N hA cI 10 (va_up ho1 n1 y)] := rw_re hD rfl
          refine lv_iload_n hx hb d_M_tellFirst_91 rfl (lv_at hl 4 rfl) ?_
          refine lv_iload_n hx hb d_M_tellFirst_92 rfl (lv_at hl 5 rfl) ?_
          refine lv_iload hx hb d_M_tellFirst_93 (lv_at hl 1 rfl) ?_
          refine ro_Si (As := [.int (nI gg), .int (nI i), .int (nI (ng_fp rl pw lw gg i))]) (rest := []) ⟨hx, hb, hml, hown, hts⟩ (c_M_without l dC dI cI cL gg i (ng_fp rl pw lw gg i) ) (cwS 3 hts (wg_S wk_M_80 ws_M_without wi_M wc_M_without) rfl rfl rfl (by decide +kernel) ⟨Nat.le_of_ble_eq_true rfl, Nat.le_of_ble_eq_true rfl⟩) hK (hP.sub [] rfl) rfl hl.1 rfl (lv_room (Nat.le_of_ble_eq_true rfl)) d_M_tellFirst_95 ⟨Nat.zero_le _, Nat.zero_le _⟩ hS hP (fun H locs hP hS => ?_)
          refine lv_istore_n (lv' := [(2, .int (nI (ng_wo gg i (ng_fp rl pw lw gg i)))), (5, .int (nI y)), (4, .int (nI (ng_fp rl pw lw gg i))), (0, .ref mt), (1, .ref fo), (3, .int (nI i))]) hx hb d_M_tellFirst_98 rfl hl (by decide) rfl (fun ls hl => ?_)
          refine lv_iinc (v := (nI (i + 1))) (lv' := [(3, .int (nI (i + 1))), (2, .int (nI (ng_wo gg i (ng_fp rl pw lw gg i)))), (5, .int (nI y)), (4, .int (nI (ng_fp rl pw lw gg i))), (0, .ref mt), (1, .ref fo)]) hx hb d_M_tellFirst_99 hl (k := 5) rfl (nI_1 i) (by decide) rfl (fun ls hl => ?_)
          refine lv_goto (tgt := 23) hx hb d_M_tellFirst_102 (by decide) ?_
          exact ih_23 (i + 1) (ng_wo gg i (ng_fp rl pw lw gg i)) (n1 + 1) ((ng_path (ng_nxt bd er oe ot wt ct ne (max (row i) y)) (max (row i) y) 20 (min (row i) y)).length) tr2_3 (va_up le1 n1 (row i)) (va_up ho1 n1 y) (od1 ^^^ ((ng_pset bd er oe ot wt ct ne) (row i) y)) (by omega) hg4 hz4 hf4 hd4 hn4 (by omega) hpr4 hod4 htl4 (by omega) _ _ hP hD hS ls (lv_sub hl [4, 5, 1, 0] rfl)
  exact lp_23 (rl - 0 + 1) 0 (2 ^ rl - 1) 0 tl tr le ho (lN 0) (by omega) (by omega) (fun j h => absurd h (Nat.not_lt_zero _)) hfin rfl (Nat.zero_le _) (Nat.le_refl _) (fun k h => absurd h (Nat.not_lt_zero _)) rfl htl0 (Nat.lt_succ_self _) _ _ hP hD hS ls (lv_sub hl [2, 3, 1, 0] rfl)
end
section
/-! PairDecoder's own words -/
def ng_ev (a b : Int32) : Bool := !decide (a < 0) && (!decide (nI 1000000 < a) && (!decide (b < 0) && !decide (nI 255 < b)))
def ng_pair (sz : Nat) (le ho : Nat → Nat) (i z : Int32) : Int32 := if nb_in sz i = true then (if z = 0 then nI (le i.toNatClampNeg) else if z = nI 1 then nI (ho i.toNatClampNeg) else -1) else -1
theorem nb_inI_t2 {n : Nat} {x : Int32} (h1 : ¬ x < 0) (h2 : x < nI n) : nb_in n x = true := nb_inI_t h1 (fun q => Int32.not_lt.mpr q h2)
theorem nb_inI_f3 {n : Nat} {x : Int32} (h2 : ¬ x < nI n) : nb_in n x = false := nb_inI_f2 (Int32.not_lt.mp h2)
def ng_early (bd : Int32) (tm le ho : Nat → Nat) (k t : Nat) : Bool := decide (tm (le k) < t) && (nb_t bd (ho k) || decide (tm (ho k) < t))
end
section
set_option maxHeartbeats 4000000 in
set_option maxRecDepth 100000 in
theorem c_P_areEdgeValues (l : Launch) (dC : Nat → ClassId) (dI : Nat → Nat → Nat) (cI cL : ClassId) (a b : Int32)  : Met l y_P_areEdgeValues w_P_areEdgeValues ({ frames := 0, cells := 0, slots := 0, locals := 0 } : Room) (va_Pc [.int a, .int b] (ro_B (dC, dI) classes [(cI, .int), (cL, .long)] [])) (ro_Qi (nb_i (ng_ev a b))) 0 0 ro_A := by
  refine Met.ofW (cc := b_P_areEdgeValues) (maxL := 2) (ret := (some .boolean)) (by decide) rfl ?_
  intro p e s m args below meth c s₁ B hml hv
  obtain ⟨rfl, hP, hK⟩ := hv
  have hx := B.exec
  have hb := B.bytes
  have hr := B.returns
  have hts := atoms_spec (ws := w_P_areEdgeValues) B.pre
  have hown : s.vm.findClass R_P = some m.cls := findClass_of_methodNamed B.named
  have hlocks := B.notSynchronized
  have hS : va_S ro_A s.heap s.heap [] := va_S.rf
  have hP : va_P (dC, dI) classes [] s.heap := hP
  have hl := lv_entry ([.int a, .int b]) (n := 2) (Nat.le_of_ble_eq_true rfl)
  rw [lg_entry_eq]
  generalize (lg_sl ([.int a, .int b]) ++ List.replicate (2 - (lg_sl ([.int a, .int b])).length) Slot.unset).toArray = ls at hl ⊢
  have hl : lv_has ls 2 [(0, .int a), (1, .int b)] := hl
  refine lv_iload_n hx hb d_P_areEdgeValues_0 rfl (lv_at hl 0 rfl) ?_
  refine lv_if_lt (tgt := 25) hx hb d_P_areEdgeValues_1 (by decide) (fun c_1 => ?_) (fun c_1 => ?_)
  · refine lv_iconst (v := nI 0) hx hb d_P_areEdgeValues_25 (by decide) ?_
    exact ro_zret hx hb hr hlocks hS rfl (by simp [nb_i, ng_ev, *]) d_P_areEdgeValues_26
  · refine lv_iload_n hx hb d_P_areEdgeValues_4 rfl (lv_at hl 0 rfl) ?_
    refine lv_ldc (v := 1000000) hx hb hown (hts _ (List.mem_cons_of_mem _ wk_P_184)) d_P_areEdgeValues_5 ?_
    refine nr_as (v := nI 1000000) (by decide) ?_
    refine lv_icmp_gt (tgt := 25) hx hb d_P_areEdgeValues_7 (by decide) (fun c_7 => ?_) (fun c_7 => ?_)
    · refine lv_iconst (v := nI 0) hx hb d_P_areEdgeValues_25 (by decide) ?_
      exact ro_zret hx hb hr hlocks hS rfl (by simp [nb_i, ng_ev, *]) d_P_areEdgeValues_26
    · refine lv_iload_n hx hb d_P_areEdgeValues_10 rfl (lv_at hl 1 rfl) ?_
      refine lv_if_lt (tgt := 25) hx hb d_P_areEdgeValues_11 (by decide) (fun c_11 => ?_) (fun c_11 => ?_)
      · refine lv_iconst (v := nI 0) hx hb d_P_areEdgeValues_25 (by decide) ?_
        exact ro_zret hx hb hr hlocks hS rfl (by simp [nb_i, ng_ev, *]) d_P_areEdgeValues_26
      · refine lv_iload_n hx hb d_P_areEdgeValues_14 rfl (lv_at hl 1 rfl) ?_
        refine lv_sipush (v := nI 255) hx hb d_P_areEdgeValues_15 (by decide) ?_
        refine lv_icmp_gt (tgt := 25) hx hb d_P_areEdgeValues_18 (by decide) (fun c_18 => ?_) (fun c_18 => ?_)
        · refine lv_iconst (v := nI 0) hx hb d_P_areEdgeValues_25 (by decide) ?_
          exact ro_zret hx hb hr hlocks hS rfl (by simp [nb_i, ng_ev, *]) d_P_areEdgeValues_26
        · refine lv_iconst (v := nI 1) hx hb d_P_areEdgeValues_21 (by decide) ?_
          refine lv_goto (tgt := 26) hx hb d_P_areEdgeValues_22 (by decide) ?_
          exact ro_zret hx hb hr hlocks hS rfl (by simp [nb_i, ng_ev, *]) d_P_areEdgeValues_26
set_option maxHeartbeats 4000000 in
set_option maxRecDepth 100000 in
theorem c_P_isFired (l : Launch) (dC : Nat → ClassId) (dI : Nat → Nat → Nat) (cI cL : ClassId) (pd g wy mt fo : Nat) (fi : Int32) (kp : Int64) (k : Nat) (hk : k < 32) : Met l y_P_isFired w_P_isFired ({ frames := 0, cells := 0, slots := 0, locals := 0 } : Room) (va_Pc [.ref pd, .int (nI k)] (ro_B (dC, dI) classes [(cI, .int), (cL, .long)] [cg_P pd g wy mt fo fi kp])) (ro_Qi (nb_i (nb_t fi k))) 0 0 ro_A := by
  refine Met.ofW (cc := b_P_isFired) (maxL := 2) (ret := (some .boolean)) (by decide) rfl ?_
  intro p e s m args below meth c s₁ B hml hv
  obtain ⟨rfl, hP, hK⟩ := hv
  have hx := B.exec
  have hb := B.bytes
  have hr := B.returns
  have hts := atoms_spec (ws := w_P_isFired) B.pre
  have hown : s.vm.findClass R_P = some m.cls := findClass_of_methodNamed B.named
  have hlocks := B.notSynchronized
  have iP : ∀ w ∈ w_P, w ∈ w_P_isFired := fun w h => List.mem_cons_of_mem _ (i_P w h)
  have hS : va_S ro_A s.heap s.heap [] := va_S.rf
  have hP : va_P (dC, dI) classes [cg_P pd g wy mt fo fi kp] s.heap := hP
  have hl := lv_entry ([.ref pd, .int (nI k)]) (n := 2) (Nat.le_of_ble_eq_true rfl)
  rw [lg_entry_eq]
  generalize (lg_sl ([.ref pd, .int (nI k)]) ++ List.replicate (2 - (lg_sl ([.ref pd, .int (nI k)])).length) Slot.unset).toArray = ls at hl ⊢
  have hl : lv_has ls 2 [(0, .ref pd), (1, .int (nI k))] := hl
  refine lv_aload_n hx hb d_P_isFired_0 rfl (lv_at hl 0 rfl) ?_
  refine va_get (D := (dC, dI)) (ci := 4) (v := .int fi) (C := R_P) (T := F_P) (N := 6) hx hb hts iP hown hK hP 0 rfl rfl 4 (by decide) (hts _ (List.mem_cons_of_mem _ wk_P_41)) (fun _ h9 => h9) rfl d_P_isFired_1 ?_
  refine lv_iload_n hx hb d_P_isFired_4 rfl (lv_at hl 1 rfl) ?_
  refine lv_ishr hx hb d_P_isFired_5 ?_
  refine lv_iconst (v := nI 1) hx hb d_P_isFired_6 (by decide) ?_
  refine lv_iand hx hb d_P_isFired_7 ?_
  refine nr_as (v := nb_i (nb_t fi k)) (nb_bt_and1 (by omega)) ?_
  refine lv_iconst (v := nI 1) hx hb d_P_isFired_8 (by decide) ?_
  refine nr_icmpneB1 (tgt := 16) hx hb d_P_isFired_9 (by decide) (fun c_9 => ?_) (fun c_9 => ?_)
  · refine lv_iconst (v := nI 0) hx hb d_P_isFired_16 (by decide) ?_
    exact ro_zret hx hb hr hlocks hS rfl (by simp [nb_i, *]) d_P_isFired_17
  · refine lv_iconst (v := nI 1) hx hb d_P_isFired_12 (by decide) ?_
    refine lv_goto (tgt := 17) hx hb d_P_isFired_13 (by decide) ?_
    exact ro_zret hx hb hr hlocks hS rfl (by simp [nb_i, *]) d_P_isFired_17
set_option maxHeartbeats 4000000 in
set_option maxRecDepth 100000 in
theorem c_P_point_ok (l : Launch) (dC : Nat → ClassId) (dI : Nat → Nat → Nat) (cI cL : ClassId) (pd g wy mt fo : Nat) (fi : Int32) (kp : Int64) (tA oA uA wA sA np ne : Nat) (bd : Int32) (er : Int64) (vr : Nat) (tm : Nat → Nat) (b : Bool) (t : Nat) (ht : t < 10) (hnp : np < 20) : Met l y_P_point w_P_point ({ frames := 1, cells := 0, slots := 0, locals := 23 } : Room) (va_Pc [.ref pd, .int (nb_i b), .int (nI t)] (rw_B (dC, dI) classes [(cI, .int), (cL, .long)] [cg_P pd g wy mt fo fi kp, cg_G g tA oA uA wA sA np ne bd er vr, cg_N tA cI 20 tm])) (rw_Qi (dC, dI) classes (rw_A [cg_P pd g wy mt fo fi kp, cg_G g tA oA uA wA sA np ne bd er vr, cg_N tA cI 20 tm]) (fun r (u : Unit) => r = (nI np)) (fun u => [cg_P pd g wy mt fo fi kp, cg_G g tA oA uA wA sA (np + 1) ne (ng_bd b bd np) er (vr + 1), cg_N tA cI 20 (va_up tm np t)])) 0 0 (rw_A [cg_P pd g wy mt fo fi kp, cg_G g tA oA uA wA sA np ne bd er vr, cg_N tA cI 20 tm]) := by
  refine Met.ofW (cc := b_P_point) (maxL := 3) (ret := (some .int)) (by decide) rfl ?_
  intro p e s m args below meth c s₁ B hml hv
  obtain ⟨rfl, hP, hK, hD0⟩ := hv
  have hx := B.exec
  have hb := B.bytes
  have hr := B.returns
  have hts := atoms_spec (ws := w_P_point) B.pre
  have hown : s.vm.findClass R_P = some m.cls := findClass_of_methodNamed B.named
  have hlocks := B.notSynchronized
  have iP : ∀ w ∈ w_P, w ∈ w_P_point := fun w h => List.mem_cons_of_mem _ (i_P w h)
  have iG : ∀ w ∈ w_G, w ∈ w_P_point := fun w h => List.mem_cons_of_mem _ (i_G w h)
  have hD := rw_own hD0
  generalize hAe : rw_A [cg_P pd g wy mt fo fi kp, cg_G g tA oA uA wA sA np ne bd er vr, cg_N tA cI 20 tm] = A at hD ⊢
  have hS : va_S A s.heap s.heap [] := va_S.rf
  have hP : va_P (dC, dI) classes [cg_P pd g wy mt fo fi kp, cg_G g tA oA uA wA sA np ne bd er vr, cg_N tA cI 20 tm] s.heap := hP
  have hl := lv_entry ([.ref pd, .int (nb_i b), .int (nI t)]) (n := 3) (Nat.le_of_ble_eq_true rfl)
  rw [lg_entry_eq]
  generalize (lg_sl ([.ref pd, .int (nb_i b), .int (nI t)]) ++ List.replicate (3 - (lg_sl ([.ref pd, .int (nb_i b), .int (nI t)])).length) Slot.unset).toArray = ls at hl ⊢
  have hl : lv_has ls 3 [(0, .ref pd), (1, .int (nb_i b)), (2, .int (nI t))] := hl
  refine lv_iload_n hx hb d_P_point_0 rfl (lv_at hl 2 rfl) ?_
  refine nr_if_lt (by omega) (tgt := 22) hx hb d_P_point_1 (by decide) (fun c => False.elim c) (fun c_1 => ?_)
  refine lv_iload_n hx hb d_P_point_4 rfl (lv_at hl 2 rfl) ?_
  refine lv_bipush (v := nI 10) hx hb d_P_point_5 (by decide) ?_
  refine nr_icmp_ge (by omega) (by omega) (tgt := 22) hx hb d_P_point_7 (by decide) (fun c_7 => ?_) (fun c_7 => ?_)
  · exact False.elim (by omega)
  · refine lv_aload_n hx hb d_P_point_10 rfl (lv_at hl 0 rfl) ?_
    refine va_get (D := (dC, dI)) (ci := 4) (v := .ref g) (C := R_P) (T := F_P) (N := 6) hx hb hts iP hown hK hP 0 rfl rfl 0 (by decide) (hts _ (List.mem_cons_of_mem _ wk_P_10)) (fun _ h9 => h9) rfl d_P_point_11 ?_
    refine va_get (D := (dC, dI)) (ci := 0) (v := .int (nI np)) (C := R_G) (T := F_G) (N := 10) hx hb hts iG hown hK hP 1 rfl rfl 5 (by decide) (hts _ (List.mem_cons_of_mem _ wk_P_49)) (fun _ h9 => h9) rfl d_P_point_14 ?_
    refine lv_bipush (v := nI 20) hx hb d_P_point_17 (by decide) ?_
    refine nr_icmp_lt (by omega) (by omega) (tgt := 24) hx hb d_P_point_19 (by decide) (fun c_19 => ?_) (fun c_19 => ?_)
    · refine lv_aload_n hx hb d_P_point_24 rfl (lv_at hl 0 rfl) ?_
      refine va_get (D := (dC, dI)) (ci := 4) (v := .ref g) (C := R_P) (T := F_P) (N := 6) hx hb hts iP hown hK hP 0 rfl rfl 0 (by decide) (hts _ (List.mem_cons_of_mem _ wk_P_10)) (fun _ h9 => h9) rfl d_P_point_25 ?_
      refine lv_iload_n hx hb d_P_point_28 rfl (lv_at hl 1 rfl) ?_
      refine lv_iload_n hx hb d_P_point_29 rfl (lv_at hl 2 rfl) ?_
      refine rw_Vi (wr := [cg_P pd g wy mt fo fi kp]) [1, 2] [0] rfl rfl (by decide) (As := [.int (nb_i b), .int (nI t)]) (rest := []) ⟨hx, hb, hml, hown, hts⟩ (c_G_addPoint l dC dI cI cL g tA oA uA wA sA np ne bd er vr tm b t (by omega)) (cwV 2 hts (wg_V wk_P_52 wm_G_addPoint we_G_addPoint wi_G wc_G_addPoint) rfl rfl rfl (by decide +kernel) ⟨Nat.le_of_ble_eq_true rfl, Nat.le_of_ble_eq_true rfl⟩) hK (hP.sub [1, 2] rfl) ((hD.sub [1, 2] (by decide) rfl).weaken (fun _ _ _ _ => trivial)) (q0 := 0) rfl rfl rfl rfl hl.1 rfl (lv_room (Nat.le_of_ble_eq_true rfl)) d_P_point_30 ⟨Nat.zero_le _, Nat.zero_le _⟩ hS hP hD (fun r_1 u H locs hw_2 hP hS => ?_)
      have hP : va_P (dC, dI) classes [cg_P pd g wy mt fo fi kp, cg_G g tA oA uA wA sA (np + 1) ne (ng_bd b bd np) er (vr + 1), cg_N tA cI 20 (va_up tm np t)] H := hP.sub [0, 1, 2] rfl
      have hD : va_D A [cg_P pd g wy mt fo fi kp, cg_G g tA oA uA wA sA (np + 1) ne (ng_bd b bd np) er (vr + 1), cg_N tA cI 20 (va_up tm np t)] := rw_re hD rfl
      subst hw_2
      exact rw_iret () hx hb hr hlocks hS hP rfl d_P_point_33
    · exact False.elim (by omega)
set_option maxHeartbeats 4000000 in
set_option maxRecDepth 100000 in
theorem c_P_point_no (l : Launch) (dC : Nat → ClassId) (dI : Nat → Nat → Nat) (cI cL : ClassId) (pd g wy mt fo : Nat) (fi : Int32) (kp : Int64) (tA oA uA wA sA np ne : Nat) (bd : Int32) (er : Int64) (vr : Nat) (b : Bool) (t : Int32) (hnp : np ≤ 20) (hno : nb_in 10 t = false ∨ np = 20) : Met l y_P_point w_P_point ({ frames := 1, cells := 0, slots := 0, locals := 23 } : Room) (va_Pc [.ref pd, .int (nb_i b), .int t] (ro_B (dC, dI) classes [(cI, .int), (cL, .long)] [cg_P pd g wy mt fo fi kp, cg_G g tA oA uA wA sA np ne bd er vr])) (ro_Qi (-1)) 0 0 ro_A := by
  refine Met.ofW (cc := b_P_point) (maxL := 3) (ret := (some .int)) (by decide) rfl ?_
  intro p e s m args below meth c s₁ B hml hv
  obtain ⟨rfl, hP, hK⟩ := hv
  have hx := B.exec
  have hb := B.bytes
  have hr := B.returns
  have hts := atoms_spec (ws := w_P_point) B.pre
  have hown : s.vm.findClass R_P = some m.cls := findClass_of_methodNamed B.named
  have hlocks := B.notSynchronized
  have iP : ∀ w ∈ w_P, w ∈ w_P_point := fun w h => List.mem_cons_of_mem _ (i_P w h)
  have iG : ∀ w ∈ w_G, w ∈ w_P_point := fun w h => List.mem_cons_of_mem _ (i_G w h)
  have hS : va_S ro_A s.heap s.heap [] := va_S.rf
  have hP : va_P (dC, dI) classes [cg_P pd g wy mt fo fi kp, cg_G g tA oA uA wA sA np ne bd er vr] s.heap := hP
  have hl := lv_entry ([.ref pd, .int (nb_i b), .int t]) (n := 3) (Nat.le_of_ble_eq_true rfl)
  rw [lg_entry_eq]
  generalize (lg_sl ([.ref pd, .int (nb_i b), .int t]) ++ List.replicate (3 - (lg_sl ([.ref pd, .int (nb_i b), .int t])).length) Slot.unset).toArray = ls at hl ⊢
  have hl : lv_has ls 3 [(0, .ref pd), (1, .int (nb_i b)), (2, .int t)] := hl
  refine lv_iload_n hx hb d_P_point_0 rfl (lv_at hl 2 rfl) ?_
  refine lv_if_lt (tgt := 22) hx hb d_P_point_1 (by decide) (fun c_1 => ?_) (fun c_1 => ?_)
  · refine lv_iconst (v := -1) hx hb d_P_point_22 (by decide) ?_
    exact ro_iret hx hb hr hlocks hS rfl d_P_point_23
  · refine lv_iload_n hx hb d_P_point_4 rfl (lv_at hl 2 rfl) ?_
    refine lv_bipush (v := nI 10) hx hb d_P_point_5 (by decide) ?_
    refine lv_icmp_ge (tgt := 22) hx hb d_P_point_7 (by decide) (fun c_7 => ?_) (fun c_7 => ?_)
    · refine lv_iconst (v := -1) hx hb d_P_point_22 (by decide) ?_
      exact ro_iret hx hb hr hlocks hS rfl d_P_point_23
    · refine lv_aload_n hx hb d_P_point_10 rfl (lv_at hl 0 rfl) ?_
      refine va_get (D := (dC, dI)) (ci := 4) (v := .ref g) (C := R_P) (T := F_P) (N := 6) hx hb hts iP hown hK hP 0 rfl rfl 0 (by decide) (hts _ (List.mem_cons_of_mem _ wk_P_10)) (fun _ h9 => h9) rfl d_P_point_11 ?_
      refine va_get (D := (dC, dI)) (ci := 0) (v := .int (nI np)) (C := R_G) (T := F_G) (N := 10) hx hb hts iG hown hK hP 1 rfl rfl 5 (by decide) (hts _ (List.mem_cons_of_mem _ wk_P_49)) (fun _ h9 => h9) rfl d_P_point_14 ?_
      refine lv_bipush (v := nI 20) hx hb d_P_point_17 (by decide) ?_
      refine nr_icmp_lt (by omega) (by omega) (tgt := 24) hx hb d_P_point_19 (by decide) (fun c_19 => ?_) (fun c_19 => ?_)
      · exact False.elim (by rcases hno with q | q; (rw [nb_inI_t c_1 c_7] at q; cases q); omega)
      · refine lv_iconst (v := -1) hx hb d_P_point_22 (by decide) ?_
        exact ro_iret hx hb hr hlocks hS rfl d_P_point_23
set_option maxHeartbeats 4000000 in
set_option maxRecDepth 100000 in
theorem c_P_edge_ok (l : Launch) (dC : Nat → ClassId) (dI : Nat → Nat → Nat) (cI cL : ClassId) (pd g wy mt fo : Nat) (fi : Int32) (kp : Int64) (tA oA uA wA sA np ne : Nat) (bd : Int32) (er : Int64) (vr : Nat) (oe ot wt sg : Nat → Nat) (a b w z : Nat) (hnp : np ≤ 20) (hj : ng_join np bd (nI a) (nI b) = true) (hv : ng_ev (nI w) (nI z) = true) (hne : ne < 60) : Met l y_P_edge w_P_edge ({ frames := 2, cells := 0, slots := 0, locals := 43 } : Room) (va_Pc [.ref pd, .int (nI a), .int (nI b), .int (nI w), .int (nI z)] (rw_B (dC, dI) classes [(cI, .int), (cL, .long)] [cg_P pd g wy mt fo fi kp, cg_G g tA oA uA wA sA np ne bd er vr, cg_N oA cI 60 oe, cg_N uA cI 60 ot, cg_N wA cI 60 wt, cg_N sA cI 60 sg])) (rw_Qi (dC, dI) classes (rw_A [cg_P pd g wy mt fo fi kp, cg_G g tA oA uA wA sA np ne bd er vr, cg_N oA cI 60 oe, cg_N uA cI 60 ot, cg_N wA cI 60 wt, cg_N sA cI 60 sg]) (fun r (u : Unit) => r = (nI ne)) (fun u => [cg_P pd g wy mt fo fi kp, cg_G g tA oA uA wA sA np (ne + 1) bd er (vr + 1), cg_N oA cI 60 (va_up oe ne a), cg_N uA cI 60 (va_up ot ne b), cg_N wA cI 60 (va_up wt ne w), cg_N sA cI 60 (va_up sg ne z)])) 0 0 (rw_A [cg_P pd g wy mt fo fi kp, cg_G g tA oA uA wA sA np ne bd er vr, cg_N oA cI 60 oe, cg_N uA cI 60 ot, cg_N wA cI 60 wt, cg_N sA cI 60 sg]) := by
  refine Met.ofW (cc := b_P_edge) (maxL := 5) (ret := (some .int)) (by decide) rfl ?_
  intro p e s m args below meth c s₁ B hml hv
  obtain ⟨rfl, hP, hK, hD0⟩ := hv
  have hx := B.exec
  have hb := B.bytes
  have hr := B.returns
  have hts := atoms_spec (ws := w_P_edge) B.pre
  have hown : s.vm.findClass R_P = some m.cls := findClass_of_methodNamed B.named
  have hlocks := B.notSynchronized
  have iP : ∀ w ∈ w_P, w ∈ w_P_edge := fun w h => List.mem_cons_of_mem _ (i_P w h)
  have hD := rw_own hD0
  generalize hAe : rw_A [cg_P pd g wy mt fo fi kp, cg_G g tA oA uA wA sA np ne bd er vr, cg_N oA cI 60 oe, cg_N uA cI 60 ot, cg_N wA cI 60 wt, cg_N sA cI 60 sg] = A at hD ⊢
  have hS : va_S A s.heap s.heap [] := va_S.rf
  have hP : va_P (dC, dI) classes [cg_P pd g wy mt fo fi kp, cg_G g tA oA uA wA sA np ne bd er vr, cg_N oA cI 60 oe, cg_N uA cI 60 ot, cg_N wA cI 60 wt, cg_N sA cI 60 sg] s.heap := hP
  have hl := lv_entry ([.ref pd, .int (nI a), .int (nI b), .int (nI w), .int (nI z)]) (n := 5) (Nat.le_of_ble_eq_true rfl)
  rw [lg_entry_eq]
  generalize (lg_sl ([.ref pd, .int (nI a), .int (nI b), .int (nI w), .int (nI z)]) ++ List.replicate (5 - (lg_sl ([.ref pd, .int (nI a), .int (nI b), .int (nI w), .int (nI z)])).length) Slot.unset).toArray = ls at hl ⊢
  have hl : lv_has ls 5 [(0, .ref pd), (1, .int (nI a)), (2, .int (nI b)), (3, .int (nI w)), (4, .int (nI z))] := hl
  refine lv_aload_n hx hb d_P_edge_0 rfl (lv_at hl 0 rfl) ?_
  refine va_get (D := (dC, dI)) (ci := 4) (v := .ref g) (C := R_P) (T := F_P) (N := 6) hx hb hts iP hown hK hP 0 rfl rfl 0 (by decide) (hts _ (List.mem_cons_of_mem _ wk_P_10)) (fun _ h9 => h9) rfl d_P_edge_1 ?_
  refine lv_iload_n hx hb d_P_edge_4 rfl (lv_at hl 1 rfl) ?_
  refine lv_iload_n hx hb d_P_edge_5 rfl (lv_at hl 2 rfl) ?_
  refine ro_Vi (As := [.int (nI a), .int (nI b)]) (rest := []) ⟨hx, hb, hml, hown, hts⟩ (c_G_canJoin l dC dI cI cL g tA oA uA wA sA np ne bd er vr (nI a) (nI b) (by omega)) (cwV 2 hts (wg_V wk_P_56 wm_G_canJoin we_G_canJoin wi_G wc_G_canJoin) rfl rfl rfl (by decide +kernel) ⟨Nat.le_of_ble_eq_true rfl, Nat.le_of_ble_eq_true rfl⟩) hK (hP.sub [1] rfl) (q0 := 0) rfl rfl rfl rfl hl.1 rfl (lv_room (Nat.le_of_ble_eq_true rfl)) d_P_edge_6 ⟨Nat.zero_le _, Nat.zero_le _⟩ hS hP (fun H locs hP hS => ?_)
  refine nr_ifeqB (tgt := 32) hx hb d_P_edge_9 (by decide) (fun c_9 => ?_) (fun c_9 => ?_)
  · exact False.elim (by first | (rw [hj] at c_9; cases c_9; done) | (rw [hv] at c_18; cases c_18; done) | (simp at c_29; omega))
  · refine lv_iload_n hx hb d_P_edge_12 rfl (lv_at hl 3 rfl) ?_
    refine lv_iload hx hb d_P_edge_13 (lv_at hl 4 rfl) ?_
    refine ro_Si (As := [.int (nI w), .int (nI z)]) (rest := []) ⟨hx, hb, hml, hown, hts⟩ (c_P_areEdgeValues l dC dI cI cL (nI w) (nI z) ) (cwS 2 hts (wg_S wk_P_60 ws_P_areEdgeValues wi_P wc_P_areEdgeValues) rfl rfl rfl (by decide +kernel) ⟨Nat.le_of_ble_eq_true rfl, Nat.le_of_ble_eq_true rfl⟩) hK (hP.sub [] rfl) rfl hl.1 rfl (lv_room (Nat.le_of_ble_eq_true rfl)) d_P_edge_15 ⟨Nat.zero_le _, Nat.zero_le _⟩ hS hP (fun H locs hP hS => ?_)
    refine nr_ifeqB (tgt := 32) hx hb d_P_edge_18 (by decide) (fun c_18 => ?_) (fun c_18 => ?_)
    · exact False.elim (by first | (rw [hj] at c_9; cases c_9; done) | (rw [hv] at c_18; cases c_18; done) | (simp at c_29; omega))
    · refine lv_aload_n hx hb d_P_edge_21 rfl (lv_at hl 0 rfl) ?_
      refine va_get (D := (dC, dI)) (ci := 4) (v := .ref g) (C := R_P) (T := F_P) (N := 6) hx hb hts iP hown hK hP 0 rfl rfl 0 (by decide) (hts _ (List.mem_cons_of_mem _ wk_P_10)) (fun _ h9 => h9) rfl d_P_edge_22 ?_
      refine lv_iconst (v := nI 1) hx hb d_P_edge_25 (by decide) ?_
      refine ro_Vi (As := [.int (nI 1)]) (rest := []) ⟨hx, hb, hml, hown, hts⟩ (c_G_hasRoomFor l dC dI cI cL g tA oA uA wA sA np ne bd er vr 1 (by omega) (by omega)) (cwV 1 hts (wg_V wk_P_63 wm_G_hasRoomFor we_G_hasRoomFor wi_G wc_G_hasRoomFor) rfl rfl rfl (by decide +kernel) ⟨Nat.le_of_ble_eq_true rfl, Nat.le_of_ble_eq_true rfl⟩) hK (hP.sub [1] rfl) (q0 := 0) rfl rfl rfl rfl hl.1 rfl (lv_room (Nat.le_of_ble_eq_true rfl)) d_P_edge_26 ⟨Nat.zero_le _, Nat.zero_le _⟩ hS hP (fun H locs hP hS => ?_)
      refine nr_ifneB (tgt := 34) hx hb d_P_edge_29 (by decide) (fun c_29 => ?_) (fun c_29 => ?_)
      · refine lv_aload_n hx hb d_P_edge_34 rfl (lv_at hl 0 rfl) ?_
        refine va_get (D := (dC, dI)) (ci := 4) (v := .ref g) (C := R_P) (T := F_P) (N := 6) hx hb hts iP hown hK hP 0 rfl rfl 0 (by decide) (hts _ (List.mem_cons_of_mem _ wk_P_10)) (fun _ h9 => h9) rfl d_P_edge_35 ?_
        refine lv_iload_n hx hb d_P_edge_38 rfl (lv_at hl 1 rfl) ?_
        refine lv_iload_n hx hb d_P_edge_39 rfl (lv_at hl 2 rfl) ?_
        refine lv_iload_n hx hb d_P_edge_40 rfl (lv_at hl 3 rfl) ?_
        refine lv_iload hx hb d_P_edge_41 (lv_at hl 4 rfl) ?_
        refine rw_Vi (wr := [cg_P pd g wy mt fo fi kp]) [1, 2, 3, 4, 5] [0] rfl rfl (by decide) (As := [.int (nI a), .int (nI b), .int (nI w), .int (nI z)]) (rest := []) ⟨hx, hb, hml, hown, hts⟩ (c_G_addEdge l dC dI cI cL g tA oA uA wA sA np ne bd er vr oe ot wt sg a b w z (by omega)) (cwV 4 hts (wg_V wk_P_67 wm_G_addEdge we_G_addEdge wi_G wc_G_addEdge) rfl rfl rfl (by decide +kernel) ⟨Nat.le_of_ble_eq_true rfl, Nat.le_of_ble_eq_true rfl⟩) hK (hP.sub [1, 2, 3, 4, 5] rfl) ((hD.sub [1, 2, 3, 4, 5] (by decide) rfl).weaken (fun _ _ _ _ => trivial)) (q0 := 0) rfl rfl rfl rfl hl.1 rfl (lv_room (Nat.le_of_ble_eq_true rfl)) d_P_edge_43 ⟨Nat.zero_le _, Nat.zero_le _⟩ hS hP hD (fun r_1 u H locs hw_2 hP hS => ?_)
        have hP : va_P (dC, dI) classes [cg_P pd g wy mt fo fi kp, cg_G g tA oA uA wA sA np (ne + 1) bd er (vr + 1), cg_N oA cI 60 (va_up oe ne a), cg_N uA cI 60 (va_up ot ne b), cg_N wA cI 60 (va_up wt ne w), cg_N sA cI 60 (va_up sg ne z)] H := hP.sub [0, 1, 2, 3, 4, 5] rfl
        have hD : va_D A [cg_P pd g wy mt fo fi kp, cg_G g tA oA uA wA sA np (ne + 1) bd er (vr + 1), cg_N oA cI 60 (va_up oe ne a), cg_N uA cI 60 (va_up ot ne b), cg_N wA cI 60 (va_up wt ne w), cg_N sA cI 60 (va_up sg ne z)] := rw_re hD rfl
        subst hw_2
        exact rw_iret () hx hb hr hlocks hS hP rfl d_P_edge_46
      · exact False.elim (by first | (rw [hj] at c_9; cases c_9; done) | (rw [hv] at c_18; cases c_18; done) | (simp at c_29; omega))
set_option maxHeartbeats 4000000 in
set_option maxRecDepth 100000 in
theorem c_P_edge_no (l : Launch) (dC : Nat → ClassId) (dI : Nat → Nat → Nat) (cI cL : ClassId) (pd g wy mt fo : Nat) (fi : Int32) (kp : Int64) (tA oA uA wA sA np ne : Nat) (bd : Int32) (er : Int64) (vr : Nat) (a b w z : Int32) (hnp : np ≤ 20) (hne : ne ≤ 60) (hno : ¬ (ng_join np bd a b = true ∧ ng_ev w z = true ∧ ne < 60)) : Met l y_P_edge w_P_edge ({ frames := 2, cells := 0, slots := 0, locals := 43 } : Room) (va_Pc [.ref pd, .int a, .int b, .int w, .int z] (ro_B (dC, dI) classes [(cI, .int), (cL, .long)] [cg_P pd g wy mt fo fi kp, cg_G g tA oA uA wA sA np ne bd er vr])) (ro_Qi (-1)) 0 0 ro_A := by
  refine Met.ofW (cc := b_P_edge) (maxL := 5) (ret := (some .int)) (by decide) rfl ?_
  intro p e s m args below meth c s₁ B hml hv
  obtain ⟨rfl, hP, hK⟩ := hv
  have hx := B.exec
  have hb := B.bytes
  have hr := B.returns
  have hts := atoms_spec (ws := w_P_edge) B.pre
  have hown : s.vm.findClass R_P = some m.cls := findClass_of_methodNamed B.named
  have hlocks := B.notSynchronized
  have iP : ∀ w ∈ w_P, w ∈ w_P_edge := fun w h => List.mem_cons_of_mem _ (i_P w h)
  have hS : va_S ro_A s.heap s.heap [] := va_S.rf
  have hP : va_P (dC, dI) classes [cg_P pd g wy mt fo fi kp, cg_G g tA oA uA wA sA np ne bd er vr] s.heap := hP
  have hl := lv_entry ([.ref pd, .int a, .int b, .int w, .int z]) (n := 5) (Nat.le_of_ble_eq_true rfl)
  rw [lg_entry_eq]
  generalize (lg_sl ([.ref pd, .int a, .int b, .int w, .int z]) ++ List.replicate (5 - (lg_sl ([.ref pd, .int a, .int b, .int w, .int z])).length) Slot.unset).toArray = ls at hl ⊢
  have hl : lv_has ls 5 [(0, .ref pd), (1, .int a), (2, .int b), (3, .int w), (4, .int z)] := hl
  refine lv_aload_n hx hb d_P_edge_0 rfl (lv_at hl 0 rfl) ?_
  refine va_get (D := (dC, dI)) (ci := 4) (v := .ref g) (C := R_P) (T := F_P) (N := 6) hx hb hts iP hown hK hP 0 rfl rfl 0 (by decide) (hts _ (List.mem_cons_of_mem _ wk_P_10)) (fun _ h9 => h9) rfl d_P_edge_1 ?_
  refine lv_iload_n hx hb d_P_edge_4 rfl (lv_at hl 1 rfl) ?_
  refine lv_iload_n hx hb d_P_edge_5 rfl (lv_at hl 2 rfl) ?_
  refine ro_Vi (As := [.int a, .int b]) (rest := []) ⟨hx, hb, hml, hown, hts⟩ (c_G_canJoin l dC dI cI cL g tA oA uA wA sA np ne bd er vr a b (by omega)) (cwV 2 hts (wg_V wk_P_56 wm_G_canJoin we_G_canJoin wi_G wc_G_canJoin) rfl rfl rfl (by decide +kernel) ⟨Nat.le_of_ble_eq_true rfl, Nat.le_of_ble_eq_true rfl⟩) hK (hP.sub [1] rfl) (q0 := 0) rfl rfl rfl rfl hl.1 rfl (lv_room (Nat.le_of_ble_eq_true rfl)) d_P_edge_6 ⟨Nat.zero_le _, Nat.zero_le _⟩ hS hP (fun H locs hP hS => ?_)
  refine nr_ifeqB (tgt := 32) hx hb d_P_edge_9 (by decide) (fun c_9 => ?_) (fun c_9 => ?_)
  · refine lv_iconst (v := -1) hx hb d_P_edge_32 (by decide) ?_
    exact ro_iret hx hb hr hlocks hS rfl d_P_edge_33
  · refine lv_iload_n hx hb d_P_edge_12 rfl (lv_at hl 3 rfl) ?_
    refine lv_iload hx hb d_P_edge_13 (lv_at hl 4 rfl) ?_
    refine ro_Si (As := [.int w, .int z]) (rest := []) ⟨hx, hb, hml, hown, hts⟩ (c_P_areEdgeValues l dC dI cI cL w z ) (cwS 2 hts (wg_S wk_P_60 ws_P_areEdgeValues wi_P wc_P_areEdgeValues) rfl rfl rfl (by decide +kernel) ⟨Nat.le_of_ble_eq_true rfl, Nat.le_of_ble_eq_true rfl⟩) hK (hP.sub [] rfl) rfl hl.1 rfl (lv_room (Nat.le_of_ble_eq_true rfl)) d_P_edge_15 ⟨Nat.zero_le _, Nat.zero_le _⟩ hS hP (fun H locs hP hS => ?_)
    refine nr_ifeqB (tgt := 32) hx hb d_P_edge_18 (by decide) (fun c_18 => ?_) (fun c_18 => ?_)
    · refine lv_iconst (v := -1) hx hb d_P_edge_32 (by decide) ?_
      exact ro_iret hx hb hr hlocks hS rfl d_P_edge_33
    · refine lv_aload_n hx hb d_P_edge_21 rfl (lv_at hl 0 rfl) ?_
      refine va_get (D := (dC, dI)) (ci := 4) (v := .ref g) (C := R_P) (T := F_P) (N := 6) hx hb hts iP hown hK hP 0 rfl rfl 0 (by decide) (hts _ (List.mem_cons_of_mem _ wk_P_10)) (fun _ h9 => h9) rfl d_P_edge_22 ?_
      refine lv_iconst (v := nI 1) hx hb d_P_edge_25 (by decide) ?_
      refine ro_Vi (As := [.int (nI 1)]) (rest := []) ⟨hx, hb, hml, hown, hts⟩ (c_G_hasRoomFor l dC dI cI cL g tA oA uA wA sA np ne bd er vr 1 (by omega) (by omega)) (cwV 1 hts (wg_V wk_P_63 wm_G_hasRoomFor we_G_hasRoomFor wi_G wc_G_hasRoomFor) rfl rfl rfl (by decide +kernel) ⟨Nat.le_of_ble_eq_true rfl, Nat.le_of_ble_eq_true rfl⟩) hK (hP.sub [1] rfl) (q0 := 0) rfl rfl rfl rfl hl.1 rfl (lv_room (Nat.le_of_ble_eq_true rfl)) d_P_edge_26 ⟨Nat.zero_le _, Nat.zero_le _⟩ hS hP (fun H locs hP hS => ?_)
      refine nr_ifneB (tgt := 34) hx hb d_P_edge_29 (by decide) (fun c_29 => ?_) (fun c_29 => ?_)
      · exact False.elim (hno ⟨c_9, c_18, by simp at c_29; omega⟩)
      · refine lv_iconst (v := -1) hx hb d_P_edge_32 (by decide) ?_
        exact ro_iret hx hb hr hlocks hS rfl d_P_edge_33
set_option maxHeartbeats 4000000 in
set_option maxRecDepth 100000 in
theorem c_P_erase_ok (l : Launch) (dC : Nat → ClassId) (dI : Nat → Nat → Nat) (cI cL : ClassId) (pd g wy mt fo : Nat) (fi : Int32) (kp : Int64) (tA oA uA wA sA np ne : Nat) (bd : Int32) (er : Int64) (vr : Nat) (k : Nat) (b : Bool) (hne : ne ≤ 60) (hk : k < ne) (hbb : nb_u er k ≠ b) : Met l y_P_erase w_P_erase ({ frames := 1, cells := 0, slots := 0, locals := 21 } : Room) (va_Pc [.ref pd, .int (nI k), .int (nb_i b)] (rw_B (dC, dI) classes [(cI, .int), (cL, .long)] [cg_P pd g wy mt fo fi kp, cg_G g tA oA uA wA sA np ne bd er vr])) (rw_Qi (dC, dI) classes (rw_A [cg_P pd g wy mt fo fi kp, cg_G g tA oA uA wA sA np ne bd er vr]) (fun r (u : Unit) => r = nb_i true) (fun u => [cg_P pd g wy mt fo fi kp, cg_G g tA oA uA wA sA np ne bd (er ^^^ nb_p k) (vr + 1)])) 0 0 (rw_A [cg_P pd g wy mt fo fi kp, cg_G g tA oA uA wA sA np ne bd er vr]) := by
  refine Met.ofW (cc := b_P_erase) (maxL := 3) (ret := (some .boolean)) (by decide) rfl ?_
  intro p e s m args below meth c s₁ B hml hv
  obtain ⟨rfl, hP, hK, hD0⟩ := hv
  have hx := B.exec
  have hb := B.bytes
  have hr := B.returns
  have hts := atoms_spec (ws := w_P_erase) B.pre
  have hown : s.vm.findClass R_P = some m.cls := findClass_of_methodNamed B.named
  have hlocks := B.notSynchronized
  have iP : ∀ w ∈ w_P, w ∈ w_P_erase := fun w h => List.mem_cons_of_mem _ (i_P w h)
  have hD := rw_own hD0
  generalize hAe : rw_A [cg_P pd g wy mt fo fi kp, cg_G g tA oA uA wA sA np ne bd er vr] = A at hD ⊢
  have hS : va_S A s.heap s.heap [] := va_S.rf
  have hP : va_P (dC, dI) classes [cg_P pd g wy mt fo fi kp, cg_G g tA oA uA wA sA np ne bd er vr] s.heap := hP
  have hl := lv_entry ([.ref pd, .int (nI k), .int (nb_i b)]) (n := 3) (Nat.le_of_ble_eq_true rfl)
  rw [lg_entry_eq]
  generalize (lg_sl ([.ref pd, .int (nI k), .int (nb_i b)]) ++ List.replicate (3 - (lg_sl ([.ref pd, .int (nI k), .int (nb_i b)])).length) Slot.unset).toArray = ls at hl ⊢
  have hl : lv_has ls 3 [(0, .ref pd), (1, .int (nI k)), (2, .int (nb_i b))] := hl
  refine lv_aload_n hx hb d_P_erase_0 rfl (lv_at hl 0 rfl) ?_
  refine va_get (D := (dC, dI)) (ci := 4) (v := .ref g) (C := R_P) (T := F_P) (N := 6) hx hb hts iP hown hK hP 0 rfl rfl 0 (by decide) (hts _ (List.mem_cons_of_mem _ wk_P_10)) (fun _ h9 => h9) rfl d_P_erase_1 ?_
  refine lv_iload_n hx hb d_P_erase_4 rfl (lv_at hl 1 rfl) ?_
  refine ro_Vi (As := [.int (nI k)]) (rest := []) ⟨hx, hb, hml, hown, hts⟩ (c_G_hasEdge l dC dI cI cL g tA oA uA wA sA np ne bd er vr (nI k) ) (cwV 1 hts (wg_V wk_P_97 wm_G_hasEdge we_G_hasEdge wi_G wc_G_hasEdge) rfl rfl rfl (by decide +kernel) ⟨Nat.le_of_ble_eq_true rfl, Nat.le_of_ble_eq_true rfl⟩) hK (hP.sub [1] rfl) (q0 := 0) rfl rfl rfl rfl hl.1 rfl (lv_room (Nat.le_of_ble_eq_true rfl)) d_P_erase_5 ⟨Nat.zero_le _, Nat.zero_le _⟩ hS hP (fun H locs hP hS => ?_)
  refine nr_ifeqB (tgt := 23) hx hb d_P_erase_8 (by decide) (fun c_8 => ?_) (fun c_8 => ?_)
  · exact False.elim (by first | (rw [nb_inI_nI (by omega) (by omega), decide_eq_true hk] at c_8; cases c_8; done) | exact hbb (nb_bI_inj c_20))
  · refine lv_aload_n hx hb d_P_erase_11 rfl (lv_at hl 0 rfl) ?_
    refine va_get (D := (dC, dI)) (ci := 4) (v := .ref g) (C := R_P) (T := F_P) (N := 6) hx hb hts iP hown hK hP 0 rfl rfl 0 (by decide) (hts _ (List.mem_cons_of_mem _ wk_P_10)) (fun _ h9 => h9) rfl d_P_erase_12 ?_
    refine lv_iload_n hx hb d_P_erase_15 rfl (lv_at hl 1 rfl) ?_
    refine ro_Vi (As := [.int (nI k)]) (rest := []) ⟨hx, hb, hml, hown, hts⟩ (c_G_isErased l dC dI cI cL g tA oA uA wA sA np ne bd er vr k (by omega)) (cwV 1 hts (wg_V wk_P_100 wm_G_isErased we_G_isErased wi_G wc_G_isErased) rfl rfl rfl (by decide +kernel) ⟨Nat.le_of_ble_eq_true rfl, Nat.le_of_ble_eq_true rfl⟩) hK (hP.sub [1] rfl) (q0 := 0) rfl rfl rfl rfl hl.1 rfl (lv_room (Nat.le_of_ble_eq_true rfl)) d_P_erase_16 ⟨Nat.zero_le _, Nat.zero_le _⟩ hS hP (fun H locs hP hS => ?_)
    refine lv_iload_n hx hb d_P_erase_19 rfl (lv_at hl 2 rfl) ?_
    refine lv_icmp_ne (tgt := 25) hx hb d_P_erase_20 (by decide) (fun c_20 => ?_) (fun c_20 => ?_)
    · refine lv_aload_n hx hb d_P_erase_25 rfl (lv_at hl 0 rfl) ?_
      refine va_get (D := (dC, dI)) (ci := 4) (v := .ref g) (C := R_P) (T := F_P) (N := 6) hx hb hts iP hown hK hP 0 rfl rfl 0 (by decide) (hts _ (List.mem_cons_of_mem _ wk_P_10)) (fun _ h9 => h9) rfl d_P_erase_26 ?_
      refine lv_iload_n hx hb d_P_erase_29 rfl (lv_at hl 1 rfl) ?_
      refine rw_Vv (wr := [cg_P pd g wy mt fo fi kp]) [1] [0] rfl rfl (by decide) (As := [.int (nI k)]) (rest := []) ⟨hx, hb, hml, hown, hts⟩ (c_G_turnErased l dC dI cI cL g tA oA uA wA sA np ne bd er vr k ) (cwV 1 hts (wg_V wk_P_103 wm_G_turnErased we_G_turnErased wi_G wc_G_turnErased) rfl rfl rfl (by decide +kernel) ⟨Nat.le_of_ble_eq_true rfl, Nat.le_of_ble_eq_true rfl⟩) hK (hP.sub [1] rfl) ((hD.sub [1] (by decide) rfl).weaken (fun _ _ _ _ => trivial)) (q0 := 0) rfl rfl rfl rfl hl.1 rfl (lv_room (Nat.le_of_ble_eq_true rfl)) d_P_erase_30 ⟨Nat.zero_le _, Nat.zero_le _⟩ hS hP hD (fun u H locs hw_2 hP hS => ?_)
      have hP : va_P (dC, dI) classes [cg_P pd g wy mt fo fi kp, cg_G g tA oA uA wA sA np ne bd (er ^^^ nb_p k) (vr + 1)] H := hP.sub [0, 1] rfl
      have hD : va_D A [cg_P pd g wy mt fo fi kp, cg_G g tA oA uA wA sA np ne bd (er ^^^ nb_p k) (vr + 1)] := rw_re hD rfl
      refine lv_iconst (v := nI 1) hx hb d_P_erase_33 (by decide) ?_
      exact rw_zret () (b := true) hx hb hr hlocks hS hP rfl rfl d_P_erase_34
    · exact False.elim (by first | (rw [nb_inI_nI (by omega) (by omega), decide_eq_true hk] at c_8; cases c_8; done) | exact hbb (nb_bI_inj c_20))
set_option maxHeartbeats 4000000 in
set_option maxRecDepth 100000 in
theorem c_P_erase_no (l : Launch) (dC : Nat → ClassId) (dI : Nat → Nat → Nat) (cI cL : ClassId) (pd g wy mt fo : Nat) (fi : Int32) (kp : Int64) (tA oA uA wA sA np ne : Nat) (bd : Int32) (er : Int64) (vr : Nat) (k : Int32) (b : Bool) (hne : ne ≤ 60) (hno : ∀ j, j < ne → k = nI j → nb_u er j = b) : Met l y_P_erase w_P_erase ({ frames := 1, cells := 0, slots := 0, locals := 21 } : Room) (va_Pc [.ref pd, .int k, .int (nb_i b)] (ro_B (dC, dI) classes [(cI, .int), (cL, .long)] [cg_P pd g wy mt fo fi kp, cg_G g tA oA uA wA sA np ne bd er vr])) (ro_Qi (nb_i false)) 0 0 ro_A := by
  refine Met.ofW (cc := b_P_erase) (maxL := 3) (ret := (some .boolean)) (by decide) rfl ?_
  intro p e s m args below meth c s₁ B hml hv
  obtain ⟨rfl, hP, hK⟩ := hv
  have hx := B.exec
  have hb := B.bytes
  have hr := B.returns
  have hts := atoms_spec (ws := w_P_erase) B.pre
  have hown : s.vm.findClass R_P = some m.cls := findClass_of_methodNamed B.named
  have hlocks := B.notSynchronized
  have iP : ∀ w ∈ w_P, w ∈ w_P_erase := fun w h => List.mem_cons_of_mem _ (i_P w h)
  have hS : va_S ro_A s.heap s.heap [] := va_S.rf
  have hP : va_P (dC, dI) classes [cg_P pd g wy mt fo fi kp, cg_G g tA oA uA wA sA np ne bd er vr] s.heap := hP
  have hl := lv_entry ([.ref pd, .int k, .int (nb_i b)]) (n := 3) (Nat.le_of_ble_eq_true rfl)
  rw [lg_entry_eq]
  generalize (lg_sl ([.ref pd, .int k, .int (nb_i b)]) ++ List.replicate (3 - (lg_sl ([.ref pd, .int k, .int (nb_i b)])).length) Slot.unset).toArray = ls at hl ⊢
  have hl : lv_has ls 3 [(0, .ref pd), (1, .int k), (2, .int (nb_i b))] := hl
  refine lv_aload_n hx hb d_P_erase_0 rfl (lv_at hl 0 rfl) ?_
  refine va_get (D := (dC, dI)) (ci := 4) (v := .ref g) (C := R_P) (T := F_P) (N := 6) hx hb hts iP hown hK hP 0 rfl rfl 0 (by decide) (hts _ (List.mem_cons_of_mem _ wk_P_10)) (fun _ h9 => h9) rfl d_P_erase_1 ?_
  refine lv_iload_n hx hb d_P_erase_4 rfl (lv_at hl 1 rfl) ?_
  refine ro_Vi (As := [.int k]) (rest := []) ⟨hx, hb, hml, hown, hts⟩ (c_G_hasEdge l dC dI cI cL g tA oA uA wA sA np ne bd er vr k ) (cwV 1 hts (wg_V wk_P_97 wm_G_hasEdge we_G_hasEdge wi_G wc_G_hasEdge) rfl rfl rfl (by decide +kernel) ⟨Nat.le_of_ble_eq_true rfl, Nat.le_of_ble_eq_true rfl⟩) hK (hP.sub [1] rfl) (q0 := 0) rfl rfl rfl rfl hl.1 rfl (lv_room (Nat.le_of_ble_eq_true rfl)) d_P_erase_5 ⟨Nat.zero_le _, Nat.zero_le _⟩ hS hP (fun H locs hP hS => ?_)
  refine nr_ifeqB (tgt := 23) hx hb d_P_erase_8 (by decide) (fun c_8 => ?_) (fun c_8 => ?_)
  · refine lv_iconst (v := nI 0) hx hb d_P_erase_23 (by decide) ?_
    exact ro_zret hx hb hr hlocks hS rfl rfl d_P_erase_24
  · obtain ⟨j, hj, rfl⟩ := nb_inI_of (by omega) c_8
    refine lv_aload_n hx hb d_P_erase_11 rfl (lv_at hl 0 rfl) ?_
    refine va_get (D := (dC, dI)) (ci := 4) (v := .ref g) (C := R_P) (T := F_P) (N := 6) hx hb hts iP hown hK hP 0 rfl rfl 0 (by decide) (hts _ (List.mem_cons_of_mem _ wk_P_10)) (fun _ h9 => h9) rfl d_P_erase_12 ?_
    refine lv_iload_n hx hb d_P_erase_15 rfl (lv_at hl 1 rfl) ?_
    refine ro_Vi (As := [.int (nI j)]) (rest := []) ⟨hx, hb, hml, hown, hts⟩ (c_G_isErased l dC dI cI cL g tA oA uA wA sA np ne bd er vr j (by omega)) (cwV 1 hts (wg_V wk_P_100 wm_G_isErased we_G_isErased wi_G wc_G_isErased) rfl rfl rfl (by decide +kernel) ⟨Nat.le_of_ble_eq_true rfl, Nat.le_of_ble_eq_true rfl⟩) hK (hP.sub [1] rfl) (q0 := 0) rfl rfl rfl rfl hl.1 rfl (lv_room (Nat.le_of_ble_eq_true rfl)) d_P_erase_16 ⟨Nat.zero_le _, Nat.zero_le _⟩ hS hP (fun H locs hP hS => ?_)
    refine lv_iload_n hx hb d_P_erase_19 rfl (lv_at hl 2 rfl) ?_
    refine lv_icmp_ne (tgt := 25) hx hb d_P_erase_20 (by decide) (fun c_20 => ?_) (fun c_20 => ?_)
    · exact False.elim (c_20 (by rw [hno j hj rfl]))
    · refine lv_iconst (v := nI 0) hx hb d_P_erase_23 (by decide) ?_
      exact ro_zret hx hb hr hlocks hS rfl rfl d_P_erase_24
set_option maxHeartbeats 4000000 in
set_option maxRecDepth 100000 in
theorem c_P_pair (l : Launch) (dC : Nat → ClassId) (dI : Nat → Nat → Nat) (cI cL : ClassId) (pd g wy mt fo : Nat) (fi : Int32) (kp : Int64) (lA hA sz fw fk : Nat) (od : Int64) (le ho : Nat → Nat) (i z : Int32) (hsz : sz ≤ 10) : Met l y_P_pair w_P_pair ({ frames := 0, cells := 0, slots := 0, locals := 0 } : Room) (va_Pc [.ref pd, .int i, .int z] (ro_B (dC, dI) classes [(cI, .int), (cL, .long)] [cg_P pd g wy mt fo fi kp, cg_F fo lA hA sz fw fk od, cg_N lA cI 10 le, cg_N hA cI 10 ho])) (ro_Qi (ng_pair sz le ho i z)) 0 0 ro_A := by
  refine Met.ofW (cc := b_P_pair) (maxL := 3) (ret := (some .int)) (by decide) rfl ?_
  intro p e s m args below meth c s₁ B hml hv
  obtain ⟨rfl, hP, hK⟩ := hv
  have hx := B.exec
  have hb := B.bytes
  have hr := B.returns
  have hts := atoms_spec (ws := w_P_pair) B.pre
  have hown : s.vm.findClass R_P = some m.cls := findClass_of_methodNamed B.named
  have hlocks := B.notSynchronized
  have iP : ∀ w ∈ w_P, w ∈ w_P_pair := fun w h => List.mem_cons_of_mem _ (i_P w h)
  have iF : ∀ w ∈ w_F, w ∈ w_P_pair := fun w h => List.mem_cons_of_mem _ (i_F w h)
  have hS : va_S ro_A s.heap s.heap [] := va_S.rf
  have hP : va_P (dC, dI) classes [cg_P pd g wy mt fo fi kp, cg_F fo lA hA sz fw fk od, cg_N lA cI 10 le, cg_N hA cI 10 ho] s.heap := hP
  have hl := lv_entry ([.ref pd, .int i, .int z]) (n := 3) (Nat.le_of_ble_eq_true rfl)
  rw [lg_entry_eq]
  generalize (lg_sl ([.ref pd, .int i, .int z]) ++ List.replicate (3 - (lg_sl ([.ref pd, .int i, .int z])).length) Slot.unset).toArray = ls at hl ⊢
  have hl : lv_has ls 3 [(0, .ref pd), (1, .int i), (2, .int z)] := hl
  refine lv_iload_n hx hb d_P_pair_0 rfl (lv_at hl 1 rfl) ?_
  refine lv_if_lt (tgt := 15) hx hb d_P_pair_1 (by decide) (fun c_1 => ?_) (fun c_1 => ?_)
  · refine lv_iconst (v := -1) hx hb d_P_pair_15 (by decide) ?_
    exact ro_iret hx hb hr hlocks hS (by first | (rw [ng_pair, nb_inI_f1 c_1]; rfl) | (rw [ng_pair, nb_inI_f3 c_12]; rfl)) d_P_pair_16
  · refine lv_iload_n hx hb d_P_pair_4 rfl (lv_at hl 1 rfl) ?_
    refine lv_aload_n hx hb d_P_pair_5 rfl (lv_at hl 0 rfl) ?_
    refine va_get (D := (dC, dI)) (ci := 4) (v := .ref fo) (C := R_P) (T := F_P) (N := 6) hx hb hts iP hown hK hP 0 rfl rfl 3 (by decide) (hts _ (List.mem_cons_of_mem _ wk_P_37)) (fun _ h9 => h9) rfl d_P_pair_6 ?_
    refine va_get (D := (dC, dI)) (ci := 2) (v := .int (nI sz)) (C := R_F) (T := F_F) (N := 6) hx hb hts iF hown hK hP 1 rfl rfl 2 (by decide) (hts _ (List.mem_cons_of_mem _ wk_P_141)) (fun _ h9 => h9) rfl d_P_pair_9 ?_
    refine lv_icmp_lt (tgt := 17) hx hb d_P_pair_12 (by decide) (fun c_12 => ?_) (fun c_12 => ?_)
    · obtain ⟨j, hj, rfl⟩ := nb_inI_of (n := sz) (by omega) (nb_inI_t2 c_1 c_12)
      have hij : nb_in sz (nI j) = true := by rw [nb_inI_nI (by omega) (by omega), decide_eq_true hj]
      have ej := nI_clamp (n := j) (by omega)
      refine lv_iload_n hx hb d_P_pair_17 rfl (lv_at hl 2 rfl) ?_
      refine lv_if_ne (tgt := 31) hx hb d_P_pair_18 (by decide) (fun c_18 => ?_) (fun c_18 => ?_)
      · refine lv_iload_n hx hb d_P_pair_31 rfl (lv_at hl 2 rfl) ?_
        refine lv_iconst (v := nI 1) hx hb d_P_pair_32 (by decide) ?_
        refine lv_icmp_ne (tgt := 48) hx hb d_P_pair_33 (by decide) (fun c_33 => ?_) (fun c_33 => ?_)
        · refine lv_iconst (v := -1) hx hb d_P_pair_48 (by decide) ?_
          exact ro_iret hx hb hr hlocks hS (by first | (rw [ng_pair, if_pos hij, if_neg c_18, if_pos c_33, ej]; done) | (rw [ng_pair, if_pos hij, if_neg c_18, if_neg c_33]; done)) d_P_pair_49
        · refine lv_aload_n hx hb d_P_pair_36 rfl (lv_at hl 0 rfl) ?_
          refine va_get (D := (dC, dI)) (ci := 4) (v := .ref fo) (C := R_P) (T := F_P) (N := 6) hx hb hts iP hown hK hP 0 rfl rfl 3 (by decide) (hts _ (List.mem_cons_of_mem _ wk_P_37)) (fun _ h9 => h9) rfl d_P_pair_37 ?_
          refine va_get (D := (dC, dI)) (ci := 2) (v := .ref hA) (C := R_F) (T := F_F) (N := 6) hx hb hts iF hown hK hP 1 rfl rfl 1 (by decide) (hts _ (List.mem_cons_of_mem _ wk_P_148)) (fun _ h9 => h9) rfl d_P_pair_40 ?_
          refine lv_iload_n hx hb d_P_pair_43 rfl (lv_at hl 1 rfl) ?_
          refine nr_iald hx hb hK hP 3 0 rfl rfl (by omega) (by decide) d_P_pair_44 ?_
          refine lv_goto (tgt := 49) hx hb d_P_pair_45 (by decide) ?_
          exact ro_iret hx hb hr hlocks hS (by first | (rw [ng_pair, if_pos hij, if_neg c_18, if_pos c_33, ej]; done) | (rw [ng_pair, if_pos hij, if_neg c_18, if_neg c_33]; done)) d_P_pair_49
      · refine lv_aload_n hx hb d_P_pair_21 rfl (lv_at hl 0 rfl) ?_
        refine va_get (D := (dC, dI)) (ci := 4) (v := .ref fo) (C := R_P) (T := F_P) (N := 6) hx hb hts iP hown hK hP 0 rfl rfl 3 (by decide) (hts _ (List.mem_cons_of_mem _ wk_P_37)) (fun _ h9 => h9) rfl d_P_pair_22 ?_
        refine va_get (D := (dC, dI)) (ci := 2) (v := .ref lA) (C := R_F) (T := F_F) (N := 6) hx hb hts iF hown hK hP 1 rfl rfl 0 (by decide) (hts _ (List.mem_cons_of_mem _ wk_P_144)) (fun _ h9 => h9) rfl d_P_pair_25 ?_
        refine lv_iload_n hx hb d_P_pair_28 rfl (lv_at hl 1 rfl) ?_
        refine nr_iald hx hb hK hP 2 0 rfl rfl (by omega) (by decide) d_P_pair_29 ?_
        exact ro_iret hx hb hr hlocks hS (by rw [ng_pair, if_pos hij, if_pos c_18, ej]) d_P_pair_30
    · refine lv_iconst (v := -1) hx hb d_P_pair_15 (by decide) ?_
      exact ro_iret hx hb hr hlocks hS (by first | (rw [ng_pair, nb_inI_f1 c_1]; rfl) | (rw [ng_pair, nb_inI_f3 c_12]; rfl)) d_P_pair_16
set_option maxHeartbeats 4000000 in
set_option maxRecDepth 100000 in
theorem c_P_least (l : Launch) (dC : Nat → ClassId) (dI : Nat → Nat → Nat) (cI cL : ClassId) (pd g wy mt fo : Nat) (fi : Int32) (kp : Int64) (lA hA sz fw fk : Nat) (od : Int64)  : Met l y_P_least w_P_least ({ frames := 0, cells := 0, slots := 0, locals := 0 } : Room) (va_Pc [.ref pd] (ro_B (dC, dI) classes [(cI, .int), (cL, .long)] [cg_P pd g wy mt fo fi kp, cg_F fo lA hA sz fw fk od])) (ro_Qi (nI fk)) 0 0 ro_A := by
  refine Met.ofW (cc := b_P_least) (maxL := 1) (ret := (some .int)) (by decide) rfl ?_
  intro p e s m args below meth c s₁ B hml hv
  obtain ⟨rfl, hP, hK⟩ := hv
  have hx := B.exec
  have hb := B.bytes
  have hr := B.returns
  have hts := atoms_spec (ws := w_P_least) B.pre
  have hown : s.vm.findClass R_P = some m.cls := findClass_of_methodNamed B.named
  have hlocks := B.notSynchronized
  have iP : ∀ w ∈ w_P, w ∈ w_P_least := fun w h => List.mem_cons_of_mem _ (i_P w h)
  have iF : ∀ w ∈ w_F, w ∈ w_P_least := fun w h => List.mem_cons_of_mem _ (i_F w h)
  have hS : va_S ro_A s.heap s.heap [] := va_S.rf
  have hP : va_P (dC, dI) classes [cg_P pd g wy mt fo fi kp, cg_F fo lA hA sz fw fk od] s.heap := hP
  have hl := lv_entry ([.ref pd]) (n := 1) (Nat.le_of_ble_eq_true rfl)
  rw [lg_entry_eq]
  generalize (lg_sl ([.ref pd]) ++ List.replicate (1 - (lg_sl ([.ref pd])).length) Slot.unset).toArray = ls at hl ⊢
  have hl : lv_has ls 1 [(0, .ref pd)] := hl
  refine lv_aload_n hx hb d_P_least_0 rfl (lv_at hl 0 rfl) ?_
  refine va_get (D := (dC, dI)) (ci := 4) (v := .ref fo) (C := R_P) (T := F_P) (N := 6) hx hb hts iP hown hK hP 0 rfl rfl 3 (by decide) (hts _ (List.mem_cons_of_mem _ wk_P_37)) (fun _ h9 => h9) rfl d_P_least_1 ?_
  refine va_get (D := (dC, dI)) (ci := 2) (v := .int (nI fk)) (C := R_F) (T := F_F) (N := 6) hx hb hts iF hown hK hP 1 rfl rfl 4 (by decide) (hts _ (List.mem_cons_of_mem _ wk_P_151)) (fun _ h9 => h9) rfl d_P_least_4 ?_
  exact ro_iret hx hb hr hlocks hS rfl d_P_least_7
set_option maxHeartbeats 4000000 in
set_option maxRecDepth 100000 in
theorem c_P_fix (l : Launch) (dC : Nat → ClassId) (dI : Nat → Nat → Nat) (cI cL : ClassId) (pd g wy mt fo : Nat) (fi : Int32) (kp : Int64) (lA hA sz fw fk : Nat) (od : Int64)  : Met l y_P_fix w_P_fix ({ frames := 0, cells := 0, slots := 0, locals := 0 } : Room) (va_Pc [.ref pd] (ro_B (dC, dI) classes [(cI, .int), (cL, .long)] [cg_P pd g wy mt fo fi kp, cg_F fo lA hA sz fw fk od])) (ro_Ql od) 0 0 ro_A := by
  refine Met.ofW (cc := b_P_fix) (maxL := 1) (ret := (some .long)) (by decide) rfl ?_
  intro p e s m args below meth c s₁ B hml hv
  obtain ⟨rfl, hP, hK⟩ := hv
  have hx := B.exec
  have hb := B.bytes
  have hr := B.returns
  have hts := atoms_spec (ws := w_P_fix) B.pre
  have hown : s.vm.findClass R_P = some m.cls := findClass_of_methodNamed B.named
  have hlocks := B.notSynchronized
  have iP : ∀ w ∈ w_P, w ∈ w_P_fix := fun w h => List.mem_cons_of_mem _ (i_P w h)
  have iF : ∀ w ∈ w_F, w ∈ w_P_fix := fun w h => List.mem_cons_of_mem _ (i_F w h)
  have hS : va_S ro_A s.heap s.heap [] := va_S.rf
  have hP : va_P (dC, dI) classes [cg_P pd g wy mt fo fi kp, cg_F fo lA hA sz fw fk od] s.heap := hP
  have hl := lv_entry ([.ref pd]) (n := 1) (Nat.le_of_ble_eq_true rfl)
  rw [lg_entry_eq]
  generalize (lg_sl ([.ref pd]) ++ List.replicate (1 - (lg_sl ([.ref pd])).length) Slot.unset).toArray = ls at hl ⊢
  have hl : lv_has ls 1 [(0, .ref pd)] := hl
  refine lv_aload_n hx hb d_P_fix_0 rfl (lv_at hl 0 rfl) ?_
  refine va_get (D := (dC, dI)) (ci := 4) (v := .ref fo) (C := R_P) (T := F_P) (N := 6) hx hb hts iP hown hK hP 0 rfl rfl 3 (by decide) (hts _ (List.mem_cons_of_mem _ wk_P_37)) (fun _ h9 => h9) rfl d_P_fix_1 ?_
  refine va_get (D := (dC, dI)) (ci := 2) (v := .long od) (C := R_F) (T := F_F) (N := 6) hx hb hts iF hown hK hP 1 rfl rfl 5 (by decide) (hts _ (List.mem_cons_of_mem _ wk_P_154)) (fun _ h9 => h9) rfl d_P_fix_4 ?_
  exact ro_lret hx hb hr hlocks hS rfl d_P_fix_7
set_option maxHeartbeats 4000000 in
set_option maxRecDepth 100000 in
theorem c_P_kept (l : Launch) (dC : Nat → ClassId) (dI : Nat → Nat → Nat) (cI cL : ClassId) (pd g wy mt fo : Nat) (fi : Int32) (kp : Int64)  : Met l y_P_kept w_P_kept ({ frames := 0, cells := 0, slots := 0, locals := 0 } : Room) (va_Pc [.ref pd] (ro_B (dC, dI) classes [(cI, .int), (cL, .long)] [cg_P pd g wy mt fo fi kp])) (ro_Ql kp) 0 0 ro_A := by
  refine Met.ofW (cc := b_P_kept) (maxL := 1) (ret := (some .long)) (by decide) rfl ?_
  intro p e s m args below meth c s₁ B hml hv
  obtain ⟨rfl, hP, hK⟩ := hv
  have hx := B.exec
  have hb := B.bytes
  have hr := B.returns
  have hts := atoms_spec (ws := w_P_kept) B.pre
  have hown : s.vm.findClass R_P = some m.cls := findClass_of_methodNamed B.named
  have hlocks := B.notSynchronized
  have iP : ∀ w ∈ w_P, w ∈ w_P_kept := fun w h => List.mem_cons_of_mem _ (i_P w h)
  have hS : va_S ro_A s.heap s.heap [] := va_S.rf
  have hP : va_P (dC, dI) classes [cg_P pd g wy mt fo fi kp] s.heap := hP
  have hl := lv_entry ([.ref pd]) (n := 1) (Nat.le_of_ble_eq_true rfl)
  rw [lg_entry_eq]
  generalize (lg_sl ([.ref pd]) ++ List.replicate (1 - (lg_sl ([.ref pd])).length) Slot.unset).toArray = ls at hl ⊢
  have hl : lv_has ls 1 [(0, .ref pd)] := hl
  refine lv_aload_n hx hb d_P_kept_0 rfl (lv_at hl 0 rfl) ?_
  refine va_get (D := (dC, dI)) (ci := 4) (v := .long kp) (C := R_P) (T := F_P) (N := 6) hx hb hts iP hown hK hP 0 rfl rfl 5 (by decide) (hts _ (List.mem_cons_of_mem _ wk_P_45)) (fun _ h9 => h9) rfl d_P_kept_1 ?_
  exact ro_lret hx hb hr hlocks hS rfl d_P_kept_4
set_option maxHeartbeats 4000000 in
set_option maxRecDepth 100000 in
theorem c_P_signs (l : Launch) (dC : Nat → ClassId) (dI : Nat → Nat → Nat) (cI cL : ClassId) (pd g wy mt fo : Nat) (fi : Int32) (kp : Int64) (tA oA uA wA sA np ne : Nat) (bd : Int32) (er : Int64) (vr : Nat) (sg : Nat → Nat) (x : Int64) (hne : ne ≤ 60) : Met l y_P_signs w_P_signs ({ frames := 1, cells := 0, slots := 0, locals := 24 } : Room) (va_Pc [.ref pd, .long x] (ro_B (dC, dI) classes [(cI, .int), (cL, .long)] [cg_P pd g wy mt fo fi kp, cg_G g tA oA uA wA sA np ne bd er vr, cg_N sA cI 60 sg])) (ro_Qi (if ng_fitL ne x = true then ng_osg x sg ne else -1)) 0 0 ro_A := by
  refine Met.ofW (cc := b_P_signs) (maxL := 3) (ret := (some .int)) (by decide) rfl ?_
  intro p e s m args below meth c s₁ B hml hv
  obtain ⟨rfl, hP, hK⟩ := hv
  have hx := B.exec
  have hb := B.bytes
  have hr := B.returns
  have hts := atoms_spec (ws := w_P_signs) B.pre
  have hown : s.vm.findClass R_P = some m.cls := findClass_of_methodNamed B.named
  have hlocks := B.notSynchronized
  have iP : ∀ w ∈ w_P, w ∈ w_P_signs := fun w h => List.mem_cons_of_mem _ (i_P w h)
  have hS : va_S ro_A s.heap s.heap [] := va_S.rf
  have hP : va_P (dC, dI) classes [cg_P pd g wy mt fo fi kp, cg_G g tA oA uA wA sA np ne bd er vr, cg_N sA cI 60 sg] s.heap := hP
  have hl := lv_entry ([.ref pd, .long x]) (n := 3) (Nat.le_of_ble_eq_true rfl)
  rw [lg_entry_eq]
  generalize (lg_sl ([.ref pd, .long x]) ++ List.replicate (3 - (lg_sl ([.ref pd, .long x])).length) Slot.unset).toArray = ls at hl ⊢
  have hl : lv_has ls 3 [(0, .ref pd), (1, .long x)] := hl
  refine lv_aload_n hx hb d_P_signs_0 rfl (lv_at hl 0 rfl) ?_
  refine va_get (D := (dC, dI)) (ci := 4) (v := .ref g) (C := R_P) (T := F_P) (N := 6) hx hb hts iP hown hK hP 0 rfl rfl 0 (by decide) (hts _ (List.mem_cons_of_mem _ wk_P_10)) (fun _ h9 => h9) rfl d_P_signs_1 ?_
  refine lv_lload_n hx hb d_P_signs_4 rfl (lv_at hl 1 rfl) ?_
  refine ro_Vi (As := [.long x]) (rest := []) ⟨hx, hb, hml, hown, hts⟩ (c_G_hasEdges l dC dI cI cL g tA oA uA wA sA np ne bd er vr x ) (cwV 1 hts (wg_V wk_P_157 wm_G_hasEdges we_G_hasEdges wi_G wc_G_hasEdges) rfl rfl rfl (by decide +kernel) ⟨Nat.le_of_ble_eq_true rfl, Nat.le_of_ble_eq_true rfl⟩) hK (hP.sub [1] rfl) (q0 := 0) rfl rfl rfl rfl hl.1 rfl (lv_room (Nat.le_of_ble_eq_true rfl)) d_P_signs_5 ⟨Nat.zero_le _, Nat.zero_le _⟩ hS hP (fun H locs hP hS => ?_)
  refine nr_ifeqB (tgt := 22) hx hb d_P_signs_8 (by decide) (fun c_8 => ?_) (fun c_8 => ?_)
  · refine lv_iconst (v := -1) hx hb d_P_signs_22 (by decide) ?_
    exact ro_iret hx hb hr hlocks hS (by first | (rw [if_pos c_8]; done) | (rw [c_8]; rfl)) d_P_signs_23
  · refine lv_aload_n hx hb d_P_signs_11 rfl (lv_at hl 0 rfl) ?_
    refine va_get (D := (dC, dI)) (ci := 4) (v := .ref g) (C := R_P) (T := F_P) (N := 6) hx hb hts iP hown hK hP 0 rfl rfl 0 (by decide) (hts _ (List.mem_cons_of_mem _ wk_P_10)) (fun _ h9 => h9) rfl d_P_signs_12 ?_
    refine lv_lload_n hx hb d_P_signs_15 rfl (lv_at hl 1 rfl) ?_
    refine ro_Vi (As := [.long x]) (rest := []) ⟨hx, hb, hml, hown, hts⟩ (c_G_oddSigns l dC dI cI cL g tA oA uA wA sA np ne bd er vr sg x (by omega)) (cwV 1 hts (wg_V wk_P_161 wm_G_oddSigns we_G_oddSigns wi_G wc_G_oddSigns) rfl rfl rfl (by decide +kernel) ⟨Nat.le_of_ble_eq_true rfl, Nat.le_of_ble_eq_true rfl⟩) hK (hP.sub [1, 2] rfl) (q0 := 0) rfl rfl rfl rfl hl.1 rfl (lv_room (Nat.le_of_ble_eq_true rfl)) d_P_signs_16 ⟨Nat.zero_le _, Nat.zero_le _⟩ hS hP (fun H locs hP hS => ?_)
    refine lv_goto (tgt := 23) hx hb d_P_signs_19 (by decide) ?_
    exact ro_iret hx hb hr hlocks hS (by first | (rw [if_pos c_8]; done) | (rw [c_8]; rfl)) d_P_signs_23
set_option maxHeartbeats 4000000 in
set_option maxRecDepth 100000 in
theorem c_P_syndrome (l : Launch) (dC : Nat → ClassId) (dI : Nat → Nat → Nat) (cI cL : ClassId) (pd g wy mt fo : Nat) (fi : Int32) (kp : Int64) (tA oA uA wA sA np ne : Nat) (bd : Int32) (er : Int64) (vr : Nat) (oe ot : Nat → Nat) (x : Int64) (hne : ne ≤ 60) : Met l y_P_syndrome w_P_syndrome ({ frames := 1, cells := 0, slots := 0, locals := 24 } : Room) (va_Pc [.ref pd, .long x] (ro_B (dC, dI) classes [(cI, .int), (cL, .long)] [cg_P pd g wy mt fo fi kp, cg_G g tA oA uA wA sA np ne bd er vr, cg_N oA cI 60 oe, cg_N uA cI 60 ot])) (ro_Qi (if ng_fitL ne x = true then ng_opt x oe ot ne &&& (bd ^^^ (-1)) else -1)) 0 0 ro_A := by
  refine Met.ofW (cc := b_P_syndrome) (maxL := 3) (ret := (some .int)) (by decide) rfl ?_
  intro p e s m args below meth c s₁ B hml hv
  obtain ⟨rfl, hP, hK⟩ := hv
  have hx := B.exec
  have hb := B.bytes
  have hr := B.returns
  have hts := atoms_spec (ws := w_P_syndrome) B.pre
  have hown : s.vm.findClass R_P = some m.cls := findClass_of_methodNamed B.named
  have hlocks := B.notSynchronized
  have iP : ∀ w ∈ w_P, w ∈ w_P_syndrome := fun w h => List.mem_cons_of_mem _ (i_P w h)
  have hS : va_S ro_A s.heap s.heap [] := va_S.rf
  have hP : va_P (dC, dI) classes [cg_P pd g wy mt fo fi kp, cg_G g tA oA uA wA sA np ne bd er vr, cg_N oA cI 60 oe, cg_N uA cI 60 ot] s.heap := hP
  have hl := lv_entry ([.ref pd, .long x]) (n := 3) (Nat.le_of_ble_eq_true rfl)
  rw [lg_entry_eq]
  generalize (lg_sl ([.ref pd, .long x]) ++ List.replicate (3 - (lg_sl ([.ref pd, .long x])).length) Slot.unset).toArray = ls at hl ⊢
  have hl : lv_has ls 3 [(0, .ref pd), (1, .long x)] := hl
  refine lv_aload_n hx hb d_P_syndrome_0 rfl (lv_at hl 0 rfl) ?_
  refine va_get (D := (dC, dI)) (ci := 4) (v := .ref g) (C := R_P) (T := F_P) (N := 6) hx hb hts iP hown hK hP 0 rfl rfl 0 (by decide) (hts _ (List.mem_cons_of_mem _ wk_P_10)) (fun _ h9 => h9) rfl d_P_syndrome_1 ?_
  refine lv_lload_n hx hb d_P_syndrome_4 rfl (lv_at hl 1 rfl) ?_
  refine ro_Vi (As := [.long x]) (rest := []) ⟨hx, hb, hml, hown, hts⟩ (c_G_hasEdges l dC dI cI cL g tA oA uA wA sA np ne bd er vr x ) (cwV 1 hts (wg_V wk_P_157 wm_G_hasEdges we_G_hasEdges wi_G wc_G_hasEdges) rfl rfl rfl (by decide +kernel) ⟨Nat.le_of_ble_eq_true rfl, Nat.le_of_ble_eq_true rfl⟩) hK (hP.sub [1] rfl) (q0 := 0) rfl rfl rfl rfl hl.1 rfl (lv_room (Nat.le_of_ble_eq_true rfl)) d_P_syndrome_5 ⟨Nat.zero_le _, Nat.zero_le _⟩ hS hP (fun H locs hP hS => ?_)
  refine nr_ifeqB (tgt := 22) hx hb d_P_syndrome_8 (by decide) (fun c_8 => ?_) (fun c_8 => ?_)
  · refine lv_iconst (v := -1) hx hb d_P_syndrome_22 (by decide) ?_
    exact ro_iret hx hb hr hlocks hS (by first | (rw [if_pos c_8]; done) | (rw [c_8]; rfl)) d_P_syndrome_23
  · refine lv_aload_n hx hb d_P_syndrome_11 rfl (lv_at hl 0 rfl) ?_
    refine va_get (D := (dC, dI)) (ci := 4) (v := .ref g) (C := R_P) (T := F_P) (N := 6) hx hb hts iP hown hK hP 0 rfl rfl 0 (by decide) (hts _ (List.mem_cons_of_mem _ wk_P_10)) (fun _ h9 => h9) rfl d_P_syndrome_12 ?_
    refine lv_lload_n hx hb d_P_syndrome_15 rfl (lv_at hl 1 rfl) ?_
    refine ro_Vi (As := [.long x]) (rest := []) ⟨hx, hb, hml, hown, hts⟩ (c_G_oddPoints l dC dI cI cL g tA oA uA wA sA np ne bd er vr oe ot x (by omega)) (cwV 1 hts (wg_V wk_P_165 wm_G_oddPoints we_G_oddPoints wi_G wc_G_oddPoints) rfl rfl rfl (by decide +kernel) ⟨Nat.le_of_ble_eq_true rfl, Nat.le_of_ble_eq_true rfl⟩) hK (hP.sub [1, 2, 3] rfl) (q0 := 0) rfl rfl rfl rfl hl.1 rfl (lv_room (Nat.le_of_ble_eq_true rfl)) d_P_syndrome_16 ⟨Nat.zero_le _, Nat.zero_le _⟩ hS hP (fun H locs hP hS => ?_)
    refine lv_goto (tgt := 23) hx hb d_P_syndrome_19 (by decide) ?_
    exact ro_iret hx hb hr hlocks hS (by first | (rw [if_pos c_8]; done) | (rw [c_8]; rfl)) d_P_syndrome_23
set_option maxHeartbeats 4000000 in
set_option maxRecDepth 100000 in
theorem c_P_isPairBefore (l : Launch) (dC : Nat → ClassId) (dI : Nat → Nat → Nat) (cI cL : ClassId) (pd g wy mt fo : Nat) (fi : Int32) (kp : Int64) (tA oA uA wA sA np ne : Nat) (bd : Int32) (er : Int64) (vr : Nat) (lA hA sz fw fk : Nat) (od : Int64) (tm le ho : Nat → Nat) (k t : Nat) (hk : k < 10) (hle : le k < 20) (hho : ho k < 20) (ht : t < 2 ^ 31) (htm : ∀ i, i < 20 → tm i < 2 ^ 31) : Met l y_P_isPairBefore w_P_isPairBefore ({ frames := 1, cells := 0, slots := 0, locals := 21 } : Room) (va_Pc [.ref pd, .int (nI k), .int (nI t)] (ro_B (dC, dI) classes [(cI, .int), (cL, .long)] [cg_P pd g wy mt fo fi kp, cg_G g tA oA uA wA sA np ne bd er vr, cg_N tA cI 20 tm, cg_F fo lA hA sz fw fk od, cg_N lA cI 10 le, cg_N hA cI 10 ho])) (ro_Qi (nb_i (ng_early bd tm le ho k t))) 0 0 ro_A := by
  refine Met.ofW (cc := b_P_isPairBefore) (maxL := 4) (ret := (some .boolean)) (by decide) rfl ?_
  intro p e s m args below meth c s₁ B hml hv
  obtain ⟨rfl, hP, hK⟩ := hv
  have hx := B.exec
  have hb := B.bytes
  have hr := B.returns
  have hts := atoms_spec (ws := w_P_isPairBefore) B.pre
  have hown : s.vm.findClass R_P = some m.cls := findClass_of_methodNamed B.named
  have hlocks := B.notSynchronized
  have iP : ∀ w ∈ w_P, w ∈ w_P_isPairBefore := fun w h => List.mem_cons_of_mem _ (i_P w h)
  have iG : ∀ w ∈ w_G, w ∈ w_P_isPairBefore := fun w h => List.mem_cons_of_mem _ (i_G w h)
  have iF : ∀ w ∈ w_F, w ∈ w_P_isPairBefore := fun w h => List.mem_cons_of_mem _ (i_F w h)
  have hS : va_S ro_A s.heap s.heap [] := va_S.rf
  have hP : va_P (dC, dI) classes [cg_P pd g wy mt fo fi kp, cg_G g tA oA uA wA sA np ne bd er vr, cg_N tA cI 20 tm, cg_F fo lA hA sz fw fk od, cg_N lA cI 10 le, cg_N hA cI 10 ho] s.heap := hP
  have hl := lv_entry ([.ref pd, .int (nI k), .int (nI t)]) (n := 4) (Nat.le_of_ble_eq_true rfl)
  rw [lg_entry_eq]
  generalize (lg_sl ([.ref pd, .int (nI k), .int (nI t)]) ++ List.replicate (4 - (lg_sl ([.ref pd, .int (nI k), .int (nI t)])).length) Slot.unset).toArray = ls at hl ⊢
  have hl : lv_has ls 4 [(0, .ref pd), (1, .int (nI k)), (2, .int (nI t))] := hl
  have ht1 := htm (le k) hle
  have ht2 := htm (ho k) hho
  refine lv_aload_n hx hb d_P_isPairBefore_0 rfl (lv_at hl 0 rfl) ?_
  refine va_get (D := (dC, dI)) (ci := 4) (v := .ref fo) (C := R_P) (T := F_P) (N := 6) hx hb hts iP hown hK hP 0 rfl rfl 3 (by decide) (hts _ (List.mem_cons_of_mem _ wk_P_37)) (fun _ h9 => h9) rfl d_P_isPairBefore_1 ?_
  refine va_get (D := (dC, dI)) (ci := 2) (v := .ref hA) (C := R_F) (T := F_F) (N := 6) hx hb hts iF hown hK hP 3 rfl rfl 1 (by decide) (hts _ (List.mem_cons_of_mem _ wk_P_148)) (fun _ h9 => h9) rfl d_P_isPairBefore_4 ?_
  refine lv_iload_n hx hb d_P_isPairBefore_7 rfl (lv_at hl 1 rfl) ?_
  refine nr_iald hx hb hK hP 5 0 rfl rfl (by omega) (by decide) d_P_isPairBefore_8 ?_
  refine lv_istore_n (lv' := [(3, .int (nI (ho k))), (0, .ref pd), (1, .int (nI k)), (2, .int (nI t))]) hx hb d_P_isPairBefore_9 rfl hl (by decide) rfl (fun ls hl => ?_)
  refine lv_aload_n hx hb d_P_isPairBefore_10 rfl (lv_at hl 1 rfl) ?_
  refine va_get (D := (dC, dI)) (ci := 4) (v := .ref g) (C := R_P) (T := F_P) (N := 6) hx hb hts iP hown hK hP 0 rfl rfl 0 (by decide) (hts _ (List.mem_cons_of_mem _ wk_P_10)) (fun _ h9 => h9) rfl d_P_isPairBefore_11 ?_
  refine va_get (D := (dC, dI)) (ci := 0) (v := .ref tA) (C := R_G) (T := F_G) (N := 10) hx hb hts iG hown hK hP 1 rfl rfl 0 (by decide) (hts _ (List.mem_cons_of_mem _ wk_P_192)) (fun _ h9 => h9) rfl d_P_isPairBefore_14 ?_
  refine lv_aload_n hx hb d_P_isPairBefore_17 rfl (lv_at hl 1 rfl) ?_
  refine va_get (D := (dC, dI)) (ci := 4) (v := .ref fo) (C := R_P) (T := F_P) (N := 6) hx hb hts iP hown hK hP 0 rfl rfl 3 (by decide) (hts _ (List.mem_cons_of_mem _ wk_P_37)) (fun _ h9 => h9) rfl d_P_isPairBefore_18 ?_
  refine va_get (D := (dC, dI)) (ci := 2) (v := .ref lA) (C := R_F) (T := F_F) (N := 6) hx hb hts iF hown hK hP 3 rfl rfl 0 (by decide) (hts _ (List.mem_cons_of_mem _ wk_P_144)) (fun _ h9 => h9) rfl d_P_isPairBefore_21 ?_
  refine lv_iload_n hx hb d_P_isPairBefore_24 rfl (lv_at hl 2 rfl) ?_
  refine nr_iald hx hb hK hP 4 0 rfl rfl (by omega) (by decide) d_P_isPairBefore_25 ?_
  refine nr_iald hx hb hK hP 2 0 rfl rfl (by omega) (by decide) d_P_isPairBefore_26 ?_
  refine lv_iload_n hx hb d_P_isPairBefore_27 rfl (lv_at hl 3 rfl) ?_
  refine nr_icmp_ge (by omega) (by omega) (tgt := 59) hx hb d_P_isPairBefore_28 (by decide) (fun c_28 => ?_) (fun c_28 => ?_)
  · refine lv_iconst (v := nI 0) hx hb d_P_isPairBefore_59 (by decide) ?_
    exact ro_zret hx hb hr hlocks hS rfl (by first | (rw [ng_early, decide_eq_false (by omega)]; rfl) | (rw [ng_early, decide_eq_true c_28, c_39]; rfl) | (rw [ng_early, decide_eq_true c_28, c_39, decide_eq_true c_52]; rfl) | (rw [ng_early, decide_eq_true c_28, c_39, decide_eq_false (by omega)]; rfl)) d_P_isPairBefore_60
  · refine lv_aload_n hx hb d_P_isPairBefore_31 rfl (lv_at hl 1 rfl) ?_
    refine va_get (D := (dC, dI)) (ci := 4) (v := .ref g) (C := R_P) (T := F_P) (N := 6) hx hb hts iP hown hK hP 0 rfl rfl 0 (by decide) (hts _ (List.mem_cons_of_mem _ wk_P_10)) (fun _ h9 => h9) rfl d_P_isPairBefore_32 ?_
    refine lv_iload_n hx hb d_P_isPairBefore_35 rfl (lv_at hl 0 rfl) ?_
    refine ro_Vi (As := [.int (nI (ho k))]) (rest := []) ⟨hx, hb, hml, hown, hts⟩ (c_G_isBoundary l dC dI cI cL g tA oA uA wA sA np ne bd er vr (ho k) (by omega)) (cwV 1 hts (wg_V wk_P_91 wm_G_isBoundary we_G_isBoundary wi_G wc_G_isBoundary) rfl rfl rfl (by decide +kernel) ⟨Nat.le_of_ble_eq_true rfl, Nat.le_of_ble_eq_true rfl⟩) hK (hP.sub [1] rfl) (q0 := 0) rfl rfl rfl rfl hl.1 rfl (lv_room (Nat.le_of_ble_eq_true rfl)) d_P_isPairBefore_36 ⟨Nat.zero_le _, Nat.zero_le _⟩ hS hP (fun H locs hP hS => ?_)
    refine nr_ifneB (tgt := 55) hx hb d_P_isPairBefore_39 (by decide) (fun c_39 => ?_) (fun c_39 => ?_)
    · refine lv_iconst (v := nI 1) hx hb d_P_isPairBefore_55 (by decide) ?_
      refine lv_goto (tgt := 60) hx hb d_P_isPairBefore_56 (by decide) ?_
      exact ro_zret hx hb hr hlocks hS rfl (by first | (rw [ng_early, decide_eq_false (by omega)]; rfl) | (rw [ng_early, decide_eq_true c_28, c_39]; rfl) | (rw [ng_early, decide_eq_true c_28, c_39, decide_eq_true c_52]; rfl) | (rw [ng_early, decide_eq_true c_28, c_39, decide_eq_false (by omega)]; rfl)) d_P_isPairBefore_60
    · refine lv_aload_n hx hb d_P_isPairBefore_42 rfl (lv_at hl 1 rfl) ?_
      refine va_get (D := (dC, dI)) (ci := 4) (v := .ref g) (C := R_P) (T := F_P) (N := 6) hx hb hts iP hown hK hP 0 rfl rfl 0 (by decide) (hts _ (List.mem_cons_of_mem _ wk_P_10)) (fun _ h9 => h9) rfl d_P_isPairBefore_43 ?_
      refine va_get (D := (dC, dI)) (ci := 0) (v := .ref tA) (C := R_G) (T := F_G) (N := 10) hx hb hts iG hown hK hP 1 rfl rfl 0 (by decide) (hts _ (List.mem_cons_of_mem _ wk_P_192)) (fun _ h9 => h9) rfl d_P_isPairBefore_46 ?_
      refine lv_iload_n hx hb d_P_isPairBefore_49 rfl (lv_at hl 0 rfl) ?_
      refine nr_iald hx hb hK hP 2 0 rfl rfl (by omega) (by decide) d_P_isPairBefore_50 ?_
      refine lv_iload_n hx hb d_P_isPairBefore_51 rfl (lv_at hl 3 rfl) ?_
      refine nr_icmp_ge (by omega) (by omega) (tgt := 59) hx hb d_P_isPairBefore_52 (by decide) (fun c_52 => ?_) (fun c_52 => ?_)
      · refine lv_iconst (v := nI 0) hx hb d_P_isPairBefore_59 (by decide) ?_
        exact ro_zret hx hb hr hlocks hS rfl (by first | (rw [ng_early, decide_eq_false (by omega)]; rfl) | (rw [ng_early, decide_eq_true c_28, c_39]; rfl) | (rw [ng_early, decide_eq_true c_28, c_39, decide_eq_true c_52]; rfl) | (rw [ng_early, decide_eq_true c_28, c_39, decide_eq_false (by omega)]; rfl)) d_P_isPairBefore_60
      · refine lv_iconst (v := nI 1) hx hb d_P_isPairBefore_55 (by decide) ?_
        refine lv_goto (tgt := 60) hx hb d_P_isPairBefore_56 (by decide) ?_
        exact ro_zret hx hb hr hlocks hS rfl (by first | (rw [ng_early, decide_eq_false (by omega)]; rfl) | (rw [ng_early, decide_eq_true c_28, c_39]; rfl) | (rw [ng_early, decide_eq_true c_28, c_39, decide_eq_true c_52]; rfl) | (rw [ng_early, decide_eq_true c_28, c_39, decide_eq_false (by omega)]; rfl)) d_P_isPairBefore_60
end
section
/-! how long a lightest way can be -/
def dm_ct (P : Nat → Bool) : Nat → Nat
  | 0 => 0
  | n + 1 => dm_ct P n + (if P n = true then 1 else 0)
theorem dm_ct_le {P : Nat → Bool} : ∀ {n : Nat}, dm_ct P n ≤ n := by
  intro n
  induction n with
  | zero => exact Nat.le_refl _
  | succ n ih =>
    unfold dm_ct
    split <;> omega
theorem dm_ct_mono {P Q : Nat → Bool} : ∀ {n : Nat}, (∀ u, u < n → P u = true → Q u = true) → dm_ct P n ≤ dm_ct Q n := by
  intro n
  induction n with
  | zero => intro _; exact Nat.le_refl _
  | succ n ih =>
    intro h
    have h1 := ih (fun u hu => h u (by omega))
    have h2 := h n (by omega)
    unfold dm_ct
    by_cases q : P n = true
    · rw [if_pos q, if_pos (h2 q)]; omega
    · rw [if_neg q]
      split <;> omega
theorem dm_ct_lt {P Q : Nat → Bool} : ∀ {n x : Nat}, (∀ u, u < n → P u = true → Q u = true) → x < n → Q x = true → P x = false → dm_ct P n + 1 ≤ dm_ct Q n := by
  intro n
  induction n with
  | zero => intro x _ hx; omega
  | succ n ih =>
    intro x h hx hq hp
    have h2 := h n (by omega)
    unfold dm_ct
    by_cases z : x = n
    · subst z
      have h1 := dm_ct_mono (fun u hu => h u (by omega)) (n := x)
      rw [if_pos hq, if_neg (by rw [hp]; decide)]
      omega
    · have h1 := ih (fun u hu => h u (by omega)) (show x < n by omega) hq hp
      by_cases q : P n = true
      · rw [if_pos q, if_pos (h2 q)]; omega
      · rw [if_neg q]
        split <;> omega
def dm_rk (np : Nat) (D : Nat → Nat → Nat) (a b : Nat) : Nat := dm_ct (fun u => decide (D u b < D a b)) np
theorem dm_rk_lt {np : Nat} {D : Nat → Nat → Nat} {a x b : Nat} (hx : x < np) (h : D x b < D a b) : dm_rk np D x b + 1 ≤ dm_rk np D a b := by
  refine dm_ct_lt (x := x) (fun u hu q => ?_) hx (decide_eq_true h) (decide_eq_false (Nat.lt_irrefl _))
  exact decide_eq_true (Nat.lt_trans (of_decide_eq_true q) h)
theorem dm_rk_le {np : Nat} {D : Nat → Nat → Nat} {a b : Nat} : dm_rk np D a b ≤ np := dm_ct_le
theorem dm_bound {np ne M : Nat} {inn : Nat → Bool} {oe ot co : Nat → Nat} {D : Nat → Nat → Nat} (hE : ∀ e, e < ne → oe e < np ∧ ot e < np) (hco : ∀ e, e < ne → 0 < co e ∧ co e ≤ M) (h : dm_D np ne inn oe ot co D) : ∀ t a b, a < np → b < np → D a b ≠ dm_FAR → D a b ≤ t → D a b ≤ M * dm_rk np D a b := by
  intro t
  induction t with
  | zero =>
    intro a b ha hb hF hz
    rw [Nat.le_zero.mp hz]; exact Nat.zero_le _
  | succ t ih =>
    intro a b ha hb hF ht
    by_cases hab : a = b
    · subst hab; rw [h.1 a ha]; exact Nat.zero_le _
    · obtain ⟨e, x, he, hi, hx, hd⟩ := h.2.2.2 a b ha hb hab hF
      have h3 := hco e he
      have hxl := (dm_inc_lt hE he hi).2
      have hle := h.2.1 a b ha hb
      have h4 := ih x b hxl hb (by omega) (by omega)
      have h5 := dm_rk_lt (np := np) (D := D) (a := a) (x := x) (b := b) hxl (by omega)
      have h6 : M * (dm_rk np D x b + 1) ≤ M * dm_rk np D a b := Nat.mul_le_mul_left _ h5
      rw [Nat.mul_add, Nat.mul_one] at h6
      omega
theorem ng_M_D {np ne : Nat} {bd : Int32} {er : Int64} {oe ot wt ct : Nat → Nat} (hE : ∀ i, i < ne → oe i < np ∧ ot i < np) (h : ng_M np ne bd er oe ot wt ct) : dm_D np ne (fun k => !nb_t bd k) oe ot (fun e => ng_w er wt e * 64 + 1) (fun a b => ct (a * 20 + b)) := dm_end hE h.1
theorem ng_M_cf {np ne : Nat} {bd : Int32} {er : Int64} {oe ot wt ct : Nat → Nat} (hnp : np ≤ 20) (hE : ∀ i, i < ne → oe i < np ∧ ot i < np) (hW : ∀ i, i < ne → ng_w er wt i ≤ 1000000) (h : ng_M np ne bd er oe ot wt ct) : ∀ a b, a < np → b < np → ct (a * 20 + b) = dm_FAR ∨ ct (a * 20 + b) ≤ 1300000000 := by
  intro a b ha hb
  by_cases q : ct (a * 20 + b) = dm_FAR
  · exact Or.inl q
  · refine Or.inr ?_
    have h1 := dm_bound (M := 64000001) hE (fun e he => ⟨Nat.succ_pos _, by have := hW e he; show ng_w er wt e * 64 + 1 ≤ 64000001; omega⟩) (ng_M_D hE h) _ a b ha hb q (Nat.le_refl _)
    have h2 : dm_rk np (fun a b => ct (a * 20 + b)) a b ≤ 20 := Nat.le_trans dm_rk_le hnp
    have h3 : 64000001 * dm_rk np (fun a b => ct (a * 20 + b)) a b ≤ 64000001 * 20 := Nat.mul_le_mul_left _ h2
    have h1 : ct (a * 20 + b) ≤ 64000001 * dm_rk np (fun a b => ct (a * 20 + b)) a b := h1
    omega
def ng_pth (bd : Int32) (er : Int64) (oe ot wt ct : Nat → Nat) (ne a b : Nat) : List Nat := ng_path (ng_nxt bd er oe ot wt ct ne (max a b)) (max a b) 20 (min a b)
def ng_way (ct : Nat → Nat) (l : List Nat) (a b : Nat) (x : Int32) : Int32 := if ct (a * 20 + b) = dm_FAR then -1 else if x = 0 then nI (ct (a * 20 + b) / 64) else if x = nI 1 then nI l.length else ng_te l.length (fun i => l.getD i 0) (x - nI 2) (decide (b < a))
theorem ng_te_l {l : List Nat} {tr : Nat → Nat} {x : Int32} {b : Bool} (hl : l.length < 2 ^ 31) (h : ∀ i, i < l.length → l[i]? = some (tr i)) : ng_te l.length tr x b = ng_te l.length (fun i => l.getD i 0) x b := by
  unfold ng_te
  by_cases q : nb_in l.length x = true
  · rw [if_pos q, if_pos q]
    obtain ⟨j, hj, rfl⟩ := nb_inI_of hl q
    rw [nI_clamp (by omega)]
    have e : ∀ i, i < l.length → l.getD i 0 = tr i := fun i hi => by rw [List.getD_eq_getElem?_getD, h i hi]; rfl
    show (if b = true then nI (tr (l.length - 1 - j)) else nI (tr j)) = (if b = true then nI (l.getD (l.length - 1 - j) 0) else nI (l.getD j 0))
    rw [e _ (by omega), e _ hj]
  · rw [if_neg q, if_neg q]
end
section
set_option maxHeartbeats 4000000 in
set_option maxRecDepth 100000 in
theorem c_P_way_no (l : Launch) (dC : Nat → ClassId) (dI : Nat → Nat → Nat) (cI cL : ClassId) (pd g wy mt fo : Nat) (fi : Int32) (kp : Int64) (tA oA uA wA sA np ne : Nat) (bd : Int32) (er : Int64) (vr : Nat) (a b x : Int32) (hno : ¬ (nb_in np a = true ∧ nb_in np b = true ∧ a ≠ b ∧ ¬ x < 0)) : Met l y_P_way w_P_way ({ frames := 4, cells := 0, slots := 0, locals := 95 } : Room) (va_Pc [.ref pd, .int a, .int b, .int x] (ro_B (dC, dI) classes [(cI, .int), (cL, .long)] [cg_P pd g wy mt fo fi kp, cg_G g tA oA uA wA sA np ne bd er vr])) (ro_Qi (-1)) 0 0 ro_A := by
  refine Met.ofW (cc := b_P_way) (maxL := 4) (ret := (some .int)) (by decide) rfl ?_
  intro p e s m args below meth c s₁ B hml hv
  obtain ⟨rfl, hP, hK⟩ := hv
  have hx := B.exec
  have hb := B.bytes
  have hr := B.returns
  have hts := atoms_spec (ws := w_P_way) B.pre
  have hown : s.vm.findClass R_P = some m.cls := findClass_of_methodNamed B.named
  have hlocks := B.notSynchronized
  have iP : ∀ w ∈ w_P, w ∈ w_P_way := fun w h => List.mem_cons_of_mem _ (i_P w h)
  have iW : ∀ w ∈ w_W, w ∈ w_P_way := fun w h => List.mem_cons_of_mem _ (i_W w h)
  have hS : va_S ro_A s.heap s.heap [] := va_S.rf
  have hP : va_P (dC, dI) classes [cg_P pd g wy mt fo fi kp, cg_G g tA oA uA wA sA np ne bd er vr] s.heap := hP
  have hl := lv_entry ([.ref pd, .int a, .int b, .int x]) (n := 4) (Nat.le_of_ble_eq_true rfl)
  rw [lg_entry_eq]
  generalize (lg_sl ([.ref pd, .int a, .int b, .int x]) ++ List.replicate (4 - (lg_sl ([.ref pd, .int a, .int b, .int x])).length) Slot.unset).toArray = ls at hl ⊢
  have hl : lv_has ls 4 [(0, .ref pd), (1, .int a), (2, .int b), (3, .int x)] := hl
  refine lv_aload_n hx hb d_P_way_0 rfl (lv_at hl 0 rfl) ?_
  refine va_get (D := (dC, dI)) (ci := 4) (v := .ref g) (C := R_P) (T := F_P) (N := 6) hx hb hts iP hown hK hP 0 rfl rfl 0 (by decide) (hts _ (List.mem_cons_of_mem _ wk_P_10)) (fun _ h9 => h9) rfl d_P_way_1 ?_
  refine lv_iload_n hx hb d_P_way_4 rfl (lv_at hl 1 rfl) ?_
  refine ro_Vi (As := [.int a]) (rest := []) ⟨hx, hb, hml, hown, hts⟩ (c_G_hasPoint l dC dI cI cL g tA oA uA wA sA np ne bd er vr a ) (cwV 1 hts (wg_V wk_P_88 wm_G_hasPoint we_G_hasPoint wi_G wc_G_hasPoint) rfl rfl rfl (by decide +kernel) ⟨Nat.le_of_ble_eq_true rfl, Nat.le_of_ble_eq_true rfl⟩) hK (hP.sub [1] rfl) (q0 := 0) rfl rfl rfl rfl hl.1 rfl (lv_room (Nat.le_of_ble_eq_true rfl)) d_P_way_5 ⟨Nat.zero_le _, Nat.zero_le _⟩ hS hP (fun H locs hP hS => ?_)
  refine nr_ifeqB (tgt := 31) hx hb d_P_way_8 (by decide) (fun c_8 => ?_) (fun c_8 => ?_)
  · refine lv_iconst (v := -1) hx hb d_P_way_31 (by decide) ?_
    exact ro_iret hx hb hr hlocks hS rfl d_P_way_32
  · refine lv_aload_n hx hb d_P_way_11 rfl (lv_at hl 0 rfl) ?_
    refine va_get (D := (dC, dI)) (ci := 4) (v := .ref g) (C := R_P) (T := F_P) (N := 6) hx hb hts iP hown hK hP 0 rfl rfl 0 (by decide) (hts _ (List.mem_cons_of_mem _ wk_P_10)) (fun _ h9 => h9) rfl d_P_way_12 ?_
    refine lv_iload_n hx hb d_P_way_15 rfl (lv_at hl 2 rfl) ?_
    refine ro_Vi (As := [.int b]) (rest := []) ⟨hx, hb, hml, hown, hts⟩ (c_G_hasPoint l dC dI cI cL g tA oA uA wA sA np ne bd er vr b ) (cwV 1 hts (wg_V wk_P_88 wm_G_hasPoint we_G_hasPoint wi_G wc_G_hasPoint) rfl rfl rfl (by decide +kernel) ⟨Nat.le_of_ble_eq_true rfl, Nat.le_of_ble_eq_true rfl⟩) hK (hP.sub [1] rfl) (q0 := 0) rfl rfl rfl rfl hl.1 rfl (lv_room (Nat.le_of_ble_eq_true rfl)) d_P_way_16 ⟨Nat.zero_le _, Nat.zero_le _⟩ hS hP (fun H locs hP hS => ?_)
    refine nr_ifeqB (tgt := 31) hx hb d_P_way_19 (by decide) (fun c_19 => ?_) (fun c_19 => ?_)
    · refine lv_iconst (v := -1) hx hb d_P_way_31 (by decide) ?_
      exact ro_iret hx hb hr hlocks hS rfl d_P_way_32
    · refine lv_iload_n hx hb d_P_way_22 rfl (lv_at hl 1 rfl) ?_
      refine lv_iload_n hx hb d_P_way_23 rfl (lv_at hl 2 rfl) ?_
      refine lv_icmp_eq (tgt := 31) hx hb d_P_way_24 (by decide) (fun c_24 => ?_) (fun c_24 => ?_)
      · refine lv_iconst (v := -1) hx hb d_P_way_31 (by decide) ?_
        exact ro_iret hx hb hr hlocks hS rfl d_P_way_32
      · refine lv_iload_n hx hb d_P_way_27 rfl (lv_at hl 3 rfl) ?_
        refine lv_if_ge (tgt := 33) hx hb d_P_way_28 (by decide) (fun c_28 => ?_) (fun c_28 => ?_)
        · exact False.elim (hno ⟨c_8, c_19, c_24, fun q => Int32.not_lt.mpr c_28 q⟩)
        · refine lv_iconst (v := -1) hx hb d_P_way_31 (by decide) ?_
          exact ro_iret hx hb hr hlocks hS rfl d_P_way_32
set_option maxHeartbeats 4000000 in
set_option maxRecDepth 100000 in
theorem c_P_way_ok (l : Launch) (dC : Nat → ClassId) (dI : Nat → Nat → Nat) (cI cL : ClassId) (pd g wy mt fo : Nat) (fi : Int32) (kp : Int64) (tA oA uA wA sA np ne : Nat) (bd : Int32) (er : Int64) (vr : Nat) (cA rA : Nat) (mv : Int32) (tl : Nat) (oe ot wt ct tr : Nat → Nat) (a b : Nat) (x : Int32) (hnp : np ≤ 20) (hne : ne ≤ 60) (hE : ∀ i, i < ne → oe i < np ∧ ot i < np) (hdf : ∀ i, i < ne → oe i ≠ ot i) (hW : ∀ i, i < ne → ng_w er wt i ≤ 1000000) (hct : ∀ i, i < 400 → ct i ≤ dm_FAR) (hm : mv = nI vr → ng_M np ne bd er oe ot wt ct) (ha : a < np) (hb1 : b < np) (hab : a ≠ b) (hx0 : ¬ x < 0) (htl : tl ≤ 20) : Met l y_P_way w_P_way ({ frames := 4, cells := 0, slots := 0, locals := 95 } : Room) (va_Pc [.ref pd, .int (nI a), .int (nI b), .int x] (rw_B (dC, dI) classes [(cI, .int), (cL, .long)] [cg_P pd g wy mt fo fi kp, cg_G g tA oA uA wA sA np ne bd er vr, cg_N oA cI 60 oe, cg_N uA cI 60 ot, cg_N wA cI 60 wt, cg_W wy g cA rA mv tl, cg_L cA cL 400 ct, cg_N rA cI 20 tr])) (rw_Qi (dC, dI) classes (rw_A [cg_P pd g wy mt fo fi kp, cg_G g tA oA uA wA sA np ne bd er vr, cg_N oA cI 60 oe, cg_N uA cI 60 ot, cg_N wA cI 60 wt, cg_W wy g cA rA mv tl, cg_L cA cL 400 ct, cg_N rA cI 20 tr]) (fun r (u : (Nat) × (Nat → Nat) × (Nat → Nat)) => r = ng_way u.2.1 (ng_pth bd er oe ot wt u.2.1 ne a b) a b x ∧ ng_M np ne bd er oe ot wt u.2.1 ∧ u.1 ≤ 20) (fun u => [cg_P pd g wy mt fo fi kp, cg_G g tA oA uA wA sA np ne bd er vr, cg_N oA cI 60 oe, cg_N uA cI 60 ot, cg_N wA cI 60 wt, cg_W wy g cA rA (nI vr) u.1, cg_L cA cL 400 u.2.1, cg_N rA cI 20 u.2.2])) 0 0 (rw_A [cg_P pd g wy mt fo fi kp, cg_G g tA oA uA wA sA np ne bd er vr, cg_N oA cI 60 oe, cg_N uA cI 60 ot, cg_N wA cI 60 wt, cg_W wy g cA rA mv tl, cg_L cA cL 400 ct, cg_N rA cI 20 tr]) := by
  refine Met.ofW (cc := b_P_way) (maxL := 4) (ret := (some .int)) (by decide) rfl ?_
  intro p e s m args below meth c s₁ B hml hv
  obtain ⟨rfl, hP, hK, hD0⟩ := hv
  have hx := B.exec
  have hb := B.bytes
  have hr := B.returns
  have hts := atoms_spec (ws := w_P_way) B.pre
  have hown : s.vm.findClass R_P = some m.cls := findClass_of_methodNamed B.named
  have hlocks := B.notSynchronized
  have iP : ∀ w ∈ w_P, w ∈ w_P_way := fun w h => List.mem_cons_of_mem _ (i_P w h)
  have iW : ∀ w ∈ w_W, w ∈ w_P_way := fun w h => List.mem_cons_of_mem _ (i_W w h)
  have hD := rw_own hD0
  generalize hAe : rw_A [cg_P pd g wy mt fo fi kp, cg_G g tA oA uA wA sA np ne bd er vr, cg_N oA cI 60 oe, cg_N uA cI 60 ot, cg_N wA cI 60 wt, cg_W wy g cA rA mv tl, cg_L cA cL 400 ct, cg_N rA cI 20 tr] = A at hD ⊢
  have hS : va_S A s.heap s.heap [] := va_S.rf
  have hP : va_P (dC, dI) classes [cg_P pd g wy mt fo fi kp, cg_G g tA oA uA wA sA np ne bd er vr, cg_N oA cI 60 oe, cg_N uA cI 60 ot, cg_N wA cI 60 wt, cg_W wy g cA rA mv tl, cg_L cA cL 400 ct, cg_N rA cI 20 tr] s.heap := hP
  have hl := lv_entry ([.ref pd, .int (nI a), .int (nI b), .int x]) (n := 4) (Nat.le_of_ble_eq_true rfl)
  rw [lg_entry_eq]
  generalize (lg_sl ([.ref pd, .int (nI a), .int (nI b), .int x]) ++ List.replicate (4 - (lg_sl ([.ref pd, .int (nI a), .int (nI b), .int x])).length) Slot.unset).toArray = ls at hl ⊢
  have hl : lv_has ls 4 [(0, .ref pd), (1, .int (nI a)), (2, .int (nI b)), (3, .int x)] := hl
  have ia : nb_in np (nI a) = true := by rw [nb_inI_nI (by omega) (by omega), decide_eq_true ha]
  have ib : nb_in np (nI b) = true := by rw [nb_inI_nI (by omega) (by omega), decide_eq_true hb1]
  have hFAR : dm_FAR = 1000000000000 := rfl
  refine lv_aload_n hx hb d_P_way_0 rfl (lv_at hl 0 rfl) ?_
  refine va_get (D := (dC, dI)) (ci := 4) (v := .ref g) (C := R_P) (T := F_P) (N := 6) hx hb hts iP hown hK hP 0 rfl rfl 0 (by decide) (hts _ (List.mem_cons_of_mem _ wk_P_10)) (fun _ h9 => h9) rfl d_P_way_1 ?_
  refine lv_iload_n hx hb d_P_way_4 rfl (lv_at hl 1 rfl) ?_
  refine ro_Vi (As := [.int (nI a)]) (rest := []) ⟨hx, hb, hml, hown, hts⟩ (c_G_hasPoint l dC dI cI cL g tA oA uA wA sA np ne bd er vr (nI a) ) (cwV 1 hts (wg_V wk_P_88 wm_G_hasPoint we_G_hasPoint wi_G wc_G_hasPoint) rfl rfl rfl (by decide +kernel) ⟨Nat.le_of_ble_eq_true rfl, Nat.le_of_ble_eq_true rfl⟩) hK (hP.sub [1] rfl) (q0 := 0) rfl rfl rfl rfl hl.1 rfl (lv_room (Nat.le_of_ble_eq_true rfl)) d_P_way_5 ⟨Nat.zero_le _, Nat.zero_le _⟩ hS hP (fun H locs hP hS => ?_)
  refine nr_ifeqB (tgt := 31) hx hb d_P_way_8 (by decide) (fun c_8 => ?_) (fun c_8 => ?_)
  · exact False.elim (by first | (rw [ia] at c_8; cases c_8; done) | (rw [ib] at c_19; cases c_19; done) | exact hab c_24 | exact c_28 (Int32.not_lt.mp hx0))
  · refine lv_aload_n hx hb d_P_way_11 rfl (lv_at hl 0 rfl) ?_
    refine va_get (D := (dC, dI)) (ci := 4) (v := .ref g) (C := R_P) (T := F_P) (N := 6) hx hb hts iP hown hK hP 0 rfl rfl 0 (by decide) (hts _ (List.mem_cons_of_mem _ wk_P_10)) (fun _ h9 => h9) rfl d_P_way_12 ?_
    refine lv_iload_n hx hb d_P_way_15 rfl (lv_at hl 2 rfl) ?_
    refine ro_Vi (As := [.int (nI b)]) (rest := []) ⟨hx, hb, hml, hown, hts⟩ (c_G_hasPoint l dC dI cI cL g tA oA uA wA sA np ne bd er vr (nI b) ) (cwV 1 hts (wg_V wk_P_88 wm_G_hasPoint we_G_hasPoint wi_G wc_G_hasPoint) rfl rfl rfl (by decide +kernel) ⟨Nat.le_of_ble_eq_true rfl, Nat.le_of_ble_eq_true rfl⟩) hK (hP.sub [1] rfl) (q0 := 0) rfl rfl rfl rfl hl.1 rfl (lv_room (Nat.le_of_ble_eq_true rfl)) d_P_way_16 ⟨Nat.zero_le _, Nat.zero_le _⟩ hS hP (fun H locs hP hS => ?_)
    refine nr_ifeqB (tgt := 31) hx hb d_P_way_19 (by decide) (fun c_19 => ?_) (fun c_19 => ?_)
    · exact False.elim (by first | (rw [ia] at c_8; cases c_8; done) | (rw [ib] at c_19; cases c_19; done) | exact hab c_24 | exact c_28 (Int32.not_lt.mp hx0))
    · refine lv_iload_n hx hb d_P_way_22 rfl (lv_at hl 1 rfl) ?_
      refine lv_iload_n hx hb d_P_way_23 rfl (lv_at hl 2 rfl) ?_
      refine nr_icmp_eq (by omega) (by omega) (tgt := 31) hx hb d_P_way_24 (by decide) (fun c_24 => ?_) (fun c_24 => ?_)
      · exact False.elim (by first | (rw [ia] at c_8; cases c_8; done) | (rw [ib] at c_19; cases c_19; done) | exact hab c_24 | exact c_28 (Int32.not_lt.mp hx0))
      · refine lv_iload_n hx hb d_P_way_27 rfl (lv_at hl 3 rfl) ?_
        refine lv_if_ge (tgt := 33) hx hb d_P_way_28 (by decide) (fun c_28 => ?_) (fun c_28 => ?_)
        · refine lv_aload_n hx hb d_P_way_33 rfl (lv_at hl 0 rfl) ?_
          refine va_get (D := (dC, dI)) (ci := 4) (v := .ref wy) (C := R_P) (T := F_P) (N := 6) hx hb hts iP hown hK hP 0 rfl rfl 1 (by decide) (hts _ (List.mem_cons_of_mem _ wk_P_21)) (fun _ h9 => h9) rfl d_P_way_34 ?_
          refine rw_Vv (wr := [cg_P pd g wy mt fo fi kp, cg_N rA cI 20 tr]) [1, 2, 3, 4, 5, 6] [0, 7] rfl rfl (by decide) (As := []) (rest := []) ⟨hx, hb, hml, hown, hts⟩ (c_W_measure l dC dI cI cL g tA oA uA wA sA np ne bd er vr wy cA rA mv tl oe ot wt ct (by omega) (by omega) hE hdf hW hct hm) (cwV 0 hts (wg_V wk_P_107 wm_W_measure we_W_measure wi_W wc_W_measure) rfl rfl rfl (by decide +kernel) ⟨Nat.le_of_ble_eq_true rfl, Nat.le_of_ble_eq_true rfl⟩) hK (hP.sub [1, 2, 3, 4, 5, 6] rfl) ((hD.sub [1, 2, 3, 4, 5, 6] (by decide) rfl).weaken (fun _ _ _ _ => trivial)) (q0 := 4) rfl rfl rfl rfl hl.1 rfl (lv_room (Nat.le_of_ble_eq_true rfl)) d_P_way_37 ⟨Nat.zero_le _, Nat.zero_le _⟩ hS hP hD (fun ct2_1 H locs hw_3 hP hS => ?_)
          have hP : va_P (dC, dI) classes [cg_P pd g wy mt fo fi kp, cg_G g tA oA uA wA sA np ne bd er vr, cg_N oA cI 60 oe, cg_N uA cI 60 ot, cg_N wA cI 60 wt, cg_W wy g cA rA (nI vr) tl, cg_L cA cL 400 ct2_1, cg_N rA cI 20 tr] H := hP.sub [0, 2, 3, 4, 5, 6, 7, 1] rfl
          have hD : va_D A [cg_P pd g wy mt fo fi kp, cg_G g tA oA uA wA sA np ne bd er vr, cg_N oA cI 60 oe, cg_N uA cI 60 ot, cg_N wA cI 60 wt, cg_W wy g cA rA (nI vr) tl, cg_L cA cL 400 ct2_1, cg_N rA cI 20 tr] := rw_re hD rfl
          try dsimp only at hw_3
          have hM2 := hw_3
          have hcc := hM2.2 (a * 20 + b) (by omega)
          refine lv_aload_n hx hb d_P_way_40 rfl (lv_at hl 0 rfl) ?_
          refine va_get (D := (dC, dI)) (ci := 4) (v := .ref wy) (C := R_P) (T := F_P) (N := 6) hx hb hts iP hown hK hP 0 rfl rfl 1 (by decide) (hts _ (List.mem_cons_of_mem _ wk_P_21)) (fun _ h9 => h9) rfl d_P_way_41 ?_
          refine lv_iload_n hx hb d_P_way_44 rfl (lv_at hl 1 rfl) ?_
          refine lv_iload_n hx hb d_P_way_45 rfl (lv_at hl 2 rfl) ?_
          refine ro_Vi (As := [.int (nI a), .int (nI b)]) (rest := []) ⟨hx, hb, hml, hown, hts⟩ (c_W_isThere l dC dI cI cL wy g cA rA (nI vr) tl ct2_1 a b (by omega) (by omega) (by omega)) (cwV 2 hts (wg_V wk_P_110 wm_W_isThere we_W_isThere wi_W wc_W_isThere) rfl rfl rfl (by decide +kernel) ⟨Nat.le_of_ble_eq_true rfl, Nat.le_of_ble_eq_true rfl⟩) hK (hP.sub [5, 6] rfl) (q0 := 0) rfl rfl rfl rfl hl.1 rfl (lv_room (Nat.le_of_ble_eq_true rfl)) d_P_way_46 ⟨Nat.zero_le _, Nat.zero_le _⟩ hS hP (fun H locs hP hS => ?_)
          refine nr_ifneB (tgt := 54) hx hb d_P_way_49 (by decide) (fun c_49 => ?_) (fun c_49 => ?_)
          · refine lv_iload_n hx hb d_P_way_54 rfl (lv_at hl 3 rfl) ?_
            refine lv_if_ne (tgt := 68) hx hb d_P_way_55 (by decide) (fun c_55 => ?_) (fun c_55 => ?_)
            · refine lv_aload_n hx hb d_P_way_68 rfl (lv_at hl 0 rfl) ?_
              refine va_get (D := (dC, dI)) (ci := 4) (v := .ref wy) (C := R_P) (T := F_P) (N := 6) hx hb hts iP hown hK hP 0 rfl rfl 1 (by decide) (hts _ (List.mem_cons_of_mem _ wk_P_21)) (fun _ h9 => h9) rfl d_P_way_69 ?_
              refine lv_iload_n hx hb d_P_way_72 rfl (lv_at hl 1 rfl) ?_
              refine lv_iload_n hx hb d_P_way_73 rfl (lv_at hl 2 rfl) ?_
              refine rw_Vv (wr := [cg_P pd g wy mt fo fi kp]) [1, 2, 3, 4, 5, 6, 7] [0] rfl rfl (by decide) (As := [.int (nI a), .int (nI b)]) (rest := []) ⟨hx, hb, hml, hown, hts⟩ (c_W_trace l dC dI cI cL g tA oA uA wA sA np ne bd er vr wy cA rA (nI vr) tl oe ot wt ct2_1 tr a b (by omega) (by omega) (by omega) (fun i h => ⟨Nat.lt_of_lt_of_le (hE i h).1 hnp, Nat.lt_of_lt_of_le (hE i h).2 hnp⟩) hW hM2.2) (cwV 2 hts (wg_V wk_P_116 wm_W_trace we_W_trace wi_W wc_W_trace) rfl rfl rfl (by decide +kernel) ⟨Nat.le_of_ble_eq_true rfl, Nat.le_of_ble_eq_true rfl⟩) hK (hP.sub [1, 2, 3, 4, 5, 6, 7] rfl) ((hD.sub [1, 2, 3, 4, 5, 6, 7] (by decide) rfl).weaken (fun _ _ _ _ => trivial)) (q0 := 4) rfl rfl rfl rfl hl.1 rfl (lv_room (Nat.le_of_ble_eq_true rfl)) d_P_way_74 ⟨Nat.zero_le _, Nat.zero_le _⟩ hS hP hD (fun tr2_4 H locs hw_6 hP hS => ?_)
              have hP : va_P (dC, dI) classes [cg_P pd g wy mt fo fi kp, cg_G g tA oA uA wA sA np ne bd er vr, cg_N oA cI 60 oe, cg_N uA cI 60 ot, cg_N wA cI 60 wt, cg_W wy g cA rA (nI vr) ((ng_path (ng_nxt bd er oe ot wt ct2_1 ne (max a b)) (max a b) 20 (min a b)).length), cg_L cA cL 400 ct2_1, cg_N rA cI 20 tr2_4] H := hP.sub [0, 1, 2, 3, 4, 5, 6, 7] rfl
              have hD : va_D A [cg_P pd g wy mt fo fi kp, cg_G g tA oA uA wA sA np ne bd er vr, cg_N oA cI 60 oe, cg_N uA cI 60 ot, cg_N wA cI 60 wt, cg_W wy g cA rA (nI vr) ((ng_path (ng_nxt bd er oe ot wt ct2_1 ne (max a b)) (max a b) 20 (min a b)).length), cg_L cA cL 400 ct2_1, cg_N rA cI 20 tr2_4] := rw_re hD rfl
              try dsimp only at hw_6
              have htr := hw_6
              refine lv_iload_n hx hb d_P_way_77 rfl (lv_at hl 3 rfl) ?_
              refine lv_iconst (v := nI 1) hx hb d_P_way_78 (by decide) ?_
              refine lv_icmp_ne (tgt := 92) hx hb d_P_way_79 (by decide) (fun c_79 => ?_) (fun c_79 => ?_)
              · refine lv_aload_n hx hb d_P_way_92 rfl (lv_at hl 0 rfl) ?_
                refine va_get (D := (dC, dI)) (ci := 4) (v := .ref wy) (C := R_P) (T := F_P) (N := 6) hx hb hts iP hown hK hP 0 rfl rfl 1 (by decide) (hts _ (List.mem_cons_of_mem _ wk_P_21)) (fun _ h9 => h9) rfl d_P_way_93 ?_
                refine lv_iload_n hx hb d_P_way_96 rfl (lv_at hl 3 rfl) ?_
                refine lv_iconst (v := nI 2) hx hb d_P_way_97 (by decide) ?_
                refine lv_isub hx hb d_P_way_98 ?_
                refine lv_iload_n hx hb d_P_way_99 rfl (lv_at hl 1 rfl) ?_
                refine lv_iload_n hx hb d_P_way_100 rfl (lv_at hl 2 rfl) ?_
                refine nr_icmp_le (by omega) (by omega) (tgt := 108) hx hb d_P_way_101 (by decide) (fun c_101 => ?_) (fun c_101 => ?_)
                · refine lv_iconst (v := nI 0) hx hb d_P_way_108 (by decide) ?_
                  refine ro_Vi (As := [.int (x - (nI 2)), .int (nI 0)]) (rest := []) ⟨hx, hb, hml, hown, hts⟩ (c_W_trailEdge l dC dI cI cL wy g cA rA (nI vr) ((ng_path (ng_nxt bd er oe ot wt ct2_1 ne (max a b)) (max a b) 20 (min a b)).length) tr2_4 (x - (nI 2)) false htr.2) (cwV 2 hts (wg_V wk_P_123 wm_W_trailEdge we_W_trailEdge wi_W wc_W_trailEdge) rfl rfl rfl (by decide +kernel) ⟨Nat.le_of_ble_eq_true rfl, Nat.le_of_ble_eq_true rfl⟩) hK (hP.sub [5, 7] rfl) (q0 := 0) rfl rfl rfl rfl hl.1 rfl (lv_room (Nat.le_of_ble_eq_true rfl)) d_P_way_109 ⟨Nat.zero_le _, Nat.zero_le _⟩ hS hP (fun H locs hP hS => ?_)
                  exact rw_iret ((ng_path (ng_nxt bd er oe ot wt ct2_1 ne (max a b)) (max a b) 20 (min a b)).length, ct2_1, tr2_4) hx hb hr hlocks hS hP (⟨by first | (rw [ng_way, if_neg (by simpa using c_49), if_neg c_55, if_pos c_79]; rfl) | (rw [ng_way, if_neg (by simpa using c_49), if_neg c_55, if_neg c_79, decide_eq_true c_101]; exact ng_te_l (by omega) htr.1) | (rw [ng_way, if_neg (by simpa using c_49), if_neg c_55, if_neg c_79, decide_eq_false (by omega)]; exact ng_te_l (by omega) htr.1), hM2, htr.2⟩) d_P_way_112
                · refine lv_iconst (v := nI 1) hx hb d_P_way_104 (by decide) ?_
                  refine lv_goto (tgt := 109) hx hb d_P_way_105 (by decide) ?_
                  refine ro_Vi (As := [.int (x - (nI 2)), .int (nI 1)]) (rest := []) ⟨hx, hb, hml, hown, hts⟩ (c_W_trailEdge l dC dI cI cL wy g cA rA (nI vr) ((ng_path (ng_nxt bd er oe ot wt ct2_1 ne (max a b)) (max a b) 20 (min a b)).length) tr2_4 (x - (nI 2)) true htr.2) (cwV 2 hts (wg_V wk_P_123 wm_W_trailEdge we_W_trailEdge wi_W wc_W_trailEdge) rfl rfl rfl (by decide +kernel) ⟨Nat.le_of_ble_eq_true rfl, Nat.le_of_ble_eq_true rfl⟩) hK (hP.sub [5, 7] rfl) (q0 := 0) rfl rfl rfl rfl hl.1 rfl (lv_room (Nat.le_of_ble_eq_true rfl)) d_P_way_109 ⟨Nat.zero_le _, Nat.zero_le _⟩ hS hP (fun H locs hP hS => ?_)
                  exact rw_iret ((ng_path (ng_nxt bd er oe ot wt ct2_1 ne (max a b)) (max a b) 20 (min a b)).length, ct2_1, tr2_4) hx hb hr hlocks hS hP (⟨by first | (rw [ng_way, if_neg (by simpa using c_49), if_neg c_55, if_pos c_79]; rfl) | (rw [ng_way, if_neg (by simpa using c_49), if_neg c_55, if_neg c_79, decide_eq_true c_101]; exact ng_te_l (by omega) htr.1) | (rw [ng_way, if_neg (by simpa using c_49), if_neg c_55, if_neg c_79, decide_eq_false (by omega)]; exact ng_te_l (by omega) htr.1), hM2, htr.2⟩) d_P_way_112
              · refine lv_aload_n hx hb d_P_way_82 rfl (lv_at hl 0 rfl) ?_
                refine va_get (D := (dC, dI)) (ci := 4) (v := .ref wy) (C := R_P) (T := F_P) (N := 6) hx hb hts iP hown hK hP 0 rfl rfl 1 (by decide) (hts _ (List.mem_cons_of_mem _ wk_P_21)) (fun _ h9 => h9) rfl d_P_way_83 ?_
                refine va_get (D := (dC, dI)) (ci := 1) (v := .int (nI ((ng_path (ng_nxt bd er oe ot wt ct2_1 ne (max a b)) (max a b) 20 (min a b)).length))) (C := R_W) (T := F_W) (N := 5) hx hb hts iW hown hK hP 5 rfl rfl 4 (by decide) (hts _ (List.mem_cons_of_mem _ wk_P_120)) (fun _ h9 => h9) rfl d_P_way_86 ?_
                refine lv_goto (tgt := 112) hx hb d_P_way_89 (by decide) ?_
                exact rw_iret ((ng_path (ng_nxt bd er oe ot wt ct2_1 ne (max a b)) (max a b) 20 (min a b)).length, ct2_1, tr2_4) hx hb hr hlocks hS hP (⟨by first | (rw [ng_way, if_neg (by simpa using c_49), if_neg c_55, if_pos c_79]; rfl) | (rw [ng_way, if_neg (by simpa using c_49), if_neg c_55, if_neg c_79, decide_eq_true c_101]; exact ng_te_l (by omega) htr.1) | (rw [ng_way, if_neg (by simpa using c_49), if_neg c_55, if_neg c_79, decide_eq_false (by omega)]; exact ng_te_l (by omega) htr.1), hM2, htr.2⟩) d_P_way_112
            · refine lv_aload_n hx hb d_P_way_58 rfl (lv_at hl 0 rfl) ?_
              refine va_get (D := (dC, dI)) (ci := 4) (v := .ref wy) (C := R_P) (T := F_P) (N := 6) hx hb hts iP hown hK hP 0 rfl rfl 1 (by decide) (hts _ (List.mem_cons_of_mem _ wk_P_21)) (fun _ h9 => h9) rfl d_P_way_59 ?_
              refine lv_iload_n hx hb d_P_way_62 rfl (lv_at hl 1 rfl) ?_
              refine lv_iload_n hx hb d_P_way_63 rfl (lv_at hl 2 rfl) ?_
              refine ro_Vi (As := [.int (nI a), .int (nI b)]) (rest := []) ⟨hx, hb, hml, hown, hts⟩ (c_W_weightBetween l dC dI cI cL wy g cA rA (nI vr) tl ct2_1 a b (by omega) (by omega) (by omega)) (cwV 2 hts (wg_V wk_P_113 wm_W_weightBetween we_W_weightBetween wi_W wc_W_weightBetween) rfl rfl rfl (by decide +kernel) ⟨Nat.le_of_ble_eq_true rfl, Nat.le_of_ble_eq_true rfl⟩) hK (hP.sub [5, 6] rfl) (q0 := 0) rfl rfl rfl rfl hl.1 rfl (lv_room (Nat.le_of_ble_eq_true rfl)) d_P_way_64 ⟨Nat.zero_le _, Nat.zero_le _⟩ hS hP (fun H locs hP hS => ?_)
              exact rw_iret (tl, ct2_1, tr) hx hb hr hlocks hS hP (⟨by rw [ng_way, if_neg (by simpa using c_49), if_pos c_55], hM2, htl⟩) d_P_way_67
          · refine lv_iconst (v := -1) hx hb d_P_way_52 (by decide) ?_
            exact rw_iret (tl, ct2_1, tr) hx hb hr hlocks hS hP (⟨by rw [ng_way, if_pos (by simpa using c_49)], hM2, htl⟩) d_P_way_53
        · exact False.elim (by first | (rw [ia] at c_8; cases c_8; done) | (rw [ib] at c_19; cases c_19; done) | exact hab c_24 | exact c_28 (Int32.not_lt.mp hx0))
set_option maxHeartbeats 4000000 in
set_option maxRecDepth 100000 in
theorem c_P_commitPair (l : Launch) (dC : Nat → ClassId) (dI : Nat → Nat → Nat) (cI cL : ClassId) (pd g wy mt fo : Nat) (fi : Int32) (kp : Int64) (tA oA uA wA sA np ne : Nat) (bd : Int32) (er : Int64) (vr : Nat) (cA rA : Nat) (mv : Int32) (tl : Nat) (lA hA sz fw fk : Nat) (od : Int64) (oe ot wt ct tr le ho : Nat → Nat) (k : Nat) (hne : ne ≤ 60) (hE : ∀ i, i < ne → oe i < 20 ∧ ot i < 20) (hW : ∀ i, i < ne → ng_w er wt i ≤ 1000000) (hct : ∀ i, i < 400 → ct i ≤ dm_FAR) (hk : k < 10) (hle : le k < 20) (hho : ho k < 20) : Met l y_P_commitPair w_P_commitPair ({ frames := 4, cells := 0, slots := 0, locals := 91 } : Room) (va_Pc [.ref pd, .int (nI k)] (rw_B (dC, dI) classes [(cI, .int), (cL, .long)] [cg_P pd g wy mt fo fi kp, cg_G g tA oA uA wA sA np ne bd er vr, cg_N oA cI 60 oe, cg_N uA cI 60 ot, cg_N wA cI 60 wt, cg_W wy g cA rA mv tl, cg_L cA cL 400 ct, cg_N rA cI 20 tr, cg_F fo lA hA sz fw fk od, cg_N lA cI 10 le, cg_N hA cI 10 ho])) (rw_Qv (dC, dI) classes (rw_A [cg_P pd g wy mt fo fi kp, cg_G g tA oA uA wA sA np ne bd er vr, cg_N oA cI 60 oe, cg_N uA cI 60 ot, cg_N wA cI 60 wt, cg_W wy g cA rA mv tl, cg_L cA cL 400 ct, cg_N rA cI 20 tr, cg_F fo lA hA sz fw fk od, cg_N lA cI 10 le, cg_N hA cI 10 ho]) (fun (u : (Nat) × (Nat → Nat)) => u.1 ≤ 20) (fun u => [cg_P pd g wy mt fo (fi &&& ((nb_o (le k) ||| nb_o (ho k)) ^^^ (-1))) (kp ^^^ ng_pset bd er oe ot wt ct ne (le k) (ho k)), cg_G g tA oA uA wA sA np ne bd er vr, cg_N oA cI 60 oe, cg_N uA cI 60 ot, cg_N wA cI 60 wt, cg_W wy g cA rA mv u.1, cg_L cA cL 400 ct, cg_N rA cI 20 u.2, cg_F fo lA hA sz fw fk od, cg_N lA cI 10 le, cg_N hA cI 10 ho])) 0 0 (rw_A [cg_P pd g wy mt fo fi kp, cg_G g tA oA uA wA sA np ne bd er vr, cg_N oA cI 60 oe, cg_N uA cI 60 ot, cg_N wA cI 60 wt, cg_W wy g cA rA mv tl, cg_L cA cL 400 ct, cg_N rA cI 20 tr, cg_F fo lA hA sz fw fk od, cg_N lA cI 10 le, cg_N hA cI 10 ho]) := by
  refine Met.ofW (cc := b_P_commitPair) (maxL := 4) (ret := none) (by decide) rfl ?_
  intro p e s m args below meth c s₁ B hml hv
  obtain ⟨rfl, hP, hK, hD0⟩ := hv
  have hx := B.exec
  have hb := B.bytes
  have hr := B.returns
  have hts := atoms_spec (ws := w_P_commitPair) B.pre
  have hown : s.vm.findClass R_P = some m.cls := findClass_of_methodNamed B.named
  have hlocks := B.notSynchronized
  have iP : ∀ w ∈ w_P, w ∈ w_P_commitPair := fun w h => List.mem_cons_of_mem _ (i_P w h)
  have iF : ∀ w ∈ w_F, w ∈ w_P_commitPair := fun w h => List.mem_cons_of_mem _ (i_F w h)
  have hD := rw_own hD0
  generalize hAe : rw_A [cg_P pd g wy mt fo fi kp, cg_G g tA oA uA wA sA np ne bd er vr, cg_N oA cI 60 oe, cg_N uA cI 60 ot, cg_N wA cI 60 wt, cg_W wy g cA rA mv tl, cg_L cA cL 400 ct, cg_N rA cI 20 tr, cg_F fo lA hA sz fw fk od, cg_N lA cI 10 le, cg_N hA cI 10 ho] = A at hD ⊢
  have hS : va_S A s.heap s.heap [] := va_S.rf
  have hP : va_P (dC, dI) classes [cg_P pd g wy mt fo fi kp, cg_G g tA oA uA wA sA np ne bd er vr, cg_N oA cI 60 oe, cg_N uA cI 60 ot, cg_N wA cI 60 wt, cg_W wy g cA rA mv tl, cg_L cA cL 400 ct, cg_N rA cI 20 tr, cg_F fo lA hA sz fw fk od, cg_N lA cI 10 le, cg_N hA cI 10 ho] s.heap := hP
  have hl := lv_entry ([.ref pd, .int (nI k)]) (n := 4) (Nat.le_of_ble_eq_true rfl)
  rw [lg_entry_eq]
  generalize (lg_sl ([.ref pd, .int (nI k)]) ++ List.replicate (4 - (lg_sl ([.ref pd, .int (nI k)])).length) Slot.unset).toArray = ls at hl ⊢
  have hl : lv_has ls 4 [(0, .ref pd), (1, .int (nI k))] := hl
  refine lv_aload_n hx hb d_P_commitPair_0 rfl (lv_at hl 0 rfl) ?_
  refine va_get (D := (dC, dI)) (ci := 4) (v := .ref fo) (C := R_P) (T := F_P) (N := 6) hx hb hts iP hown hK hP 0 rfl rfl 3 (by decide) (hts _ (List.mem_cons_of_mem _ wk_P_37)) (fun _ h9 => h9) rfl d_P_commitPair_1 ?_
  refine va_get (D := (dC, dI)) (ci := 2) (v := .ref lA) (C := R_F) (T := F_F) (N := 6) hx hb hts iF hown hK hP 8 rfl rfl 0 (by decide) (hts _ (List.mem_cons_of_mem _ wk_P_144)) (fun _ h9 => h9) rfl d_P_commitPair_4 ?_
  refine lv_iload_n hx hb d_P_commitPair_7 rfl (lv_at hl 1 rfl) ?_
  refine nr_iald hx hb hK hP 9 0 rfl rfl (by omega) (by decide) d_P_commitPair_8 ?_
  refine lv_istore_n (lv' := [(2, .int (nI (le k))), (0, .ref pd), (1, .int (nI k))]) hx hb d_P_commitPair_9 rfl hl (by decide) rfl (fun ls hl => ?_)
  refine lv_aload_n hx hb d_P_commitPair_10 rfl (lv_at hl 1 rfl) ?_
  refine va_get (D := (dC, dI)) (ci := 4) (v := .ref fo) (C := R_P) (T := F_P) (N := 6) hx hb hts iP hown hK hP 0 rfl rfl 3 (by decide) (hts _ (List.mem_cons_of_mem _ wk_P_37)) (fun _ h9 => h9) rfl d_P_commitPair_11 ?_
  refine va_get (D := (dC, dI)) (ci := 2) (v := .ref hA) (C := R_F) (T := F_F) (N := 6) hx hb hts iF hown hK hP 8 rfl rfl 1 (by decide) (hts _ (List.mem_cons_of_mem _ wk_P_148)) (fun _ h9 => h9) rfl d_P_commitPair_14 ?_
  refine lv_iload_n hx hb d_P_commitPair_17 rfl (lv_at hl 2 rfl) ?_
  refine nr_iald hx hb hK hP 10 0 rfl rfl (by omega) (by decide) d_P_commitPair_18 ?_
  refine lv_istore_n (lv' := [(3, .int (nI (ho k))), (2, .int (nI (le k))), (0, .ref pd), (1, .int (nI k))]) hx hb d_P_commitPair_19 rfl hl (by decide) rfl (fun ls hl => ?_)
  refine lv_aload_n hx hb d_P_commitPair_20 rfl (lv_at hl 2 rfl) ?_
  refine va_get (D := (dC, dI)) (ci := 4) (v := .ref wy) (C := R_P) (T := F_P) (N := 6) hx hb hts iP hown hK hP 0 rfl rfl 1 (by decide) (hts _ (List.mem_cons_of_mem _ wk_P_21)) (fun _ h9 => h9) rfl d_P_commitPair_21 ?_
  refine lv_iload_n hx hb d_P_commitPair_24 rfl (lv_at hl 1 rfl) ?_
  refine lv_iload_n hx hb d_P_commitPair_25 rfl (lv_at hl 0 rfl) ?_
  refine rw_Vv (wr := [cg_P pd g wy mt fo fi kp, cg_F fo lA hA sz fw fk od, cg_N lA cI 10 le, cg_N hA cI 10 ho]) [1, 2, 3, 4, 5, 6, 7] [0, 8, 9, 10] rfl rfl (by decide) (As := [.int (nI (le k)), .int (nI (ho k))]) (rest := []) ⟨hx, hb, hml, hown, hts⟩ (c_W_trace l dC dI cI cL g tA oA uA wA sA np ne bd er vr wy cA rA mv tl oe ot wt ct tr (le k) (ho k) (by omega) (by omega) (by omega) hE hW hct) (cwV 2 hts (wg_V wk_P_116 wm_W_trace we_W_trace wi_W wc_W_trace) rfl rfl rfl (by decide +kernel) ⟨Nat.le_of_ble_eq_true rfl, Nat.le_of_ble_eq_true rfl⟩) hK (hP.sub [1, 2, 3, 4, 5, 6, 7] rfl) ((hD.sub [1, 2, 3, 4, 5, 6, 7] (by decide) rfl).weaken (fun _ _ _ _ => trivial)) (q0 := 4) rfl rfl rfl rfl hl.1 rfl (lv_room (Nat.le_of_ble_eq_true rfl)) d_P_commitPair_26 ⟨Nat.zero_le _, Nat.zero_le _⟩ hS hP hD (fun tr2_1 H locs hw_3 hP hS => ?_)
  have hP : va_P (dC, dI) classes [cg_P pd g wy mt fo fi kp, cg_G g tA oA uA wA sA np ne bd er vr, cg_N oA cI 60 oe, cg_N uA cI 60 ot, cg_N wA cI 60 wt, cg_W wy g cA rA mv ((ng_path (ng_nxt bd er oe ot wt ct ne (max (le k) (ho k))) (max (le k) (ho k)) 20 (min (le k) (ho k))).length), cg_L cA cL 400 ct, cg_N rA cI 20 tr2_1, cg_F fo lA hA sz fw fk od, cg_N lA cI 10 le, cg_N hA cI 10 ho] H := hP.sub [0, 4, 5, 6, 7, 8, 9, 10, 1, 2, 3] rfl
  have hD : va_D A [cg_P pd g wy mt fo fi kp, cg_G g tA oA uA wA sA np ne bd er vr, cg_N oA cI 60 oe, cg_N uA cI 60 ot, cg_N wA cI 60 wt, cg_W wy g cA rA mv ((ng_path (ng_nxt bd er oe ot wt ct ne (max (le k) (ho k))) (max (le k) (ho k)) 20 (min (le k) (ho k))).length), cg_L cA cL 400 ct, cg_N rA cI 20 tr2_1, cg_F fo lA hA sz fw fk od, cg_N lA cI 10 le, cg_N hA cI 10 ho] := rw_re hD rfl
  try dsimp only at hw_3
  have htr := hw_3
  refine lv_aload_n hx hb d_P_commitPair_29 rfl (lv_at hl 2 rfl) ?_
  refine lv_dup hx hb d_P_commitPair_30 rfl ?_
  refine va_get (D := (dC, dI)) (ci := 4) (v := .long kp) (C := R_P) (T := F_P) (N := 6) hx hb hts iP hown hK hP 0 rfl rfl 5 (by decide) (hts _ (List.mem_cons_of_mem _ wk_P_45)) (fun _ h9 => h9) rfl d_P_commitPair_31 ?_
  refine lv_aload_n hx hb d_P_commitPair_34 rfl (lv_at hl 2 rfl) ?_
  refine va_get (D := (dC, dI)) (ci := 4) (v := .ref wy) (C := R_P) (T := F_P) (N := 6) hx hb hts iP hown hK hP 0 rfl rfl 1 (by decide) (hts _ (List.mem_cons_of_mem _ wk_P_21)) (fun _ h9 => h9) rfl d_P_commitPair_35 ?_
  refine ro_Vl (As := []) (rest := [.long kp, .ref pd]) ⟨hx, hb, hml, hown, hts⟩ (c_W_trailAsSet l dC dI cI cL wy g cA rA mv ((ng_path (ng_nxt bd er oe ot wt ct ne (max (le k) (ho k))) (max (le k) (ho k)) 20 (min (le k) (ho k))).length) tr2_1 htr.2) (cwV 0 hts (wg_V wk_P_195 wm_W_trailAsSet we_W_trailAsSet wi_W wc_W_trailAsSet) rfl rfl rfl (by decide +kernel) ⟨Nat.le_of_ble_eq_true rfl, Nat.le_of_ble_eq_true rfl⟩) hK (hP.sub [5, 7] rfl) (q0 := 0) rfl rfl rfl rfl hl.1 rfl (lv_room (Nat.le_of_ble_eq_true rfl)) d_P_commitPair_38 ⟨Nat.zero_le _, Nat.zero_le _⟩ hS hP (fun H locs hP hS => ?_)
  refine nr_asL (v := ng_pset bd er oe ot wt ct ne (le k) (ho k)) (ng_set_eq htr.1) ?_
  refine lv_lxor hx hb d_P_commitPair_41 ?_
  refine va_put (D := (dC, dI)) (ci := 4) (v := .long (kp ^^^ (ng_pset bd er oe ot wt ct ne (le k) (ho k)))) (ty := .long) (C := R_P) (T := F_P) (N := 6) hx hb hts iP t_P t_P_ok n_P hown hK hP hD hS 0 rfl rfl 5 (by decide) (hts _ (List.mem_cons_of_mem _ wk_P_45)) (fun _ h9 => h9) rfl (by decide +kernel) rfl rfl (Nat.le_of_ble_eq_true rfl) d_P_commitPair_42 (fun H locs hP hD hS => ?_)
  have hP : va_P (dC, dI) classes [cg_P pd g wy mt fo fi (kp ^^^ (ng_pset bd er oe ot wt ct ne (le k) (ho k))), cg_G g tA oA uA wA sA np ne bd er vr, cg_N oA cI 60 oe, cg_N uA cI 60 ot, cg_N wA cI 60 wt, cg_W wy g cA rA mv ((ng_path (ng_nxt bd er oe ot wt ct ne (max (le k) (ho k))) (max (le k) (ho k)) 20 (min (le k) (ho k))).length), cg_L cA cL 400 ct, cg_N rA cI 20 tr2_1, cg_F fo lA hA sz fw fk od, cg_N lA cI 10 le, cg_N hA cI 10 ho] H := hP
  have hD : va_D A [cg_P pd g wy mt fo fi (kp ^^^ (ng_pset bd er oe ot wt ct ne (le k) (ho k))), cg_G g tA oA uA wA sA np ne bd er vr, cg_N oA cI 60 oe, cg_N uA cI 60 ot, cg_N wA cI 60 wt, cg_W wy g cA rA mv ((ng_path (ng_nxt bd er oe ot wt ct ne (max (le k) (ho k))) (max (le k) (ho k)) 20 (min (le k) (ho k))).length), cg_L cA cL 400 ct, cg_N rA cI 20 tr2_1, cg_F fo lA hA sz fw fk od, cg_N lA cI 10 le, cg_N hA cI 10 ho] := hD
  refine lv_aload_n hx hb d_P_commitPair_45 rfl (lv_at hl 2 rfl) ?_
  refine lv_dup hx hb d_P_commitPair_46 rfl ?_
  refine va_get (D := (dC, dI)) (ci := 4) (v := .int fi) (C := R_P) (T := F_P) (N := 6) hx hb hts iP hown hK hP 0 rfl rfl 4 (by decide) (hts _ (List.mem_cons_of_mem _ wk_P_41)) (fun _ h9 => h9) rfl d_P_commitPair_47 ?_
  refine lv_iconst (v := nI 1) hx hb d_P_commitPair_50 (by decide) ?_
  refine lv_iload_n hx hb d_P_commitPair_51 rfl (lv_at hl 1 rfl) ?_
  refine lv_ishl hx hb d_P_commitPair_52 ?_
  refine nr_as (v := nb_o (le k)) rfl ?_
  refine lv_iconst (v := nI 1) hx hb d_P_commitPair_53 (by decide) ?_
  refine lv_iload_n hx hb d_P_commitPair_54 rfl (lv_at hl 0 rfl) ?_
  refine lv_ishl hx hb d_P_commitPair_55 ?_
  refine nr_as (v := nb_o (ho k)) rfl ?_
  refine lv_ior hx hb d_P_commitPair_56 ?_
  refine lv_iconst (v := -1) hx hb d_P_commitPair_57 (by decide) ?_
  refine lv_ixor hx hb d_P_commitPair_58 ?_
  refine lv_iand hx hb d_P_commitPair_59 ?_
  refine va_put (D := (dC, dI)) (ci := 4) (v := .int (fi &&& (((nb_o (le k)) ||| (nb_o (ho k))) ^^^ (-1)))) (ty := .int) (C := R_P) (T := F_P) (N := 6) hx hb hts iP t_P t_P_ok n_P hown hK hP hD hS 0 rfl rfl 4 (by decide) (hts _ (List.mem_cons_of_mem _ wk_P_41)) (fun _ h9 => h9) rfl (by decide +kernel) rfl rfl (Nat.le_of_ble_eq_true rfl) d_P_commitPair_60 (fun H locs hP hD hS => ?_)
  have hP : va_P (dC, dI) classes [cg_P pd g wy mt fo (fi &&& (((nb_o (le k)) ||| (nb_o (ho k))) ^^^ (-1))) (kp ^^^ (ng_pset bd er oe ot wt ct ne (le k) (ho k))), cg_G g tA oA uA wA sA np ne bd er vr, cg_N oA cI 60 oe, cg_N uA cI 60 ot, cg_N wA cI 60 wt, cg_W wy g cA rA mv ((ng_path (ng_nxt bd er oe ot wt ct ne (max (le k) (ho k))) (max (le k) (ho k)) 20 (min (le k) (ho k))).length), cg_L cA cL 400 ct, cg_N rA cI 20 tr2_1, cg_F fo lA hA sz fw fk od, cg_N lA cI 10 le, cg_N hA cI 10 ho] H := hP
  have hD : va_D A [cg_P pd g wy mt fo (fi &&& (((nb_o (le k)) ||| (nb_o (ho k))) ^^^ (-1))) (kp ^^^ (ng_pset bd er oe ot wt ct ne (le k) (ho k))), cg_G g tA oA uA wA sA np ne bd er vr, cg_N oA cI 60 oe, cg_N uA cI 60 ot, cg_N wA cI 60 wt, cg_W wy g cA rA mv ((ng_path (ng_nxt bd er oe ot wt ct ne (max (le k) (ho k))) (max (le k) (ho k)) 20 (min (le k) (ho k))).length), cg_L cA cL 400 ct, cg_N rA cI 20 tr2_1, cg_F fo lA hA sz fw fk od, cg_N lA cI 10 le, cg_N hA cI 10 ho] := hD
  exact rw_vret ((ng_path (ng_nxt bd er oe ot wt ct ne (max (le k) (ho k))) (max (le k) (ho k)) 20 (min (le k) (ho k))).length, tr2_1) hx hb hr hlocks hS hP htr.2 d_P_commitPair_63
end
section
set_option maxHeartbeats 4000000 in
set_option maxRecDepth 100000 in
theorem c_P_findPairing (l : Launch) (dC : Nat → ClassId) (dI : Nat → Nat → Nat) (cI cL : ClassId) (pd g wy mt fo : Nat) (fi : Int32) (kp : Int64) (tA oA uA wA sA np ne : Nat) (bd : Int32) (er : Int64) (vr : Nat) (cA rA : Nat) (mv : Int32) (tl : Nat) (xA nA pA qA kA rl : Nat) (lA hA sz fw fk : Nat) (od : Int64) (oe ot wt ct tr row pw lw lc le ho : Nat → Nat) (nr : Nat → Option Nat) (hnp : np ≤ 20) (hne : ne ≤ 60) (hE : ∀ i, i < ne → oe i < np ∧ ot i < np) (hdf : ∀ i, i < ne → oe i ≠ ot i) (hW : ∀ i, i < ne → ng_w er wt i ≤ 1000000) (hct : ∀ i, i < 400 → ct i ≤ dm_FAR) (hm : mv = nI vr → ng_M np ne bd er oe ot wt ct) (htl : tl ≤ 20) (hpw : ∀ i, i < 100 → pw i ≤ ng_F1) (hlw : ∀ i, i < 1024 → lw i ≤ ng_F1) (hfl : (ng_rw fi np).length ≤ 10) : Met l y_P_findPairing w_P_findPairing ({ frames := 5, cells := 0, slots := 0, locals := 116 } : Room) (va_Pc [.ref pd] (rw_B (dC, dI) classes [(cI, .int), (cL, .long)] [cg_P pd g wy mt fo fi kp, cg_G g tA oA uA wA sA np ne bd er vr, cg_N oA cI 60 oe, cg_N uA cI 60 ot, cg_N wA cI 60 wt, cg_W wy g cA rA mv tl, cg_L cA cL 400 ct, cg_N rA cI 20 tr, cg_M mt g wy xA nA pA qA kA rl, cg_N xA cI 10 row, cg_O nA cI 10 nr, cg_N pA cI 100 pw, cg_N qA cI 1024 lw, cg_N kA cI 1024 lc, cg_F fo lA hA sz fw fk od, cg_N lA cI 10 le, cg_N hA cI 10 ho])) (rw_Qi (dC, dI) classes (rw_A [cg_P pd g wy mt fo fi kp, cg_G g tA oA uA wA sA np ne bd er vr, cg_N oA cI 60 oe, cg_N uA cI 60 ot, cg_N wA cI 60 wt, cg_W wy g cA rA mv tl, cg_L cA cL 400 ct, cg_N rA cI 20 tr, cg_M mt g wy xA nA pA qA kA rl, cg_N xA cI 10 row, cg_O nA cI 10 nr, cg_N pA cI 100 pw, cg_N qA cI 1024 lw, cg_N kA cI 1024 lc, cg_F fo lA hA sz fw fk od, cg_N lA cI 10 le, cg_N hA cI 10 ho]) (fun r (u : (Nat → Nat) × (Nat) × (Nat → Nat) × (Nat → Nat) × (Nat → Option Nat) × (Nat → Nat) × (Nat → Nat) × (Nat → Nat) × (Nat) × (Nat) × (Nat) × (Int64) × (Nat → Nat) × (Nat → Nat)) => ng_M np ne bd er oe ot wt u.1 ∧ u.2.1 ≤ 20 ∧ ((∀ i, i < (ng_rw fi np).length → (ng_rw fi np)[i]? = some (u.2.2.2.1 i)) ∧ (∀ i, i < (ng_rw fi np).length → u.2.2.2.2.1 i = ng_nb bd u.1 (u.2.2.2.1 i) np) ∧ (∀ a b, a ≤ b → b < (ng_rw fi np).length → u.2.2.2.2.2.1 (a * 10 + b) = ng_pv u.1 u.2.2.2.1 u.2.2.2.2.1 a b) ∧ (∀ i, i < 100 → u.2.2.2.2.2.1 i ≤ ng_F1) ∧ ng_gr (ng_rw fi np).length u.2.2.2.2.2.1 u.2.2.2.2.2.2.1 u.2.2.2.2.2.2.2.1 (2 ^ (ng_rw fi np).length)) ∧ ((u.2.2.2.2.2.2.1 (2 ^ (ng_rw fi np).length - 1) = ng_F1 ∧ r = nb_i false ∧ u.2.2.2.2.2.2.2.2.1 = sz ∧ u.2.2.2.2.2.2.2.2.2.1 = fw ∧ u.2.2.2.2.2.2.2.2.2.2.1 = fk ∧ u.2.2.2.2.2.2.2.2.2.2.2.1 = od ∧ u.2.2.2.2.2.2.2.2.2.2.2.2.1 = le ∧ u.2.2.2.2.2.2.2.2.2.2.2.2.2 = ho) ∨ (u.2.2.2.2.2.2.1 (2 ^ (ng_rw fi np).length - 1) ≠ ng_F1 ∧ r = nb_i true ∧ u.2.2.2.2.2.2.2.2.1 = (ng_tf (ng_rw fi np).length u.2.2.2.2.2.1 u.2.2.2.2.2.2.1 (ng_rw fi np).length 0 (2 ^ (ng_rw fi np).length - 1)).length ∧ u.2.2.2.2.2.2.2.2.2.1 = u.2.2.2.2.2.2.1 (2 ^ (ng_rw fi np).length - 1) ∧ u.2.2.2.2.2.2.2.2.2.2.1 = u.2.2.2.2.2.2.2.1 (2 ^ (ng_rw fi np).length - 1) ∧ u.2.2.2.2.2.2.2.2.2.2.2.1 = ng_od (ng_pset bd er oe ot wt u.1 ne) u.2.2.2.1 u.2.2.2.2.1 (ng_tf (ng_rw fi np).length u.2.2.2.2.2.1 u.2.2.2.2.2.2.1 (ng_rw fi np).length 0 (2 ^ (ng_rw fi np).length - 1)) ∧ ng_pr u.2.2.2.1 u.2.2.2.2.1 (ng_tf (ng_rw fi np).length u.2.2.2.2.2.1 u.2.2.2.2.2.2.1 (ng_rw fi np).length 0 (2 ^ (ng_rw fi np).length - 1)) u.2.2.2.2.2.2.2.2.2.2.2.2.1 u.2.2.2.2.2.2.2.2.2.2.2.2.2 (ng_tf (ng_rw fi np).length u.2.2.2.2.2.1 u.2.2.2.2.2.2.1 (ng_rw fi np).length 0 (2 ^ (ng_rw fi np).length - 1)).length ∧ (ng_tf (ng_rw fi np).length u.2.2.2.2.2.1 u.2.2.2.2.2.2.1 (ng_rw fi np).length 0 (2 ^ (ng_rw fi np).length - 1)).length ≤ 10))) (fun u => [cg_P pd g wy mt fo fi kp, cg_G g tA oA uA wA sA np ne bd er vr, cg_N oA cI 60 oe, cg_N uA cI 60 ot, cg_N wA cI 60 wt, cg_W wy g cA rA (nI vr) u.2.1, cg_L cA cL 400 u.1, cg_N rA cI 20 u.2.2.1, cg_M mt g wy xA nA pA qA kA ((ng_rw fi np).length), cg_N xA cI 10 u.2.2.2.1, cg_O nA cI 10 u.2.2.2.2.1, cg_N pA cI 100 u.2.2.2.2.2.1, cg_N qA cI 1024 u.2.2.2.2.2.2.1, cg_N kA cI 1024 u.2.2.2.2.2.2.2.1, cg_F fo lA hA u.2.2.2.2.2.2.2.2.1 u.2.2.2.2.2.2.2.2.2.1 u.2.2.2.2.2.2.2.2.2.2.1 u.2.2.2.2.2.2.2.2.2.2.2.1, cg_N lA cI 10 u.2.2.2.2.2.2.2.2.2.2.2.2.1, cg_N hA cI 10 u.2.2.2.2.2.2.2.2.2.2.2.2.2])) 0 0 (rw_A [cg_P pd g wy mt fo fi kp, cg_G g tA oA uA wA sA np ne bd er vr, cg_N oA cI 60 oe, cg_N uA cI 60 ot, cg_N wA cI 60 wt, cg_W wy g cA rA mv tl, cg_L cA cL 400 ct, cg_N rA cI 20 tr, cg_M mt g wy xA nA pA qA kA rl, cg_N xA cI 10 row, cg_O nA cI 10 nr, cg_N pA cI 100 pw, cg_N qA cI 1024 lw, cg_N kA cI 1024 lc, cg_F fo lA hA sz fw fk od, cg_N lA cI 10 le, cg_N hA cI 10 ho]) := by
  refine Met.ofW (cc := b_P_findPairing) (maxL := 1) (ret := (some .boolean)) (by decide) rfl ?_
  intro p e s m args below meth c s₁ B hml hv
  obtain ⟨rfl, hP, hK, hD0⟩ := hv
  have hx := B.exec
  have hb := B.bytes
  have hr := B.returns
  have hts := atoms_spec (ws := w_P_findPairing) B.pre
  have hown : s.vm.findClass R_P = some m.cls := findClass_of_methodNamed B.named
  have hlocks := B.notSynchronized
  have iP : ∀ w ∈ w_P, w ∈ w_P_findPairing := fun w h => List.mem_cons_of_mem _ (i_P w h)
  have hD := rw_own hD0
  generalize hAe : rw_A [cg_P pd g wy mt fo fi kp, cg_G g tA oA uA wA sA np ne bd er vr, cg_N oA cI 60 oe, cg_N uA cI 60 ot, cg_N wA cI 60 wt, cg_W wy g cA rA mv tl, cg_L cA cL 400 ct, cg_N rA cI 20 tr, cg_M mt g wy xA nA pA qA kA rl, cg_N xA cI 10 row, cg_O nA cI 10 nr, cg_N pA cI 100 pw, cg_N qA cI 1024 lw, cg_N kA cI 1024 lc, cg_F fo lA hA sz fw fk od, cg_N lA cI 10 le, cg_N hA cI 10 ho] = A at hD ⊢
  have hS : va_S A s.heap s.heap [] := va_S.rf
  have hP : va_P (dC, dI) classes [cg_P pd g wy mt fo fi kp, cg_G g tA oA uA wA sA np ne bd er vr, cg_N oA cI 60 oe, cg_N uA cI 60 ot, cg_N wA cI 60 wt, cg_W wy g cA rA mv tl, cg_L cA cL 400 ct, cg_N rA cI 20 tr, cg_M mt g wy xA nA pA qA kA rl, cg_N xA cI 10 row, cg_O nA cI 10 nr, cg_N pA cI 100 pw, cg_N qA cI 1024 lw, cg_N kA cI 1024 lc, cg_F fo lA hA sz fw fk od, cg_N lA cI 10 le, cg_N hA cI 10 ho] s.heap := hP
  have hl := lv_entry ([.ref pd]) (n := 1) (Nat.le_of_ble_eq_true rfl)
  rw [lg_entry_eq]
  generalize (lg_sl ([.ref pd]) ++ List.replicate (1 - (lg_sl ([.ref pd])).length) Slot.unset).toArray = ls at hl ⊢
  have hl : lv_has ls 1 [(0, .ref pd)] := hl
  refine lv_aload_n hx hb d_P_findPairing_0 rfl (lv_at hl 0 rfl) ?_
  refine va_get (D := (dC, dI)) (ci := 4) (v := .ref wy) (C := R_P) (T := F_P) (N := 6) hx hb hts iP hown hK hP 0 rfl rfl 1 (by decide) (hts _ (List.mem_cons_of_mem _ wk_P_21)) (fun _ h9 => h9) rfl d_P_findPairing_1 ?_
  refine rw_Vv (wr := [cg_P pd g wy mt fo fi kp, cg_N rA cI 20 tr, cg_M mt g wy xA nA pA qA kA rl, cg_N xA cI 10 row, cg_O nA cI 10 nr, cg_N pA cI 100 pw, cg_N qA cI 1024 lw, cg_N kA cI 1024 lc, cg_F fo lA hA sz fw fk od, cg_N lA cI 10 le, cg_N hA cI 10 ho]) [1, 2, 3, 4, 5, 6] [0, 7, 8, 9, 10, 11, 12, 13, 14, 15, 16] rfl rfl (by decide) (As := []) (rest := []) ⟨hx, hb, hml, hown, hts⟩ (c_W_measure l dC dI cI cL g tA oA uA wA sA np ne bd er vr wy cA rA mv tl oe ot wt ct (by omega) (by omega) hE hdf hW hct hm) (cwV 0 hts (wg_V wk_P_107 wm_W_measure we_W_measure wi_W wc_W_measure) rfl rfl rfl (by decide +kernel) ⟨Nat.le_of_ble_eq_true rfl, Nat.le_of_ble_eq_true rfl⟩) hK (hP.sub [1, 2, 3, 4, 5, 6] rfl) ((hD.sub [1, 2, 3, 4, 5, 6] (by decide) rfl).weaken (fun _ _ _ _ => trivial)) (q0 := 4) rfl rfl rfl rfl hl.1 rfl (lv_room (Nat.le_of_ble_eq_true rfl)) d_P_findPairing_4 ⟨Nat.zero_le _, Nat.zero_le _⟩ hS hP hD (fun ct2_1 H locs hw_3 hP hS => ?_)
  have hP : va_P (dC, dI) classes [cg_P pd g wy mt fo fi kp, cg_G g tA oA uA wA sA np ne bd er vr, cg_N oA cI 60 oe, cg_N uA cI 60 ot, cg_N wA cI 60 wt, cg_W wy g cA rA (nI vr) tl, cg_L cA cL 400 ct2_1, cg_N rA cI 20 tr, cg_M mt g wy xA nA pA qA kA rl, cg_N xA cI 10 row, cg_O nA cI 10 nr, cg_N pA cI 100 pw, cg_N qA cI 1024 lw, cg_N kA cI 1024 lc, cg_F fo lA hA sz fw fk od, cg_N lA cI 10 le, cg_N hA cI 10 ho] H := hP.sub [0, 11, 12, 13, 14, 15, 16, 1, 2, 3, 4, 5, 6, 7, 8, 9, 10] rfl
  have hD : va_D A [cg_P pd g wy mt fo fi kp, cg_G g tA oA uA wA sA np ne bd er vr, cg_N oA cI 60 oe, cg_N uA cI 60 ot, cg_N wA cI 60 wt, cg_W wy g cA rA (nI vr) tl, cg_L cA cL 400 ct2_1, cg_N rA cI 20 tr, cg_M mt g wy xA nA pA qA kA rl, cg_N xA cI 10 row, cg_O nA cI 10 nr, cg_N pA cI 100 pw, cg_N qA cI 1024 lw, cg_N kA cI 1024 lc, cg_F fo lA hA sz fw fk od, cg_N lA cI 10 le, cg_N hA cI 10 ho] := rw_re hD rfl
  try dsimp only at hw_3
  have hM2 := hw_3
  have hcf := ng_M_cf hnp hE hW hM2
  refine lv_aload_n hx hb d_P_findPairing_7 rfl (lv_at hl 0 rfl) ?_
  refine va_get (D := (dC, dI)) (ci := 4) (v := .ref mt) (C := R_P) (T := F_P) (N := 6) hx hb hts iP hown hK hP 0 rfl rfl 2 (by decide) (hts _ (List.mem_cons_of_mem _ wk_P_30)) (fun _ h9 => h9) rfl d_P_findPairing_8 ?_
  refine lv_aload_n hx hb d_P_findPairing_11 rfl (lv_at hl 0 rfl) ?_
  refine va_get (D := (dC, dI)) (ci := 4) (v := .int fi) (C := R_P) (T := F_P) (N := 6) hx hb hts iP hown hK hP 0 rfl rfl 4 (by decide) (hts _ (List.mem_cons_of_mem _ wk_P_41)) (fun _ h9 => h9) rfl d_P_findPairing_12 ?_
  refine rw_Vi (wr := [cg_P pd g wy mt fo fi kp, cg_N oA cI 60 oe, cg_N uA cI 60 ot, cg_N wA cI 60 wt, cg_N rA cI 20 tr, cg_F fo lA hA sz fw fk od, cg_N lA cI 10 le, cg_N hA cI 10 ho]) [1, 5, 6, 8, 9, 10, 11, 12, 13] [0, 2, 3, 4, 7, 14, 15, 16] rfl rfl (by decide) (As := [.int fi]) (rest := []) ⟨hx, hb, hml, hown, hts⟩ (c_M_solve l dC dI cI cL g tA oA uA wA sA np ne bd er vr wy cA rA (nI vr) tl mt xA nA pA qA kA rl ct2_1 row pw lw lc nr fi (by omega) hfl hpw hlw hM2.2 hcf) (cwV 1 hts (wg_V wk_P_185 wm_M_solve we_M_solve wi_M wc_M_solve) rfl rfl rfl (by decide +kernel) ⟨Nat.le_of_ble_eq_true rfl, Nat.le_of_ble_eq_true rfl⟩) hK (hP.sub [1, 5, 6, 8, 9, 10, 11, 12, 13] rfl) ((hD.sub [1, 5, 6, 8, 9, 10, 11, 12, 13] (by decide) rfl).weaken (fun _ _ _ _ => trivial)) (q0 := 3) rfl rfl rfl rfl hl.1 rfl (lv_room (Nat.le_of_ble_eq_true rfl)) d_P_findPairing_15 ⟨Nat.zero_le _, Nat.zero_le _⟩ hS hP hD (fun r_9 u H locs hw_10 hP hS => ?_)
  obtain ⟨row2_4, nr2_5, pw2_6, lw2_7, lc2_8⟩ := u
  have hP : va_P (dC, dI) classes [cg_P pd g wy mt fo fi kp, cg_G g tA oA uA wA sA np ne bd er vr, cg_N oA cI 60 oe, cg_N uA cI 60 ot, cg_N wA cI 60 wt, cg_W wy g cA rA (nI vr) tl, cg_L cA cL 400 ct2_1, cg_N rA cI 20 tr, cg_M mt g wy xA nA pA qA kA ((ng_rw fi np).length), cg_N xA cI 10 row2_4, cg_O nA cI 10 nr2_5, cg_N pA cI 100 pw2_6, cg_N qA cI 1024 lw2_7, cg_N kA cI 1024 lc2_8, cg_F fo lA hA sz fw fk od, cg_N lA cI 10 le, cg_N hA cI 10 ho] H := hP.sub [0, 8, 1, 2, 3, 9, 10, 4, 11, 12, 13, 14, 15, 16, 5, 6, 7] rfl
  have hD : va_D A [cg_P pd g wy mt fo fi kp, cg_G g tA oA uA wA sA np ne bd er vr, cg_N oA cI 60 oe, cg_N uA cI 60 ot, cg_N wA cI 60 wt, cg_W wy g cA rA (nI vr) tl, cg_L cA cL 400 ct2_1, cg_N rA cI 20 tr, cg_M mt g wy xA nA pA qA kA ((ng_rw fi np).length), cg_N xA cI 10 row2_4, cg_O nA cI 10 nr2_5, cg_N pA cI 100 pw2_6, cg_N qA cI 1024 lw2_7, cg_N kA cI 1024 lc2_8, cg_F fo lA hA sz fw fk od, cg_N lA cI 10 le, cg_N hA cI 10 ho] := rw_re hD rfl
  try dsimp only at hw_10
  obtain ⟨hrb, hsv⟩ := hw_10
  subst hrb
  obtain ⟨hs1, hs2, hs3, hs4, hs5⟩ := id hsv
  have hrow : ∀ j, j < (ng_rw fi np).length → row2_4 j < np := fun j hj => (ng_rw_lt (List.mem_of_getElem? (hs1 j hj))).1
  have hnr : ∀ j y, j < (ng_rw fi np).length → nr2_5 j = some y → y < np := fun j y hj hy => ng_nb_lt ((hs2 j hj).symm.trans hy)
  refine nr_ifneB (tgt := 23) hx hb d_P_findPairing_18 (by decide) (fun c_18 => ?_) (fun c_18 => ?_)
  · refine lv_aload_n hx hb d_P_findPairing_23 rfl (lv_at hl 0 rfl) ?_
    refine va_get (D := (dC, dI)) (ci := 4) (v := .ref mt) (C := R_P) (T := F_P) (N := 6) hx hb hts iP hown hK hP 0 rfl rfl 2 (by decide) (hts _ (List.mem_cons_of_mem _ wk_P_30)) (fun _ h9 => h9) rfl d_P_findPairing_24 ?_
    refine lv_aload_n hx hb d_P_findPairing_27 rfl (lv_at hl 0 rfl) ?_
    refine va_get (D := (dC, dI)) (ci := 4) (v := .ref fo) (C := R_P) (T := F_P) (N := 6) hx hb hts iP hown hK hP 0 rfl rfl 3 (by decide) (hts _ (List.mem_cons_of_mem _ wk_P_37)) (fun _ h9 => h9) rfl d_P_findPairing_28 ?_
    refine rw_Vv (wr := [cg_P pd g wy mt fo fi kp]) [1, 2, 3, 4, 5, 6, 7, 8, 9, 10, 11, 12, 13, 14, 15, 16] [0] rfl rfl (by decide) (As := [.ref fo]) (rest := []) ⟨hx, hb, hml, hown, hts⟩ (c_M_tellFirst l dC dI cI cL g tA oA uA wA sA np ne bd er vr wy cA rA (nI vr) tl mt xA nA pA qA kA ((ng_rw fi np).length) fo lA hA sz fw fk od oe ot wt ct2_1 tr row2_4 pw2_6 lw2_7 lc2_8 le ho nr2_5 (by omega) (fun i h => ⟨Nat.lt_of_lt_of_le (hE i h).1 hnp, Nat.lt_of_lt_of_le (hE i h).2 hnp⟩) hW hM2.2 (by omega) hfl hrow hnr hs3 hs4 hs5 (by simpa using c_18) htl) (cwV 1 hts (wg_V wk_P_188 wm_M_tellFirst we_M_tellFirst wi_M wc_M_tellFirst) rfl rfl rfl (by decide +kernel) ⟨Nat.le_of_ble_eq_true rfl, Nat.le_of_ble_eq_true rfl⟩) hK (hP.sub [1, 2, 3, 4, 5, 6, 7, 8, 9, 10, 11, 12, 13, 14, 15, 16] rfl) ((hD.sub [1, 2, 3, 4, 5, 6, 7, 8, 9, 10, 11, 12, 13, 14, 15, 16] (by decide) rfl).weaken (fun _ _ _ _ => trivial)) (q0 := 7) rfl rfl rfl rfl hl.1 rfl (lv_room (Nat.le_of_ble_eq_true rfl)) d_P_findPairing_31 ⟨Nat.zero_le _, Nat.zero_le _⟩ hS hP hD (fun u H locs hw_16 hP hS => ?_)
    obtain ⟨tl2_11, tr2_12, le2_13, ho2_14⟩ := u
    have hP : va_P (dC, dI) classes [cg_P pd g wy mt fo fi kp, cg_G g tA oA uA wA sA np ne bd er vr, cg_N oA cI 60 oe, cg_N uA cI 60 ot, cg_N wA cI 60 wt, cg_W wy g cA rA (nI vr) tl2_11, cg_L cA cL 400 ct2_1, cg_N rA cI 20 tr2_12, cg_M mt g wy xA nA pA qA kA ((ng_rw fi np).length), cg_N xA cI 10 row2_4, cg_O nA cI 10 nr2_5, cg_N pA cI 100 pw2_6, cg_N qA cI 1024 lw2_7, cg_N kA cI 1024 lc2_8, cg_F fo lA hA ((ng_tf ((ng_rw fi np).length) pw2_6 lw2_7 ((ng_rw fi np).length) 0 (2 ^ ((ng_rw fi np).length) - 1)).length) (lw2_7 (2 ^ ((ng_rw fi np).length) - 1)) (lc2_8 (2 ^ ((ng_rw fi np).length) - 1)) (ng_od (ng_pset bd er oe ot wt ct2_1 ne) row2_4 nr2_5 (ng_tf ((ng_rw fi np).length) pw2_6 lw2_7 ((ng_rw fi np).length) 0 (2 ^ ((ng_rw fi np).length) - 1))), cg_N lA cI 10 le2_13, cg_N hA cI 10 ho2_14] H := hP.sub [0, 1, 2, 3, 4, 5, 6, 7, 8, 9, 10, 11, 12, 13, 14, 15, 16] rfl
    have hD : va_D A [cg_P pd g wy mt fo fi kp, cg_G g tA oA uA wA sA np ne bd er vr, cg_N oA cI 60 oe, cg_N uA cI 60 ot, cg_N wA cI 60 wt, cg_W wy g cA rA (nI vr) tl2_11, cg_L cA cL 400 ct2_1, cg_N rA cI 20 tr2_12, cg_M mt g wy xA nA pA qA kA ((ng_rw fi np).length), cg_N xA cI 10 row2_4, cg_O nA cI 10 nr2_5, cg_N pA cI 100 pw2_6, cg_N qA cI 1024 lw2_7, cg_N kA cI 1024 lc2_8, cg_F fo lA hA ((ng_tf ((ng_rw fi np).length) pw2_6 lw2_7 ((ng_rw fi np).length) 0 (2 ^ ((ng_rw fi np).length) - 1)).length) (lw2_7 (2 ^ ((ng_rw fi np).length) - 1)) (lc2_8 (2 ^ ((ng_rw fi np).length) - 1)) (ng_od (ng_pset bd er oe ot wt ct2_1 ne) row2_4 nr2_5 (ng_tf ((ng_rw fi np).length) pw2_6 lw2_7 ((ng_rw fi np).length) 0 (2 ^ ((ng_rw fi np).length) - 1))), cg_N lA cI 10 le2_13, cg_N hA cI 10 ho2_14] := rw_re hD rfl
    try dsimp only at hw_16
    obtain ⟨ht1, ht2, ht3⟩ := hw_16
    refine lv_iconst (v := nI 1) hx hb d_P_findPairing_34 (by decide) ?_
    exact rw_zret (ct2_1, tl2_11, tr2_12, row2_4, nr2_5, pw2_6, lw2_7, lc2_8, (ng_tf ((ng_rw fi np).length) pw2_6 lw2_7 ((ng_rw fi np).length) 0 (2 ^ ((ng_rw fi np).length) - 1)).length, lw2_7 (2 ^ ((ng_rw fi np).length) - 1), lc2_8 (2 ^ ((ng_rw fi np).length) - 1), ng_od (ng_pset bd er oe ot wt ct2_1 ne) row2_4 nr2_5 (ng_tf ((ng_rw fi np).length) pw2_6 lw2_7 ((ng_rw fi np).length) 0 (2 ^ ((ng_rw fi np).length) - 1)), le2_13, ho2_14) (b := true) hx hb hr hlocks hS hP rfl (⟨hM2, ht3, hsv, Or.inr ⟨by simpa using c_18, rfl, rfl, rfl, rfl, rfl, ht1, ht2⟩⟩) d_P_findPairing_35
  · refine lv_iconst (v := nI 0) hx hb d_P_findPairing_21 (by decide) ?_
    exact rw_zret (ct2_1, tl, tr, row2_4, nr2_5, pw2_6, lw2_7, lc2_8, sz, fw, fk, od, le, ho) (b := false) hx hb hr hlocks hS hP rfl (⟨hM2, htl, hsv, Or.inl ⟨by simpa using c_18, rfl, rfl, rfl, rfl, rfl, rfl, rfl⟩⟩) d_P_findPairing_22
end
section
/-! how many bits are set: what bitCount computes (rows wb_ .. out of kit/laws/BITS.to-paste) -/
theorem wb_tb (n : Nat) : (lN n).toBitVec = BitVec.ofNat 64 n := rfl
theorem wb_inj {a b : Int64} (h : a.toBitVec = b.toBitVec) : a = b := Int64.toBitVec_inj.mp h
theorem wb_tn {n : Nat} (h : n < 2 ^ 64) : (lN n).toBitVec.toNat = n := by rw [wb_tb, BitVec.toNat_ofNat, Nat.mod_eq_of_lt h]
theorem wb_of (x : Int64) : ∃ n, n < 2 ^ 64 ∧ x = lN n := ⟨x.toBitVec.toNat, x.toBitVec.isLt, wb_inj (by rw [wb_tb]; simp)⟩
theorem wb_of32 (x : Int32) : ∃ n, n < 2 ^ 32 ∧ x = nI n := ⟨x.toBitVec.toNat, x.toBitVec.isLt, Int32.toBitVec_inj.mp (by show _ = BitVec.ofNat 32 _; simp)⟩
theorem wb_cu : ∀ k, k < 64 → ((nI k).toInt64.toUInt64 &&& Int64.toUInt64 63) = UInt64.ofNat k := by decide +kernel
theorem wb_shr {n k : Nat} (hn : n < 2 ^ 64) (hk : k < 64) : ((lN n).toUInt64 >>> ((nI k).toInt64.toUInt64 &&& Int64.toUInt64 63)).toInt64 = lN (n / 2 ^ k) := by
  rw [wb_cu k hk]
  apply wb_inj
  apply BitVec.eq_of_toNat_eq
  show ((lN n).toUInt64 >>> UInt64.ofNat k).toNat = (BitVec.ofNat 64 _).toNat
  have h1 : (UInt64.ofNat k).toNat = k := by
    show (BitVec.ofNat 64 k).toNat = k
    rw [BitVec.toNat_ofNat, Nat.mod_eq_of_lt (by omega)]
  have h2 : (lN n).toUInt64.toNat = n := wb_tn hn
  rw [UInt64.toNat_shiftRight, h1, h2, Nat.mod_eq_of_lt hk, Nat.shiftRight_eq_div_pow, BitVec.toNat_ofNat, Nat.mod_eq_of_lt (Nat.lt_of_le_of_lt (Nat.div_le_self _ _) hn)]
theorem dp_nand (a b : Nat) : nI a &&& nI b = nI (a &&& b) := by
  apply Int32.toBitVec_inj.1
  show BitVec.ofNat 32 a &&& BitVec.ofNat 32 b = BitVec.ofNat 32 (a &&& b)
  apply BitVec.eq_of_getLsbD_eq
  intro i hi
  simp [hi]
theorem dp_land (a b : Nat) : lN a &&& lN b = lN (a &&& b) := by
  apply Int64.toBitVec_inj.1
  show BitVec.ofNat 64 a &&& BitVec.ofNat 64 b = BitVec.ofNat 64 (a &&& b)
  apply BitVec.eq_of_getLsbD_eq
  intro i hi
  simp [hi]
theorem dp_ush : ∀ k, k < 32 → (((nI k).toUInt32 &&& Int32.toUInt32 31).toBitVec % 32).toNat = k := by decide +kernel
theorem dp_shr {n k : Nat} (hn : n < 2 ^ 32) (hk : k < 32) : ((nI n).toUInt32 >>> ((nI k).toUInt32 &&& Int32.toUInt32 31)).toInt32 = nI (n / 2 ^ k) := pk_ushrN hn (nI k) k (dp_ush k hk)
def dp_M (P m : Nat) : Nat → Nat
  | 0 => 0
  | n + 1 => m + P * dp_M P m n
def dp_sd (B : Nat) : Nat → Nat → Nat
  | 0, _ => 0
  | n + 1, y => y % B + dp_sd B n (y / B)
def dp_dg (B b : Nat) : Nat → Nat → Prop
  | 0, _ => True
  | n + 1, z => z % B ≤ b ∧ dp_dg B b n (z / B)
theorem dp_and (s x y : Nat) : x &&& y = ((x % 2 ^ s) &&& (y % 2 ^ s)) + 2 ^ s * ((x / 2 ^ s) &&& (y / 2 ^ s)) := by
  rw [← Nat.and_mod_two_pow, ← Nat.and_div_two_pow]
  have := Nat.mod_add_div (x &&& y) (2 ^ s)
  omega
theorem dp_ct_s {P : Nat → Bool} : ∀ {n : Nat}, dm_ct P (n + 1) = (if P 0 = true then 1 else 0) + dm_ct (fun i => P (i + 1)) n := by
  intro n
  induction n with
  | zero => simp [dm_ct]
  | succ n ih =>
    rw [dm_ct, ih]
    show _ = (if P 0 = true then 1 else 0) + (dm_ct (fun i => P (i + 1)) n + (if P (n + 1) = true then 1 else 0))
    omega
theorem dp_ct4 (x n : Nat) : dm_ct (fun i => x.testBit i) (2 * (n + 1)) = x % 2 + (x / 2) % 2 + dm_ct (fun i => (x / 4).testBit i) (2 * n) := by
  have b : ∀ z : Nat, (if z.testBit 0 = true then 1 else 0) = z % 2 := by
    intro z
    rw [Nat.testBit_zero]
    by_cases q : z % 2 = 1
    · simp [q]
    · simp [q]; omega
  have e1 : (fun i => x.testBit (i + 1)) = (fun i => (x / 2).testBit i) := by
    funext i; exact Nat.testBit_succ x i
  have e2 : (fun i => (x / 2).testBit (i + 1)) = (fun i => (x / 4).testBit i) := by
    funext i
    rw [show x / 4 = x / 2 / 2 by omega]
    exact Nat.testBit_succ (x / 2) i
  rw [show 2 * (n + 1) = (2 * n + 1) + 1 by omega, dp_ct_s, b]
  show x % 2 + dm_ct (fun i => x.testBit (i + 1)) (2 * n + 1) = _
  rw [e1, dp_ct_s, b]
  show x % 2 + (x / 2 % 2 + dm_ct (fun i => (x / 2).testBit (i + 1)) (2 * n)) = _
  rw [e2]
  omega
theorem dp_1 : ∀ n x : Nat, dp_sd 4 n (x % 4 ^ n - ((x % 4 ^ n / 2) &&& dp_M 4 1 n)) = dm_ct (fun i => (x % 4 ^ n).testBit i) (2 * n) := by
  intro n
  induction n with
  | zero => intro x; rfl
  | succ n ih =>
    intro x
    rw [dp_ct4]
    have hx : x % 4 ^ (n + 1) / 4 = (x / 4) % 4 ^ n := by
      rw [Nat.pow_succ, Nat.mul_comm]; exact Nat.mod_mul_right_div_self x 4 (4 ^ n)
    generalize x % 4 ^ (n + 1) = y at hx ⊢
    have hy := ih (x / 4)
    rw [← hx] at hy
    rw [← hy]
    have e : (y / 2) &&& dp_M 4 1 (n + 1) = (y % 4) / 2 + 4 * ((y / 4 / 2) &&& dp_M 4 1 n) := by
      rw [dp_and 2 (y / 2) (dp_M 4 1 (n + 1))]
      have m1 : dp_M 4 1 (n + 1) = 1 + 4 * dp_M 4 1 n := rfl
      have m2 : dp_M 4 1 (n + 1) % 2 ^ 2 = 1 := by rw [m1]; omega
      have m3 : dp_M 4 1 (n + 1) / 2 ^ 2 = dp_M 4 1 n := by rw [m1]; omega
      rw [m2, m3, show y / 2 / 2 ^ 2 = y / 4 / 2 by omega]
      have m4 : (y / 2 % 2 ^ 2) &&& 1 = (y % 4) / 2 := by
        rw [Nat.and_one_is_mod]; omega
      rw [m4]
    have hz : ((y / 4 / 2) &&& dp_M 4 1 n) ≤ y / 4 / 2 := Nat.and_le_left
    rw [e]
    generalize (y / 4 / 2) &&& dp_M 4 1 n = z at hz ⊢
    show (y - (y % 4 / 2 + 4 * z)) % 4 + dp_sd 4 n ((y - (y % 4 / 2 + 4 * z)) / 4) = _
    rw [show (y - (y % 4 / 2 + 4 * z)) / 4 = y / 4 - z by omega, show (y - (y % 4 / 2 + 4 * z)) % 4 = y % 2 + y / 2 % 2 by omega]
theorem dp_2 : ∀ n y : Nat, dp_sd 16 n ((y &&& dp_M 16 3 n) + ((y / 4) &&& dp_M 16 3 n)) = dp_sd 4 (2 * n) y ∧ dp_dg 16 6 n ((y &&& dp_M 16 3 n) + ((y / 4) &&& dp_M 16 3 n)) := by
  intro n
  induction n with
  | zero => intro y; exact ⟨rfl, trivial⟩
  | succ n ih =>
    intro y
    have h := ih (y / 16)
    have m1 : dp_M 16 3 (n + 1) = 3 + 16 * dp_M 16 3 n := rfl
    have m2 : dp_M 16 3 (n + 1) % 2 ^ 4 = 3 := by rw [m1]; omega
    have m3 : dp_M 16 3 (n + 1) / 2 ^ 4 = dp_M 16 3 n := by rw [m1]; omega
    have a3 : ∀ z : Nat, z &&& 3 = z % 4 := fun z => Nat.and_two_pow_sub_one_eq_mod z 2
    have e1 : y &&& dp_M 16 3 (n + 1) = y % 4 + 16 * ((y / 16) &&& dp_M 16 3 n) := by
      rw [dp_and 4 y, m2, m3, a3]
      show y % 16 % 4 + 16 * (y / 16 &&& _) = _
      omega
    have e2 : (y / 4) &&& dp_M 16 3 (n + 1) = (y / 4) % 4 + 16 * ((y / 16 / 4) &&& dp_M 16 3 n) := by
      rw [dp_and 4 (y / 4), m2, m3, a3, show y / 4 / 2 ^ 4 = y / 16 / 4 by omega]
      show y / 4 % 16 % 4 + 16 * _ = _
      omega
    rw [e1, e2]
    generalize (y / 16) &&& dp_M 16 3 n = u at h ⊢
    generalize (y / 16 / 4) &&& dp_M 16 3 n = v at h ⊢
    have f1 : (y % 4 + 16 * u + (y / 4 % 4 + 16 * v)) / 16 = u + v := by omega
    have f2 : (y % 4 + 16 * u + (y / 4 % 4 + 16 * v)) % 16 = y % 4 + y / 4 % 4 := by omega
    refine ⟨?_, ?_⟩
    · show (y % 4 + 16 * u + (y / 4 % 4 + 16 * v)) % 16 + dp_sd 16 n ((y % 4 + 16 * u + (y / 4 % 4 + 16 * v)) / 16) = y % 4 + (y / 4 % 4 + dp_sd 4 (2 * n) (y / 4 / 4))
      rw [f1, f2, h.1, show y / 4 / 4 = y / 16 by omega]
      omega
    · show (y % 4 + 16 * u + (y / 4 % 4 + 16 * v)) % 16 ≤ 6 ∧ dp_dg 16 6 n ((y % 4 + 16 * u + (y / 4 % 4 + 16 * v)) / 16)
      rw [f1, f2]
      exact ⟨by omega, h.2⟩
theorem dp_3 : ∀ n z : Nat, z < 256 ^ n → dp_dg 16 6 (2 * n) z → dp_sd 256 n ((z + z / 16) &&& dp_M 256 15 n) = dp_sd 16 (2 * n) z ∧ dp_dg 256 12 n ((z + z / 16) &&& dp_M 256 15 n) := by
  intro n
  induction n with
  | zero => intro z _ _; exact ⟨rfl, trivial⟩
  | succ n ih =>
    intro z hz hd
    have hd1 : z % 16 ≤ 6 ∧ (z / 16 % 16 ≤ 6 ∧ dp_dg 16 6 (2 * n) (z / 16 / 16)) := hd
    obtain ⟨d0, d1, d2⟩ := hd1
    rw [show z / 16 / 16 = z / 256 by omega] at d2
    have hz2 : z / 256 < 256 ^ n := by
      rw [Nat.pow_succ] at hz
      exact Nat.div_lt_of_lt_mul (by rw [Nat.mul_comm]; exact hz)
    have h := ih (z / 256) hz2 d2
    have r0 : z / 256 % 16 ≤ 6 := by
      cases n with
      | zero => simp at hz2; omega
      | succ n => exact d2.1
    have m1 : dp_M 256 15 (n + 1) = 15 + 256 * dp_M 256 15 n := rfl
    have m2 : dp_M 256 15 (n + 1) % 2 ^ 8 = 15 := by rw [m1]; omega
    have m3 : dp_M 256 15 (n + 1) / 2 ^ 8 = dp_M 256 15 n := by rw [m1]; omega
    have a3 : ∀ z : Nat, z &&& 15 = z % 16 := fun z => Nat.and_two_pow_sub_one_eq_mod z 4
    have e1 : (z + z / 16) &&& dp_M 256 15 (n + 1) = (z % 16 + z / 16 % 16) + 256 * ((z / 256 + z / 256 / 16) &&& dp_M 256 15 n) := by
      rw [dp_and 8 (z + z / 16), m2, m3, a3]
      show (z + z / 16) % 256 % 16 + 256 * ((z + z / 16) / 256 &&& _) = _
      obtain ⟨a0, ha0⟩ : ∃ k, k = z % 16 := ⟨_, rfl⟩
      obtain ⟨a1, ha1⟩ : ∃ k, k = z / 16 % 16 := ⟨_, rfl⟩
      obtain ⟨r, hr⟩ : ∃ k, k = z / 256 := ⟨_, rfl⟩
      have z1 : z = a0 + 16 * a1 + 256 * r := by omega
      have z2 : z / 16 = a1 + 16 * r := by omega
      obtain ⟨r1, hr1⟩ : ∃ k, k = r / 16 := ⟨_, rfl⟩
      obtain ⟨s0, hs0⟩ : ∃ k, k = r % 16 := ⟨_, rfl⟩
      have z3 : r = s0 + 16 * r1 := by omega
      have z4 : z + z / 16 = (a0 + 17 * a1 + 16 * s0) + 256 * (r + r1) := by rw [z2]; omega
      have z5 : s0 ≤ 6 := by rw [hs0, hr]; exact r0
      have z6 : (z + z / 16) / 256 = r + r1 := by rw [z4]; omega
      have z7 : (z + z / 16) % 256 % 16 = a0 + a1 := by rw [z4]; omega
      rw [z6, z7, ← hr, ← hr1, ← ha0, ← ha1]
    rw [e1]
    generalize (z / 256 + z / 256 / 16) &&& dp_M 256 15 n = u at h ⊢
    refine ⟨?_, ?_⟩
    · show (z % 16 + z / 16 % 16 + 256 * u) % 256 + dp_sd 256 n ((z % 16 + z / 16 % 16 + 256 * u) / 256) = z % 16 + (z / 16 % 16 + dp_sd 16 (2 * n) (z / 16 / 16))
      rw [show (z % 16 + z / 16 % 16 + 256 * u) / 256 = u by omega, h.1, show z / 16 / 16 = z / 256 by omega]
      omega
    · show (z % 16 + z / 16 % 16 + 256 * u) % 256 ≤ 12 ∧ dp_dg 256 12 n ((z % 16 + z / 16 % 16 + 256 * u) / 256)
      rw [show (z % 16 + z / 16 % 16 + 256 * u) / 256 = u by omega]
      exact ⟨by omega, h.2⟩
end
section
theorem dp_c1 : dp_M 4 1 16 = 1431655765 := by decide +kernel
theorem dp_c2 : dp_M 16 3 8 = 858993459 := by decide +kernel
theorem dp_c3 : dp_M 256 15 4 = 252645135 := by decide +kernel
theorem dp_l1 : dp_M 4 1 32 = 6148914691236517205 := by decide +kernel
theorem dp_l2 : dp_M 16 3 16 = 3689348814741910323 := by decide +kernel
theorem dp_l3 : dp_M 256 15 8 = 1085102592571150095 := by decide +kernel
theorem dp_dv {A B q : Nat} (h : A < B) : (A + B * q) / B = q := by rw [Nat.add_mul_div_left _ _ (by omega), Nat.div_eq_of_lt h, Nat.zero_add]
theorem dp_f32 {a b c d w : Nat} (ha : a ≤ 12) (hb : b ≤ 12) (hc : c ≤ 12) (hd : d ≤ 12) (hw : w = a + 256 * (b + 256 * (c + 256 * d))) : (w + w / 256 + (w + w / 256) / 65536) % 64 = a + b + c + d := by
  have w1 : w / 256 = b + 256 * (c + 256 * d) := by rw [hw]; exact dp_dv (by omega)
  have w2 : w + w / 256 = ((a + b) + 256 * (b + c)) + 65536 * (c + d + 256 * d) := by rw [w1, hw]; omega
  have w3 : (w + w / 256) / 65536 = c + d + 256 * d := by rw [w2]; exact dp_dv (by omega)
  have w4 : w + w / 256 + (w + w / 256) / 65536 = (a + b + c + d) + 64 * (4 * (b + c + d) + 1024 * (c + d + 256 * d)) := by rw [w3, w2]; omega
  rw [w4, Nat.add_mul_mod_self_left, Nat.mod_eq_of_lt (by omega)]
theorem dp_32 {n n1 n2 n3 n4 n5 : Nat} (hn : n < 2 ^ 32) (e1 : n1 = n - ((n / 2) &&& 1431655765)) (e2 : n2 = (n1 &&& 858993459) + ((n1 / 4) &&& 858993459)) (e3 : n3 = (n2 + n2 / 16) &&& 252645135) (e4 : n4 = n3 + n3 / 256) (e5 : n5 = n4 + n4 / 65536) : n5 % 64 = dm_ct (fun i => n.testBit i) 32 := by
  have h1 := dp_1 16 n
  rw [Nat.mod_eq_of_lt (show n < 4 ^ 16 by omega), dp_c1, ← e1] at h1
  have h2 := dp_2 8 n1
  rw [dp_c2, ← e2] at h2
  have b2 : n2 < 256 ^ 4 := by
    have q1 : (n1 &&& 858993459) ≤ 858993459 := Nat.and_le_right
    have q2 : ((n1 / 4) &&& 858993459) ≤ 858993459 := Nat.and_le_right
    omega
  have h3 := dp_3 4 n2 b2 h2.2
  rw [dp_c3, ← e3] at h3
  rw [h2.1, h1] at h3
  have h4 := h3.1
  have h5 := h3.2
  have b3 : n3 ≤ 252645135 := by rw [e3]; exact Nat.and_le_right
  simp only [dp_dg, and_true] at h5
  simp only [dp_sd] at h4
  obtain ⟨q0, q1, q2, q3⟩ := h5
  rw [show (2 : Nat) * 16 = 32 from rfl] at h4
  have k3 : n3 / 256 / 256 / 256 / 256 = 0 := by
    rw [Nat.div_div_eq_div_mul, Nat.div_div_eq_div_mul, Nat.div_div_eq_div_mul]
    exact Nat.div_eq_of_lt (by omega)
  have hw : n3 = n3 % 256 + 256 * (n3 / 256 % 256 + 256 * (n3 / 256 / 256 % 256 + 256 * (n3 / 256 / 256 / 256 % 256))) := by
    have m0 := Nat.mod_add_div n3 256
    have m1 := Nat.mod_add_div (n3 / 256) 256
    have m2 := Nat.mod_add_div (n3 / 256 / 256) 256
    have m3 := Nat.mod_add_div (n3 / 256 / 256 / 256) 256
    rw [k3, Nat.mul_zero, Nat.add_zero] at m3
    rw [m3, m2, m1, m0]
  rw [e5, e4, dp_f32 q0 q1 q2 q3 hw, ← h4]
  simp only [Nat.add_zero, Nat.add_assoc]
theorem ng_rw_len {fi : Int32} : ∀ {n : Nat}, (ng_rw fi n).length = dm_ct (fun i => nb_t fi i) n := by
  intro n
  induction n with
  | zero => rfl
  | succ n ih =>
    rw [ng_rw, dm_ct, ← ih]
    split
    · rw [List.length_append]; rfl
    · rfl
theorem ng_tbL {n i : Nat} (hn : n < 2 ^ 64) : nb_u (lN n) i = n.testBit i := by
  unfold nb_u
  show (BitVec.ofNat 64 n).getLsbD i = _
  rw [BitVec.getLsbD_ofNat]
  by_cases h : i < 64
  · simp [h]
  · rw [decide_eq_false h, Bool.false_and, Nat.testBit_lt_two_pow (Nat.lt_of_lt_of_le hn (Nat.pow_le_pow_right (by decide) (Nat.not_lt.mp h)))]
end
section
theorem dp_g2 (a b c d e f g h : Nat) : (a + 256 * (b + 256 * (c + 256 * (d + 256 * (e + 256 * (f + 256 * (g + 256 * h))))))) + (b + 256 * (c + 256 * (d + 256 * (e + 256 * (f + 256 * (g + 256 * h)))))) = ((a + b) + 256 * (b + c)) + 65536 * ((c + d) + 256 * (d + e) + 65536 * (e + f) + 16777216 * (f + g) + 4294967296 * (g + h) + 1099511627776 * h) := by omega
theorem dp_g4 (a b c d e f g h : Nat) : ((a + b) + 256 * (b + c)) + 65536 * ((c + d) + 256 * (d + e) + 65536 * (e + f) + 16777216 * (f + g) + 4294967296 * (g + h) + 1099511627776 * h) + ((c + d) + 256 * (d + e) + 65536 * (e + f) + 16777216 * (f + g) + 4294967296 * (g + h) + 1099511627776 * h) = ((a + b + c + d) + 256 * (b + c + d + e) + 65536 * (c + d + e + f) + 16777216 * (d + e + f + g)) + 4294967296 * ((e + f + g + h) + 256 * (f + g + h) + 65536 * (g + h) + 16777216 * h) := by omega
theorem dp_g6 (a b c d e f g h : Nat) : ((a + b + c + d) + 256 * (b + c + d + e) + 65536 * (c + d + e + f) + 16777216 * (d + e + f + g)) + 4294967296 * ((e + f + g + h) + 256 * (f + g + h) + 65536 * (g + h) + 16777216 * h) + ((e + f + g + h) + 256 * (f + g + h) + 65536 * (g + h) + 16777216 * h) = (a + b + c + d + e + f + g + h) + 128 * (2 * ((b + c + d + e) + (f + g + h)) + 512 * ((c + d + e + f) + (g + h)) + 131072 * ((d + e + f + g) + h) + 33554432 * ((e + f + g + h) + 256 * (f + g + h) + 65536 * (g + h) + 16777216 * h)) := by omega
theorem dp_f64 {a b c d e f g h w : Nat} (ha : a ≤ 12) (hb : b ≤ 12) (hc : c ≤ 12) (hd : d ≤ 12) (he : e ≤ 12) (hf : f ≤ 12) (hg : g ≤ 12) (hh : h ≤ 12) (hw : w = a + 256 * (b + 256 * (c + 256 * (d + 256 * (e + 256 * (f + 256 * (g + 256 * h))))))) : (w + w / 256 + (w + w / 256) / 65536 + (w + w / 256 + (w + w / 256) / 65536) / 4294967296) % 128 = a + b + c + d + e + f + g + h := by
  have k1 : a < 256 := by clear hw; omega
  have k2 : (a + b) + 256 * (b + c) < 65536 := by clear hw; omega
  have k3 : (a + b + c + d) + 256 * (b + c + d + e) + 65536 * (c + d + e + f) + 16777216 * (d + e + f + g) < 4294967296 := by clear hw; omega
  have k4 : a + b + c + d + e + f + g + h < 128 := by clear hw; omega
  have w1 : w / 256 = b + 256 * (c + 256 * (d + 256 * (e + 256 * (f + 256 * (g + 256 * h))))) := by rw [hw]; exact dp_dv k1
  have w2 := dp_g2 a b c d e f g h
  rw [← hw, ← w1] at w2
  have w3 := dp_dv (q := (c + d) + 256 * (d + e) + 65536 * (e + f) + 16777216 * (f + g) + 4294967296 * (g + h) + 1099511627776 * h) k2
  rw [← w2] at w3
  have w4 := dp_g4 a b c d e f g h
  rw [← w2, ← w3] at w4
  have w5 := dp_dv (q := (e + f + g + h) + 256 * (f + g + h) + 65536 * (g + h) + 16777216 * h) k3
  rw [← w4] at w5
  have w6 := dp_g6 a b c d e f g h
  rw [← w4, ← w5] at w6
  rw [w6, Nat.add_mul_mod_self_left, Nat.mod_eq_of_lt k4]
end
section
theorem dp_64 {n n1 n2 n3 n4 n5 n6 : Nat} (hn : n < 2 ^ 64) (e1 : n1 = n - ((n / 2) &&& 6148914691236517205)) (e2 : n2 = (n1 &&& 3689348814741910323) + ((n1 / 4) &&& 3689348814741910323)) (e3 : n3 = (n2 + n2 / 16) &&& 1085102592571150095) (e4 : n4 = n3 + n3 / 256) (e5 : n5 = n4 + n4 / 65536) (e6 : n6 = n5 + n5 / 4294967296) : n6 % 128 = dm_ct (fun i => n.testBit i) 64 := by
  have h1 := dp_1 32 n
  rw [Nat.mod_eq_of_lt (show n < 4 ^ 32 by omega), dp_l1, ← e1] at h1
  have h2 := dp_2 16 n1
  rw [dp_l2, ← e2] at h2
  have b2 : n2 < 256 ^ 8 := by
    have q1 : (n1 &&& 3689348814741910323) ≤ 3689348814741910323 := Nat.and_le_right
    have q2 : ((n1 / 4) &&& 3689348814741910323) ≤ 3689348814741910323 := Nat.and_le_right
    omega
  have h3 := dp_3 8 n2 b2 h2.2
  rw [dp_l3, ← e3] at h3
  rw [h2.1, h1] at h3
  have h4 := h3.1
  have h5 := h3.2
  have b3 : n3 ≤ 1085102592571150095 := by rw [e3]; exact Nat.and_le_right
  simp only [dp_dg, and_true] at h5
  simp only [dp_sd] at h4
  obtain ⟨q0, q1, q2, q3, q4, q5, q6, q7⟩ := h5
  rw [show (2 : Nat) * 32 = 64 from rfl] at h4
  have k7 : n3 / 256 / 256 / 256 / 256 / 256 / 256 / 256 / 256 = 0 := by
    rw [Nat.div_div_eq_div_mul, Nat.div_div_eq_div_mul, Nat.div_div_eq_div_mul, Nat.div_div_eq_div_mul, Nat.div_div_eq_div_mul, Nat.div_div_eq_div_mul, Nat.div_div_eq_div_mul]
    exact Nat.div_eq_of_lt (by omega)
  have hw : n3 = n3 % 256 + 256 * (n3 / 256 % 256 + 256 * (n3 / 256 / 256 % 256 + 256 * (n3 / 256 / 256 / 256 % 256 + 256 * (n3 / 256 / 256 / 256 / 256 % 256 + 256 * (n3 / 256 / 256 / 256 / 256 / 256 % 256 + 256 * (n3 / 256 / 256 / 256 / 256 / 256 / 256 % 256 + 256 * (n3 / 256 / 256 / 256 / 256 / 256 / 256 / 256 % 256))))))) := by
    have m0 := Nat.mod_add_div n3 256
    have m1 := Nat.mod_add_div (n3 / 256) 256
    have m2 := Nat.mod_add_div (n3 / 256 / 256) 256
    have m3 := Nat.mod_add_div (n3 / 256 / 256 / 256) 256
    have m4 := Nat.mod_add_div (n3 / 256 / 256 / 256 / 256) 256
    have m5 := Nat.mod_add_div (n3 / 256 / 256 / 256 / 256 / 256) 256
    have m6 := Nat.mod_add_div (n3 / 256 / 256 / 256 / 256 / 256 / 256) 256
    have m7 := Nat.mod_add_div (n3 / 256 / 256 / 256 / 256 / 256 / 256 / 256) 256
    rw [k7, Nat.mul_zero, Nat.add_zero] at m7
    rw [m7, m6, m5, m4, m3, m2, m1, m0]
  rw [e6, e5, e4, dp_f64 q0 q1 q2 q3 q4 q5 q6 q7 hw, ← h4]
  simp only [Nat.add_zero, Nat.add_assoc]
end
section
theorem dp_int {x y1 y2 y3 y4 y5 : Int32} (e1 : y1 = x - ((x.toUInt32 >>> ((nI 1).toUInt32 &&& Int32.toUInt32 31)).toInt32 &&& nI 1431655765)) (e2 : y2 = (y1 &&& nI 858993459) + ((y1.toUInt32 >>> ((nI 2).toUInt32 &&& Int32.toUInt32 31)).toInt32 &&& nI 858993459)) (e3 : y3 = (y2 + (y2.toUInt32 >>> ((nI 4).toUInt32 &&& Int32.toUInt32 31)).toInt32) &&& nI 252645135) (e4 : y4 = y3 + (y3.toUInt32 >>> ((nI 8).toUInt32 &&& Int32.toUInt32 31)).toInt32) (e5 : y5 = y4 + (y4.toUInt32 >>> ((nI 16).toUInt32 &&& Int32.toUInt32 31)).toInt32) : y5 &&& nI 63 = nI (dm_ct (fun i => nb_t x i) 32) := by
  obtain ⟨n, hn, rfl⟩ := wb_of32 x
  rw [dp_shr hn (by decide), dp_nand] at e1
  have l1 : ((n / 2 ^ 1) &&& 1431655765) ≤ n := Nat.le_trans Nat.and_le_left (Nat.div_le_self _ _)
  rw [pk_sub l1] at e1
  obtain ⟨n1, hn1⟩ : ∃ k, k = n - ((n / 2) &&& 1431655765) := ⟨_, rfl⟩
  rw [show n / 2 ^ 1 = n / 2 from rfl, ← hn1] at e1
  subst e1
  rw [dp_shr (by omega) (by decide), dp_nand, dp_nand, nI_add] at e2
  obtain ⟨n2, hn2⟩ : ∃ k, k = (n1 &&& 858993459) + ((n1 / 4) &&& 858993459) := ⟨_, rfl⟩
  rw [show n1 / 2 ^ 2 = n1 / 4 from rfl, ← hn2] at e2
  subst e2
  have b2 : n2 ≤ 1717986918 := by
    have q1 : (n1 &&& 858993459) ≤ 858993459 := Nat.and_le_right
    have q2 : ((n1 / 4) &&& 858993459) ≤ 858993459 := Nat.and_le_right
    omega
  rw [dp_shr (by omega) (by decide), nI_add, dp_nand] at e3
  obtain ⟨n3, hn3⟩ : ∃ k, k = (n2 + n2 / 16) &&& 252645135 := ⟨_, rfl⟩
  rw [show n2 / 2 ^ 4 = n2 / 16 from rfl, ← hn3] at e3
  subst e3
  have b3 : n3 ≤ 252645135 := by rw [hn3]; exact Nat.and_le_right
  rw [dp_shr (by omega) (by decide), nI_add] at e4
  subst e4
  rw [dp_shr (by omega) (by decide), nI_add] at e5
  subst e5
  rw [dp_nand, show (63 : Nat) = 2 ^ 6 - 1 from rfl, Nat.and_two_pow_sub_one_eq_mod]
  have h := dp_32 hn hn1 hn2 hn3 rfl rfl
  have e : (fun i => nb_t (nI n) i) = (fun i => n.testBit i) := by
    funext i; exact ng_tb hn
  rw [e, ← h]
end
section
theorem dp_long {x y1 y2 y3 y4 y5 y6 : Int64} (e1 : y1 = x - ((x.toUInt64 >>> ((nI 1).toInt64.toUInt64 &&& Int64.toUInt64 63)).toInt64 &&& lN 6148914691236517205)) (e2 : y2 = (y1 &&& lN 3689348814741910323) + ((y1.toUInt64 >>> ((nI 2).toInt64.toUInt64 &&& Int64.toUInt64 63)).toInt64 &&& lN 3689348814741910323)) (e3 : y3 = (y2 + (y2.toUInt64 >>> ((nI 4).toInt64.toUInt64 &&& Int64.toUInt64 63)).toInt64) &&& lN 1085102592571150095) (e4 : y4 = y3 + (y3.toUInt64 >>> ((nI 8).toInt64.toUInt64 &&& Int64.toUInt64 63)).toInt64) (e5 : y5 = y4 + (y4.toUInt64 >>> ((nI 16).toInt64.toUInt64 &&& Int64.toUInt64 63)).toInt64) (e6 : y6 = y5 + (y5.toUInt64 >>> ((nI 32).toInt64.toUInt64 &&& Int64.toUInt64 63)).toInt64) : y6.toInt32 &&& nI 127 = nI (dm_ct (fun i => nb_u x i) 64) := by
  obtain ⟨n, hn, rfl⟩ := wb_of x
  rw [wb_shr hn (by decide), dp_land] at e1
  have l1 : ((n / 2 ^ 1) &&& 6148914691236517205) ≤ n := Nat.le_trans Nat.and_le_left (Nat.div_le_self _ _)
  rw [lN_sub l1] at e1
  obtain ⟨n1, hn1⟩ : ∃ k, k = n - ((n / 2) &&& 6148914691236517205) := ⟨_, rfl⟩
  rw [show n / 2 ^ 1 = n / 2 from rfl, ← hn1] at e1
  subst e1
  rw [wb_shr (by omega) (by decide), dp_land, dp_land, lN_add] at e2
  obtain ⟨n2, hn2⟩ : ∃ k, k = (n1 &&& 3689348814741910323) + ((n1 / 4) &&& 3689348814741910323) := ⟨_, rfl⟩
  rw [show n1 / 2 ^ 2 = n1 / 4 from rfl, ← hn2] at e2
  subst e2
  have b2 : n2 ≤ 7378697629483820646 := by
    have q1 : (n1 &&& 3689348814741910323) ≤ 3689348814741910323 := Nat.and_le_right
    have q2 : ((n1 / 4) &&& 3689348814741910323) ≤ 3689348814741910323 := Nat.and_le_right
    omega
  rw [wb_shr (by omega) (by decide), lN_add, dp_land] at e3
  obtain ⟨n3, hn3⟩ : ∃ k, k = (n2 + n2 / 16) &&& 1085102592571150095 := ⟨_, rfl⟩
  rw [show n2 / 2 ^ 4 = n2 / 16 from rfl, ← hn3] at e3
  subst e3
  have b3 : n3 ≤ 1085102592571150095 := by rw [hn3]; exact Nat.and_le_right
  rw [wb_shr (by omega) (by decide), lN_add] at e4
  subst e4
  rw [wb_shr (by omega) (by decide), lN_add] at e5
  subst e5
  rw [wb_shr (by omega) (by decide), lN_add] at e6
  subst e6
  rw [lN_i, dp_nand, show (127 : Nat) = 2 ^ 7 - 1 from rfl, Nat.and_two_pow_sub_one_eq_mod]
  have h := dp_64 hn hn1 hn2 hn3 rfl rfl rfl
  have e : (fun i => nb_u (lN n) i) = (fun i => n.testBit i) := by
    funext i; exact ng_tbL hn
  rw [e, ← h]
end
section
set_option maxHeartbeats 4000000 in
set_option maxRecDepth 100000 in
theorem c_JI_bitCount (l : Launch) (dC : Nat → ClassId) (dI : Nat → Nat → Nat) (cI cL : ClassId) (x : Int32)  : Met l y_JI_bitCount w_JI_bitCount ({ frames := 0, cells := 0, slots := 0, locals := 0 } : Room) (va_Pc [.int x] (ro_B (dC, dI) classes [(cI, .int), (cL, .long)] [])) (ro_Qi (nI (dm_ct (fun i => nb_t x i) 32))) 0 0 ro_A := by
  refine Met.ofW (cc := b_JI_bitCount) (maxL := 1) (ret := (some .int)) (by decide) rfl ?_
  intro p e s m args below meth c s₁ B hml hv
  obtain ⟨rfl, hP, hK⟩ := hv
  have hx := B.exec
  have hb := B.bytes
  have hr := B.returns
  have hts := atoms_spec (ws := w_JI_bitCount) B.pre
  have hown : s.vm.findClass R_JI = some m.cls := findClass_of_methodNamed B.named
  have hlocks := B.notSynchronized
  have hS : va_S ro_A s.heap s.heap [] := va_S.rf
  have hP : va_P (dC, dI) classes [] s.heap := hP
  have hl := lv_entry ([.int x]) (n := 1) (Nat.le_of_ble_eq_true rfl)
  rw [lg_entry_eq]
  generalize (lg_sl ([.int x]) ++ List.replicate (1 - (lg_sl ([.int x])).length) Slot.unset).toArray = ls at hl ⊢
  have hl : lv_has ls 1 [(0, .int x)] := hl
  refine lv_iload_n hx hb d_JI_bitCount_0 rfl (lv_at hl 0 rfl) ?_
  refine lv_iload_n hx hb d_JI_bitCount_1 rfl (lv_at hl 0 rfl) ?_
  refine lv_iconst (v := nI 1) hx hb d_JI_bitCount_2 (by decide) ?_
  refine lv_iushr hx hb d_JI_bitCount_3 rfl ?_
  refine lv_ldcw (v := 1431655765) hx hb hown (hts _ (List.mem_cons_of_mem _ wk_JI_265)) d_JI_bitCount_4 ?_
  refine nr_as (v := nI 1431655765) (by decide) ?_
  refine lv_iand hx hb d_JI_bitCount_7 ?_
  refine lv_isub hx hb d_JI_bitCount_8 ?_
  refine lv_topi (fun y1 ey1 => ?_)
  refine lv_istore_n (lv' := [(0, .int y1)]) hx hb d_JI_bitCount_9 rfl hl (by decide) rfl (fun ls hl => ?_)
  refine lv_iload_n hx hb d_JI_bitCount_10 rfl (lv_at hl 0 rfl) ?_
  refine lv_ldcw (v := 858993459) hx hb hown (hts _ (List.mem_cons_of_mem _ wk_JI_266)) d_JI_bitCount_11 ?_
  refine nr_as (v := nI 858993459) (by decide) ?_
  refine lv_iand hx hb d_JI_bitCount_14 ?_
  refine lv_iload_n hx hb d_JI_bitCount_15 rfl (lv_at hl 0 rfl) ?_
  refine lv_iconst (v := nI 2) hx hb d_JI_bitCount_16 (by decide) ?_
  refine lv_iushr hx hb d_JI_bitCount_17 rfl ?_
  refine lv_ldcw (v := 858993459) hx hb hown (hts _ (List.mem_cons_of_mem _ wk_JI_266)) d_JI_bitCount_18 ?_
  refine nr_as (v := nI 858993459) (by decide) ?_
  refine lv_iand hx hb d_JI_bitCount_21 ?_
  refine lv_iadd hx hb d_JI_bitCount_22 ?_
  refine lv_topi (fun y2 ey2 => ?_)
  refine lv_istore_n (lv' := [(0, .int y2)]) hx hb d_JI_bitCount_23 rfl hl (by decide) rfl (fun ls hl => ?_)
  refine lv_iload_n hx hb d_JI_bitCount_24 rfl (lv_at hl 0 rfl) ?_
  refine lv_iload_n hx hb d_JI_bitCount_25 rfl (lv_at hl 0 rfl) ?_
  refine lv_iconst (v := nI 4) hx hb d_JI_bitCount_26 (by decide) ?_
  refine lv_iushr hx hb d_JI_bitCount_27 rfl ?_
  refine lv_iadd hx hb d_JI_bitCount_28 ?_
  refine lv_ldcw (v := 252645135) hx hb hown (hts _ (List.mem_cons_of_mem _ wk_JI_267)) d_JI_bitCount_29 ?_
  refine nr_as (v := nI 252645135) (by decide) ?_
  refine lv_iand hx hb d_JI_bitCount_32 ?_
  refine lv_topi (fun y3 ey3 => ?_)
  refine lv_istore_n (lv' := [(0, .int y3)]) hx hb d_JI_bitCount_33 rfl hl (by decide) rfl (fun ls hl => ?_)
  refine lv_iload_n hx hb d_JI_bitCount_34 rfl (lv_at hl 0 rfl) ?_
  refine lv_iload_n hx hb d_JI_bitCount_35 rfl (lv_at hl 0 rfl) ?_
  refine lv_bipush (v := nI 8) hx hb d_JI_bitCount_36 (by decide) ?_
  refine lv_iushr hx hb d_JI_bitCount_38 rfl ?_
  refine lv_iadd hx hb d_JI_bitCount_39 ?_
  refine lv_topi (fun y4 ey4 => ?_)
  refine lv_istore_n (lv' := [(0, .int y4)]) hx hb d_JI_bitCount_40 rfl hl (by decide) rfl (fun ls hl => ?_)
  refine lv_iload_n hx hb d_JI_bitCount_41 rfl (lv_at hl 0 rfl) ?_
  refine lv_iload_n hx hb d_JI_bitCount_42 rfl (lv_at hl 0 rfl) ?_
  refine lv_bipush (v := nI 16) hx hb d_JI_bitCount_43 (by decide) ?_
  refine lv_iushr hx hb d_JI_bitCount_45 rfl ?_
  refine lv_iadd hx hb d_JI_bitCount_46 ?_
  refine lv_topi (fun y5 ey5 => ?_)
  refine lv_istore_n (lv' := [(0, .int y5)]) hx hb d_JI_bitCount_47 rfl hl (by decide) rfl (fun ls hl => ?_)
  refine lv_iload_n hx hb d_JI_bitCount_48 rfl (lv_at hl 0 rfl) ?_
  refine lv_bipush (v := nI 63) hx hb d_JI_bitCount_49 (by decide) ?_
  refine lv_iand hx hb d_JI_bitCount_51 ?_
  exact ro_iret hx hb hr hlocks hS (dp_int ey1 ey2 ey3 ey4 ey5) d_JI_bitCount_52
set_option maxHeartbeats 4000000 in
set_option maxRecDepth 100000 in
theorem c_JL_bitCount (l : Launch) (dC : Nat → ClassId) (dI : Nat → Nat → Nat) (cI cL : ClassId) (x : Int64)  : Met l y_JL_bitCount w_JL_bitCount ({ frames := 0, cells := 0, slots := 0, locals := 0 } : Room) (va_Pc [.long x] (ro_B (dC, dI) classes [(cI, .int), (cL, .long)] [])) (ro_Qi (nI (dm_ct (fun i => nb_u x i) 64))) 0 0 ro_A := by
  refine Met.ofW (cc := b_JL_bitCount) (maxL := 2) (ret := (some .int)) (by decide) rfl ?_
  intro p e s m args below meth c s₁ B hml hv
  obtain ⟨rfl, hP, hK⟩ := hv
  have hx := B.exec
  have hb := B.bytes
  have hr := B.returns
  have hts := atoms_spec (ws := w_JL_bitCount) B.pre
  have hown : s.vm.findClass R_JL = some m.cls := findClass_of_methodNamed B.named
  have hlocks := B.notSynchronized
  have hS : va_S ro_A s.heap s.heap [] := va_S.rf
  have hP : va_P (dC, dI) classes [] s.heap := hP
  have hl := lv_entry ([.long x]) (n := 2) (Nat.le_of_ble_eq_true rfl)
  rw [lg_entry_eq]
  generalize (lg_sl ([.long x]) ++ List.replicate (2 - (lg_sl ([.long x])).length) Slot.unset).toArray = ls at hl ⊢
  have hl : lv_has ls 2 [(0, .long x)] := hl
  refine lv_lload_n hx hb d_JL_bitCount_0 rfl (lv_at hl 0 rfl) ?_
  refine lv_lload_n hx hb d_JL_bitCount_1 rfl (lv_at hl 0 rfl) ?_
  refine lv_iconst (v := nI 1) hx hb d_JL_bitCount_2 (by decide) ?_
  refine lv_lushr hx hb d_JL_bitCount_3 rfl ?_
  refine lv_ldc2 (v := 6148914691236517205) hx hb hown (hts _ (List.mem_cons_of_mem _ wk_JL_314)) d_JL_bitCount_4 ?_
  refine nr_asL (v := lN 6148914691236517205) (by decide) ?_
  refine lv_land hx hb d_JL_bitCount_7 ?_
  refine lv_lsub hx hb d_JL_bitCount_8 ?_
  refine lv_topl (fun y1 ey1 => ?_)
  refine lv_lstore_n (lv' := [(0, .long y1)]) hx hb d_JL_bitCount_9 rfl hl (by decide) rfl (fun ls hl => ?_)
  refine lv_lload_n hx hb d_JL_bitCount_10 rfl (lv_at hl 0 rfl) ?_
  refine lv_ldc2 (v := 3689348814741910323) hx hb hown (hts _ (List.mem_cons_of_mem _ wk_JL_316)) d_JL_bitCount_11 ?_
  refine nr_asL (v := lN 3689348814741910323) (by decide) ?_
  refine lv_land hx hb d_JL_bitCount_14 ?_
  refine lv_lload_n hx hb d_JL_bitCount_15 rfl (lv_at hl 0 rfl) ?_
  refine lv_iconst (v := nI 2) hx hb d_JL_bitCount_16 (by decide) ?_
  refine lv_lushr hx hb d_JL_bitCount_17 rfl ?_
  refine lv_ldc2 (v := 3689348814741910323) hx hb hown (hts _ (List.mem_cons_of_mem _ wk_JL_316)) d_JL_bitCount_18 ?_
  refine nr_asL (v := lN 3689348814741910323) (by decide) ?_
  refine lv_land hx hb d_JL_bitCount_21 ?_
  refine lv_ladd hx hb d_JL_bitCount_22 ?_
  refine lv_topl (fun y2 ey2 => ?_)
  refine lv_lstore_n (lv' := [(0, .long y2)]) hx hb d_JL_bitCount_23 rfl hl (by decide) rfl (fun ls hl => ?_)
  refine lv_lload_n hx hb d_JL_bitCount_24 rfl (lv_at hl 0 rfl) ?_
  refine lv_lload_n hx hb d_JL_bitCount_25 rfl (lv_at hl 0 rfl) ?_
  refine lv_iconst (v := nI 4) hx hb d_JL_bitCount_26 (by decide) ?_
  refine lv_lushr hx hb d_JL_bitCount_27 rfl ?_
  refine lv_ladd hx hb d_JL_bitCount_28 ?_
  refine lv_ldc2 (v := 1085102592571150095) hx hb hown (hts _ (List.mem_cons_of_mem _ wk_JL_318)) d_JL_bitCount_29 ?_
  refine nr_asL (v := lN 1085102592571150095) (by decide) ?_
  refine lv_land hx hb d_JL_bitCount_32 ?_
  refine lv_topl (fun y3 ey3 => ?_)
  refine lv_lstore_n (lv' := [(0, .long y3)]) hx hb d_JL_bitCount_33 rfl hl (by decide) rfl (fun ls hl => ?_)
  refine lv_lload_n hx hb d_JL_bitCount_34 rfl (lv_at hl 0 rfl) ?_
  refine lv_lload_n hx hb d_JL_bitCount_35 rfl (lv_at hl 0 rfl) ?_
  refine lv_bipush (v := nI 8) hx hb d_JL_bitCount_36 (by decide) ?_
  refine lv_lushr hx hb d_JL_bitCount_38 rfl ?_
  refine lv_ladd hx hb d_JL_bitCount_39 ?_
  refine lv_topl (fun y4 ey4 => ?_)
  refine lv_lstore_n (lv' := [(0, .long y4)]) hx hb d_JL_bitCount_40 rfl hl (by decide) rfl (fun ls hl => ?_)
  refine lv_lload_n hx hb d_JL_bitCount_41 rfl (lv_at hl 0 rfl) ?_
  refine lv_lload_n hx hb d_JL_bitCount_42 rfl (lv_at hl 0 rfl) ?_
  refine lv_bipush (v := nI 16) hx hb d_JL_bitCount_43 (by decide) ?_
  refine lv_lushr hx hb d_JL_bitCount_45 rfl ?_
  refine lv_ladd hx hb d_JL_bitCount_46 ?_
  refine lv_topl (fun y5 ey5 => ?_)
  refine lv_lstore_n (lv' := [(0, .long y5)]) hx hb d_JL_bitCount_47 rfl hl (by decide) rfl (fun ls hl => ?_)
  refine lv_lload_n hx hb d_JL_bitCount_48 rfl (lv_at hl 0 rfl) ?_
  refine lv_lload_n hx hb d_JL_bitCount_49 rfl (lv_at hl 0 rfl) ?_
  refine lv_bipush (v := nI 32) hx hb d_JL_bitCount_50 (by decide) ?_
  refine lv_lushr hx hb d_JL_bitCount_52 rfl ?_
  refine lv_ladd hx hb d_JL_bitCount_53 ?_
  refine lv_topl (fun y6 ey6 => ?_)
  refine lv_lstore_n (lv' := [(0, .long y6)]) hx hb d_JL_bitCount_54 rfl hl (by decide) rfl (fun ls hl => ?_)
  refine lv_lload_n hx hb d_JL_bitCount_55 rfl (lv_at hl 0 rfl) ?_
  refine lv_l2i hx hb d_JL_bitCount_56 rfl ?_
  refine lv_bipush (v := nI 127) hx hb d_JL_bitCount_57 (by decide) ?_
  refine lv_iand hx hb d_JL_bitCount_59 ?_
  exact ro_iret hx hb hr hlocks hS (dp_long ey1 ey2 ey3 ey4 ey5 ey6) d_JL_bitCount_60
end
section
/-! calls of a method of a nest mate: its link is no word that a contract's list can hold, so it rides in the start -/
def nz_w : Cond := .methodLinkNest "PairDecoder$Graph" 44 y_P_memberOf "PairDecoder"
def nz_U (U : State) : Prop := va_Nw nz_w U
theorem nz_same {u U : State} (h : u.vm = U.vm) (q : nz_U u) : nz_U U := va_Nw.same rfl h q
theorem nz_warm {s U : State} (hW : s.WarmedH U.vm) (q : nz_U s) : nz_U U := va_Nw.warmM hW q
def ro_Z (D : va_G) (cl : List vw_C) (tys : List (ClassId × FieldType)) (ws : va_W) (U : State) : Prop := (va_P D cl ws U.heap ∧ va_K D cl tys U) ∧ nz_U U
def rw_Z (D : va_G) (cl : List vw_C) (tys : List (ClassId × FieldType)) (ws : va_W) (U : State) : Prop := (va_P D cl ws U.heap ∧ va_K D cl tys U ∧ va_D (fun _ => True) ws) ∧ nz_U U
theorem ro_blindZ {D : va_G} {cl : List vw_C} {tys : List (ClassId × FieldType)} {ws : va_W} {av : List Value} : FrameBlind (va_Pc av (ro_Z D cl tys ws)) := fun a U g mk q => ⟨q.1, ⟨q.2.1.1, va_K.moved (u := U) (U := U.calling g mk a) (Vm.Alike.refl U.vm) q.2.1.2⟩, nz_same rfl q.2.2⟩
theorem rw_blindZ {D : va_G} {cl : List vw_C} {tys : List (ClassId × FieldType)} {ws : va_W} {av : List Value} : FrameBlind (va_Pc av (rw_Z D cl tys ws)) := fun a U g mk q => ⟨q.1, ⟨q.2.1.1, va_K.moved (u := U) (U := U.calling g mk a) (Vm.Alike.refl U.vm) q.2.1.2.1, q.2.1.2.2⟩, nz_same rfl q.2.2⟩
section NZ
variable {p : Program} {l : Launch} {e : Env} {R : Room} {s : State} {m : MethodId} {args : Array Value} {below : List Frame} {meth : Method} {c : Code} {H : Heap} {locs : List Loc} {cells slots : Nat} {Q : State → Prop} {cc : ByteArray} {pc : Nat} {ls : Array Slot} {rest : List Value}
variable {D : va_G} {cl : List vw_C} {tys : List (ClassId × FieldType)} {wc ws0 : va_W} {A0 : Nat → Prop} {H0 : Heap} {y : MethodName} {bytes : ByteArray} {maxL nL n index : Nat} {ret : Option FieldType} {ws : List Cond} {rm : Room} {Ts : List Cond} {own C host : String} {b : Addr} {As st0 : List Value}
theorem ro_ViZ {v : Int32} (S : CallFix p m c cc nL s args Ts own) (hM : Met l y ws rm (va_Pc (.ref b :: As) (ro_Z D cl tys wc)) (ro_Qi v) 0 0 ro_A) (cw : CallW R s args own C index y bytes maxL ret ws rm 0 0 n) (hz : nz_U s) (hK : va_K D cl tys s) (hPc : va_P D cl wc H) {q0 ci : Nat} {fs : List Value} {q : vw_C} (he : wc[q0]? = some (b, .inr (ci, fs))) (hc : cl[ci]? = some q) (hq : q.1 = C) (hn : As.length = n) (hsize : ls.size = nL) (hst : st0 = As.reverse ++ .ref b :: rest) (hW : 2 * (F0 m pc ls st0).monitorRoom + (rest.map fun v => v.category).sum ≤ 8) (hdg : decode cc pc = .ok (.invokevirtual index, 3)) (hf : cells ≤ R.cells ∧ slots ≤ R.slots) (hS : va_S A0 H0 H locs) (hP : va_P D cl ws0 H) (kk : ∀ (H1 : Heap) (locs1 : List Loc), va_P D cl ws0 H1 → va_S A0 H0 H1 locs1 → W p l e R s m args below meth c H1 locs1 cells slots Q (F0 m (pc + 3) ls (.int v :: rest))) : W p l e R s m args below meth c H locs cells slots Q (F0 m pc ls st0) := by
  refine va_calli (va_runV S hM cw ⟨ro_blindZ, hq ▸ va_recv hK hPc hc he, fun U hU hW => ⟨rfl, ⟨by rw [hU]; exact hPc, va_K.moved hW.alike hK⟩, nz_warm hW hz⟩⟩ rfl hn hsize hst hW hdg hf) hS (fun q _ h => False.elim h) (fun q h => False.elim h) (fun r u t H1 locs1 ht hvm hw hB hz1 hk hS1 => ?_)
  subst hw
  exact kk H1 locs1 (ro_keep hP hk) hS1
theorem rw_ViZ {S0 : Type} {post : Int32 → S0 → Prop} {W1 : S0 → va_W} {wr : va_W} (isC isR : List Nat) (hC : isC.map (fun i => ws0[i]?) = wc.map some) (hR : isR.map (fun i => ws0[i]?) = wr.map some) (hdis : ∀ i ∈ isR, i ∉ isC) (S : CallFix p m c cc nL s args Ts own) (hM : Met l y ws rm (va_Pc (.ref b :: As) (rw_Z D cl tys wc)) (rw_Qi D cl (rw_A wc) post W1) 0 0 (rw_A wc)) (cw : CallW R s args own C index y bytes maxL ret ws rm 0 0 n) (hz : nz_U s) (hK : va_K D cl tys s) (hPc : va_P D cl wc H) (hDc : va_D (fun _ => True) wc) {q0 ci : Nat} {fs : List Value} {q : vw_C} (he : wc[q0]? = some (b, .inr (ci, fs))) (hc : cl[ci]? = some q) (hq : q.1 = C) (hn : As.length = n) (hsize : ls.size = nL) (hst : st0 = As.reverse ++ .ref b :: rest) (hW : 2 * (F0 m pc ls st0).monitorRoom + (rest.map fun v => v.category).sum ≤ 8) (hdg : decode cc pc = .ok (.invokevirtual index, 3)) (hf : cells ≤ R.cells ∧ slots ≤ R.slots) (hS : va_S A0 H0 H locs) (hP : va_P D cl ws0 H) (hD : va_D A0 ws0) (kk : ∀ (r : Int32) (u : S0) (H1 : Heap) (locs1 : List Loc), post r u → va_P D cl (wr ++ W1 u) H1 → va_S A0 H0 H1 locs1 → W p l e R s m args below meth c H1 locs1 cells slots Q (F0 m (pc + 3) ls (.int r :: rest))) : W p l e R s m args below meth c H locs cells slots Q (F0 m pc ls st0) := by
  refine va_calli (va_runV S hM cw ⟨rw_blindZ, hq ▸ va_recv hK hPc hc he, fun U hU hW => ⟨rfl, ⟨by rw [hU]; exact hPc, va_K.moved hW.alike hK, hDc⟩, nz_warm hW hz⟩⟩ rfl hn hsize hst hW hdg hf) hS (fun q _ h => rw_free hD hC q h) (rw_free hD hC) (fun r u t H1 locs1 ht hvm hw hB hz1 hk hS1 => ?_)
  rw [ht] at hB
  exact kk r u H1 locs1 hw (rw_join hP hD hC hR hdis hk hB) hS1
end NZ
end
section
set_option maxHeartbeats 4000000 in
set_option maxRecDepth 100000 in
theorem c_G_leastBoundary (l : Launch) (dC : Nat → ClassId) (dI : Nat → Nat → Nat) (cI cL : ClassId) (g tA oA uA wA sA np ne : Nat) (bd : Int32) (er : Int64) (vr : Nat)  : Met l y_G_leastBoundary w_G_leastBoundary ({ frames := 1, cells := 0, slots := 0, locals := 23 } : Room) (va_Pc [.ref g] (ro_Z (dC, dI) classes [(cI, .int), (cL, .long)] [cg_G g tA oA uA wA sA np ne bd er vr])) (ro_Qi (ng_nth bd 20 0 0)) 0 0 ro_A := by
  refine Met.ofW (cc := b_G_leastBoundary) (maxL := 1) (ret := (some .int)) (by decide) rfl ?_
  intro p e s m args below meth c s₁ B hml hv
  obtain ⟨rfl, ⟨hP, hK⟩, hnz⟩ := hv
  have hx := B.exec
  have hb := B.bytes
  have hr := B.returns
  have hts := atoms_spec (ws := w_G_leastBoundary) B.pre
  have hown : s.vm.findClass R_G = some m.cls := findClass_of_methodNamed B.named
  have hlocks := B.notSynchronized
  have iG : ∀ w ∈ w_G, w ∈ w_G_leastBoundary := fun w h => List.mem_cons_of_mem _ (i_G w h)
  have hS : va_S ro_A s.heap s.heap [] := va_S.rf
  have hP : va_P (dC, dI) classes [cg_G g tA oA uA wA sA np ne bd er vr] s.heap := hP
  have hl := lv_entry ([.ref g]) (n := 1) (Nat.le_of_ble_eq_true rfl)
  rw [lg_entry_eq]
  generalize (lg_sl ([.ref g]) ++ List.replicate (1 - (lg_sl ([.ref g])).length) Slot.unset).toArray = ls at hl ⊢
  have hl : lv_has ls 1 [(0, .ref g)] := hl
  refine lv_aload_n hx hb d_G_leastBoundary_0 rfl (lv_at hl 0 rfl) ?_
  refine va_get (D := (dC, dI)) (ci := 0) (v := .int bd) (C := R_G) (T := F_G) (N := 10) hx hb hts iG hown hK hP 0 rfl rfl 7 (by decide) (hts _ (List.mem_cons_of_mem _ wk_G_34)) (fun _ h9 => h9) rfl d_G_leastBoundary_1 ?_
  refine lv_iconst (v := nI 0) hx hb d_G_leastBoundary_4 (by decide) ?_
  refine ro_SNi (As := [.int bd, .int (nI 0)]) (rest := []) ⟨hx, hb, hml, hown, hts⟩ (c_P_memberOf l dC dI cI cL bd 0 (by omega)) ⟨va_cnB 2 hts (wg_I wc_P_memberOf) rfl rfl rfl hnz (hts _ (List.mem_cons_of_mem _ wi_P)) (by decide +kernel) ⟨Nat.le_of_ble_eq_true rfl, Nat.le_of_ble_eq_true rfl⟩, hts _ (List.mem_cons_of_mem _ ws_P_memberOf), trivial⟩ hK (hP.sub [] rfl) rfl hl.1 rfl (lv_room (Nat.le_of_ble_eq_true rfl)) d_G_leastBoundary_5 ⟨Nat.zero_le _, Nat.zero_le _⟩ hS hP (fun H locs hP hS => ?_)
  exact ro_iret hx hb hr hlocks hS rfl d_G_leastBoundary_8
set_option maxHeartbeats 4000000 in
set_option maxRecDepth 100000 in
theorem c_P_fire_ok (l : Launch) (dC : Nat → ClassId) (dI : Nat → Nat → Nat) (cI cL : ClassId) (pd g wy mt fo : Nat) (fi : Int32) (kp : Int64) (tA oA uA wA sA np ne : Nat) (bd : Int32) (er : Int64) (vr : Nat) (k : Nat) (b : Bool) (hnp : np ≤ 20) (hk : k < np) (hin : nb_t bd k = false) (hbb : nb_t fi k ≠ b) (hcn : b = true → dm_ct (fun i => nb_t fi i) 32 < 10) : Met l y_P_fire w_P_fire ({ frames := 1, cells := 0, slots := 0, locals := 21 } : Room) (va_Pc [.ref pd, .int (nI k), .int (nb_i b)] (rw_B (dC, dI) classes [(cI, .int), (cL, .long)] [cg_P pd g wy mt fo fi kp, cg_G g tA oA uA wA sA np ne bd er vr])) (rw_Qi (dC, dI) classes (rw_A [cg_P pd g wy mt fo fi kp, cg_G g tA oA uA wA sA np ne bd er vr]) (fun r (u : Unit) => r = nb_i true) (fun u => [cg_P pd g wy mt fo (fi ^^^ nb_o k) kp, cg_G g tA oA uA wA sA np ne bd er vr])) 0 0 (rw_A [cg_P pd g wy mt fo fi kp, cg_G g tA oA uA wA sA np ne bd er vr]) := by
  refine Met.ofW (cc := b_P_fire) (maxL := 3) (ret := (some .boolean)) (by decide) rfl ?_
  intro p e s m args below meth c s₁ B hml hv
  obtain ⟨rfl, hP, hK, hD0⟩ := hv
  have hx := B.exec
  have hb := B.bytes
  have hr := B.returns
  have hts := atoms_spec (ws := w_P_fire) B.pre
  have hown : s.vm.findClass R_P = some m.cls := findClass_of_methodNamed B.named
  have hlocks := B.notSynchronized
  have iP : ∀ w ∈ w_P, w ∈ w_P_fire := fun w h => List.mem_cons_of_mem _ (i_P w h)
  have hD := rw_own hD0
  generalize hAe : rw_A [cg_P pd g wy mt fo fi kp, cg_G g tA oA uA wA sA np ne bd er vr] = A at hD ⊢
  have hS : va_S A s.heap s.heap [] := va_S.rf
  have hP : va_P (dC, dI) classes [cg_P pd g wy mt fo fi kp, cg_G g tA oA uA wA sA np ne bd er vr] s.heap := hP
  have hl := lv_entry ([.ref pd, .int (nI k), .int (nb_i b)]) (n := 3) (Nat.le_of_ble_eq_true rfl)
  rw [lg_entry_eq]
  generalize (lg_sl ([.ref pd, .int (nI k), .int (nb_i b)]) ++ List.replicate (3 - (lg_sl ([.ref pd, .int (nI k), .int (nb_i b)])).length) Slot.unset).toArray = ls at hl ⊢
  have hl : lv_has ls 3 [(0, .ref pd), (1, .int (nI k)), (2, .int (nb_i b))] := hl
  have hpc := dm_ct_le (P := fun i => nb_t fi i) (n := 32)
  refine lv_aload_n hx hb d_P_fire_0 rfl (lv_at hl 0 rfl) ?_
  refine va_get (D := (dC, dI)) (ci := 4) (v := .ref g) (C := R_P) (T := F_P) (N := 6) hx hb hts iP hown hK hP 0 rfl rfl 0 (by decide) (hts _ (List.mem_cons_of_mem _ wk_P_10)) (fun _ h9 => h9) rfl d_P_fire_1 ?_
  refine lv_iload_n hx hb d_P_fire_4 rfl (lv_at hl 1 rfl) ?_
  refine ro_Vi (As := [.int (nI k)]) (rest := []) ⟨hx, hb, hml, hown, hts⟩ (c_G_hasPoint l dC dI cI cL g tA oA uA wA sA np ne bd er vr (nI k) ) (cwV 1 hts (wg_V wk_P_88 wm_G_hasPoint we_G_hasPoint wi_G wc_G_hasPoint) rfl rfl rfl (by decide +kernel) ⟨Nat.le_of_ble_eq_true rfl, Nat.le_of_ble_eq_true rfl⟩) hK (hP.sub [1] rfl) (q0 := 0) rfl rfl rfl rfl hl.1 rfl (lv_room (Nat.le_of_ble_eq_true rfl)) d_P_fire_5 ⟨Nat.zero_le _, Nat.zero_le _⟩ hS hP (fun H locs hP hS => ?_)
  refine nr_ifeqB (tgt := 31) hx hb d_P_fire_8 (by decide) (fun c_8 => ?_) (fun c_8 => ?_)
  · exact False.elim (by first | (rw [nb_inI_nI (by omega) (by omega), decide_eq_true hk] at c_8; cases c_8; done) | (rw [hin] at c_19; cases c_19; done) | exact hbb (nb_bI_inj c_28))
  · refine lv_aload_n hx hb d_P_fire_11 rfl (lv_at hl 0 rfl) ?_
    refine va_get (D := (dC, dI)) (ci := 4) (v := .ref g) (C := R_P) (T := F_P) (N := 6) hx hb hts iP hown hK hP 0 rfl rfl 0 (by decide) (hts _ (List.mem_cons_of_mem _ wk_P_10)) (fun _ h9 => h9) rfl d_P_fire_12 ?_
    refine lv_iload_n hx hb d_P_fire_15 rfl (lv_at hl 1 rfl) ?_
    refine ro_Vi (As := [.int (nI k)]) (rest := []) ⟨hx, hb, hml, hown, hts⟩ (c_G_isBoundary l dC dI cI cL g tA oA uA wA sA np ne bd er vr k (by omega)) (cwV 1 hts (wg_V wk_P_91 wm_G_isBoundary we_G_isBoundary wi_G wc_G_isBoundary) rfl rfl rfl (by decide +kernel) ⟨Nat.le_of_ble_eq_true rfl, Nat.le_of_ble_eq_true rfl⟩) hK (hP.sub [1] rfl) (q0 := 0) rfl rfl rfl rfl hl.1 rfl (lv_room (Nat.le_of_ble_eq_true rfl)) d_P_fire_16 ⟨Nat.zero_le _, Nat.zero_le _⟩ hS hP (fun H locs hP hS => ?_)
    refine nr_ifneB (tgt := 31) hx hb d_P_fire_19 (by decide) (fun c_19 => ?_) (fun c_19 => ?_)
    · exact False.elim (by first | (rw [nb_inI_nI (by omega) (by omega), decide_eq_true hk] at c_8; cases c_8; done) | (rw [hin] at c_19; cases c_19; done) | exact hbb (nb_bI_inj c_28))
    · refine lv_aload_n hx hb d_P_fire_22 rfl (lv_at hl 0 rfl) ?_
      refine lv_iload_n hx hb d_P_fire_23 rfl (lv_at hl 1 rfl) ?_
      refine ro_Vi (As := [.int (nI k)]) (rest := []) ⟨hx, hb, hml, hown, hts⟩ (c_P_isFired l dC dI cI cL pd g wy mt fo fi kp k (by omega)) (cwV 1 hts (wg_V wk_P_94 wm_P_isFired we_P_isFired wi_P wc_P_isFired) rfl rfl rfl (by decide +kernel) ⟨Nat.le_of_ble_eq_true rfl, Nat.le_of_ble_eq_true rfl⟩) hK (hP.sub [0] rfl) (q0 := 0) rfl rfl rfl rfl hl.1 rfl (lv_room (Nat.le_of_ble_eq_true rfl)) d_P_fire_24 ⟨Nat.zero_le _, Nat.zero_le _⟩ hS hP (fun H locs hP hS => ?_)
      refine lv_iload_n hx hb d_P_fire_27 rfl (lv_at hl 2 rfl) ?_
      refine lv_icmp_ne (tgt := 33) hx hb d_P_fire_28 (by decide) (fun c_28 => ?_) (fun c_28 => ?_)
      · refine lv_iload_n hx hb d_P_fire_33 rfl (lv_at hl 2 rfl) ?_
        refine nr_ifeqB (tgt := 51) hx hb d_P_fire_34 (by decide) (fun c_34 => ?_) (fun c_34 => ?_)
        · refine lv_aload_n hx hb d_P_fire_51 rfl (lv_at hl 0 rfl) ?_
          refine lv_dup hx hb d_P_fire_52 rfl ?_
          refine va_get (D := (dC, dI)) (ci := 4) (v := .int fi) (C := R_P) (T := F_P) (N := 6) hx hb hts iP hown hK hP 0 rfl rfl 4 (by decide) (hts _ (List.mem_cons_of_mem _ wk_P_41)) (fun _ h9 => h9) rfl d_P_fire_53 ?_
          refine lv_iconst (v := nI 1) hx hb d_P_fire_56 (by decide) ?_
          refine lv_iload_n hx hb d_P_fire_57 rfl (lv_at hl 1 rfl) ?_
          refine lv_ishl hx hb d_P_fire_58 ?_
          refine nr_as (v := nb_o k) rfl ?_
          refine lv_ixor hx hb d_P_fire_59 ?_
          refine va_put (D := (dC, dI)) (ci := 4) (v := .int (fi ^^^ (nb_o k))) (ty := .int) (C := R_P) (T := F_P) (N := 6) hx hb hts iP t_P t_P_ok n_P hown hK hP hD hS 0 rfl rfl 4 (by decide) (hts _ (List.mem_cons_of_mem _ wk_P_41)) (fun _ h9 => h9) rfl (by decide +kernel) rfl rfl (Nat.le_of_ble_eq_true rfl) d_P_fire_60 (fun H locs hP hD hS => ?_)
          have hP : va_P (dC, dI) classes [cg_P pd g wy mt fo (fi ^^^ (nb_o k)) kp, cg_G g tA oA uA wA sA np ne bd er vr] H := hP
          have hD : va_D A [cg_P pd g wy mt fo (fi ^^^ (nb_o k)) kp, cg_G g tA oA uA wA sA np ne bd er vr] := hD
          refine lv_iconst (v := nI 1) hx hb d_P_fire_63 (by decide) ?_
          exact rw_zret () (b := true) hx hb hr hlocks hS hP rfl rfl d_P_fire_64
        · refine lv_aload_n hx hb d_P_fire_37 rfl (lv_at hl 0 rfl) ?_
          refine va_get (D := (dC, dI)) (ci := 4) (v := .int fi) (C := R_P) (T := F_P) (N := 6) hx hb hts iP hown hK hP 0 rfl rfl 4 (by decide) (hts _ (List.mem_cons_of_mem _ wk_P_41)) (fun _ h9 => h9) rfl d_P_fire_38 ?_
          refine ro_Si (As := [.int fi]) (rest := []) ⟨hx, hb, hml, hown, hts⟩ (c_JI_bitCount l dC dI cI cL fi ) ⟨callB_of 1 hts (wg_I wc_JI_bitCount) rfl rfl rfl (hts _ (List.mem_cons_of_mem _ wi_JI)) (hts _ (List.mem_cons_of_mem _ wk_P_74)) (by decide +kernel) ⟨Nat.le_of_ble_eq_true rfl, Nat.le_of_ble_eq_true rfl⟩, hts _ (List.mem_cons_of_mem _ ws_JI_bitCount)⟩ hK (hP.sub [] rfl) rfl hl.1 rfl (lv_room (Nat.le_of_ble_eq_true rfl)) d_P_fire_41 ⟨Nat.zero_le _, Nat.zero_le _⟩ hS hP (fun H locs hP hS => ?_)
          refine lv_bipush (v := nI 10) hx hb d_P_fire_44 (by decide) ?_
          refine nr_icmp_lt (by omega) (by omega) (tgt := 51) hx hb d_P_fire_46 (by decide) (fun c_46 => ?_) (fun c_46 => ?_)
          · refine lv_aload_n hx hb d_P_fire_51 rfl (lv_at hl 0 rfl) ?_
            refine lv_dup hx hb d_P_fire_52 rfl ?_
            refine va_get (D := (dC, dI)) (ci := 4) (v := .int fi) (C := R_P) (T := F_P) (N := 6) hx hb hts iP hown hK hP 0 rfl rfl 4 (by decide) (hts _ (List.mem_cons_of_mem _ wk_P_41)) (fun _ h9 => h9) rfl d_P_fire_53 ?_
            refine lv_iconst (v := nI 1) hx hb d_P_fire_56 (by decide) ?_
            refine lv_iload_n hx hb d_P_fire_57 rfl (lv_at hl 1 rfl) ?_
            refine lv_ishl hx hb d_P_fire_58 ?_
            refine nr_as (v := nb_o k) rfl ?_
            refine lv_ixor hx hb d_P_fire_59 ?_
            refine va_put (D := (dC, dI)) (ci := 4) (v := .int (fi ^^^ (nb_o k))) (ty := .int) (C := R_P) (T := F_P) (N := 6) hx hb hts iP t_P t_P_ok n_P hown hK hP hD hS 0 rfl rfl 4 (by decide) (hts _ (List.mem_cons_of_mem _ wk_P_41)) (fun _ h9 => h9) rfl (by decide +kernel) rfl rfl (Nat.le_of_ble_eq_true rfl) d_P_fire_60 (fun H locs hP hD hS => ?_)
            have hP : va_P (dC, dI) classes [cg_P pd g wy mt fo (fi ^^^ (nb_o k)) kp, cg_G g tA oA uA wA sA np ne bd er vr] H := hP
            have hD : va_D A [cg_P pd g wy mt fo (fi ^^^ (nb_o k)) kp, cg_G g tA oA uA wA sA np ne bd er vr] := hD
            refine lv_iconst (v := nI 1) hx hb d_P_fire_63 (by decide) ?_
            exact rw_zret () (b := true) hx hb hr hlocks hS hP rfl rfl d_P_fire_64
          · exact False.elim (by have := hcn c_34; omega)
      · exact False.elim (by first | (rw [nb_inI_nI (by omega) (by omega), decide_eq_true hk] at c_8; cases c_8; done) | (rw [hin] at c_19; cases c_19; done) | exact hbb (nb_bI_inj c_28))
set_option maxHeartbeats 4000000 in
set_option maxRecDepth 100000 in
theorem c_P_fire_no (l : Launch) (dC : Nat → ClassId) (dI : Nat → Nat → Nat) (cI cL : ClassId) (pd g wy mt fo : Nat) (fi : Int32) (kp : Int64) (tA oA uA wA sA np ne : Nat) (bd : Int32) (er : Int64) (vr : Nat) (k : Int32) (b : Bool) (hnp : np ≤ 20) (hno : ∀ j, j < np → k = nI j → nb_t bd j = true ∨ nb_t fi j = b ∨ (b = true ∧ 10 ≤ dm_ct (fun i => nb_t fi i) 32)) : Met l y_P_fire w_P_fire ({ frames := 1, cells := 0, slots := 0, locals := 21 } : Room) (va_Pc [.ref pd, .int k, .int (nb_i b)] (ro_B (dC, dI) classes [(cI, .int), (cL, .long)] [cg_P pd g wy mt fo fi kp, cg_G g tA oA uA wA sA np ne bd er vr])) (ro_Qi (nb_i false)) 0 0 ro_A := by
  refine Met.ofW (cc := b_P_fire) (maxL := 3) (ret := (some .boolean)) (by decide) rfl ?_
  intro p e s m args below meth c s₁ B hml hv
  obtain ⟨rfl, hP, hK⟩ := hv
  have hx := B.exec
  have hb := B.bytes
  have hr := B.returns
  have hts := atoms_spec (ws := w_P_fire) B.pre
  have hown : s.vm.findClass R_P = some m.cls := findClass_of_methodNamed B.named
  have hlocks := B.notSynchronized
  have iP : ∀ w ∈ w_P, w ∈ w_P_fire := fun w h => List.mem_cons_of_mem _ (i_P w h)
  have hS : va_S ro_A s.heap s.heap [] := va_S.rf
  have hP : va_P (dC, dI) classes [cg_P pd g wy mt fo fi kp, cg_G g tA oA uA wA sA np ne bd er vr] s.heap := hP
  have hl := lv_entry ([.ref pd, .int k, .int (nb_i b)]) (n := 3) (Nat.le_of_ble_eq_true rfl)
  rw [lg_entry_eq]
  generalize (lg_sl ([.ref pd, .int k, .int (nb_i b)]) ++ List.replicate (3 - (lg_sl ([.ref pd, .int k, .int (nb_i b)])).length) Slot.unset).toArray = ls at hl ⊢
  have hl : lv_has ls 3 [(0, .ref pd), (1, .int k), (2, .int (nb_i b))] := hl
  have hpc := dm_ct_le (P := fun i => nb_t fi i) (n := 32)
  refine lv_aload_n hx hb d_P_fire_0 rfl (lv_at hl 0 rfl) ?_
  refine va_get (D := (dC, dI)) (ci := 4) (v := .ref g) (C := R_P) (T := F_P) (N := 6) hx hb hts iP hown hK hP 0 rfl rfl 0 (by decide) (hts _ (List.mem_cons_of_mem _ wk_P_10)) (fun _ h9 => h9) rfl d_P_fire_1 ?_
  refine lv_iload_n hx hb d_P_fire_4 rfl (lv_at hl 1 rfl) ?_
  refine ro_Vi (As := [.int k]) (rest := []) ⟨hx, hb, hml, hown, hts⟩ (c_G_hasPoint l dC dI cI cL g tA oA uA wA sA np ne bd er vr k ) (cwV 1 hts (wg_V wk_P_88 wm_G_hasPoint we_G_hasPoint wi_G wc_G_hasPoint) rfl rfl rfl (by decide +kernel) ⟨Nat.le_of_ble_eq_true rfl, Nat.le_of_ble_eq_true rfl⟩) hK (hP.sub [1] rfl) (q0 := 0) rfl rfl rfl rfl hl.1 rfl (lv_room (Nat.le_of_ble_eq_true rfl)) d_P_fire_5 ⟨Nat.zero_le _, Nat.zero_le _⟩ hS hP (fun H locs hP hS => ?_)
  refine nr_ifeqB (tgt := 31) hx hb d_P_fire_8 (by decide) (fun c_8 => ?_) (fun c_8 => ?_)
  · refine lv_iconst (v := nI 0) hx hb d_P_fire_31 (by decide) ?_
    exact ro_zret hx hb hr hlocks hS rfl rfl d_P_fire_32
  · obtain ⟨j, hj, rfl⟩ := nb_inI_of (by omega) c_8
    refine lv_aload_n hx hb d_P_fire_11 rfl (lv_at hl 0 rfl) ?_
    refine va_get (D := (dC, dI)) (ci := 4) (v := .ref g) (C := R_P) (T := F_P) (N := 6) hx hb hts iP hown hK hP 0 rfl rfl 0 (by decide) (hts _ (List.mem_cons_of_mem _ wk_P_10)) (fun _ h9 => h9) rfl d_P_fire_12 ?_
    refine lv_iload_n hx hb d_P_fire_15 rfl (lv_at hl 1 rfl) ?_
    refine ro_Vi (As := [.int (nI j)]) (rest := []) ⟨hx, hb, hml, hown, hts⟩ (c_G_isBoundary l dC dI cI cL g tA oA uA wA sA np ne bd er vr j (by omega)) (cwV 1 hts (wg_V wk_P_91 wm_G_isBoundary we_G_isBoundary wi_G wc_G_isBoundary) rfl rfl rfl (by decide +kernel) ⟨Nat.le_of_ble_eq_true rfl, Nat.le_of_ble_eq_true rfl⟩) hK (hP.sub [1] rfl) (q0 := 0) rfl rfl rfl rfl hl.1 rfl (lv_room (Nat.le_of_ble_eq_true rfl)) d_P_fire_16 ⟨Nat.zero_le _, Nat.zero_le _⟩ hS hP (fun H locs hP hS => ?_)
    refine nr_ifneB (tgt := 31) hx hb d_P_fire_19 (by decide) (fun c_19 => ?_) (fun c_19 => ?_)
    · refine lv_iconst (v := nI 0) hx hb d_P_fire_31 (by decide) ?_
      exact ro_zret hx hb hr hlocks hS rfl rfl d_P_fire_32
    · refine lv_aload_n hx hb d_P_fire_22 rfl (lv_at hl 0 rfl) ?_
      refine lv_iload_n hx hb d_P_fire_23 rfl (lv_at hl 1 rfl) ?_
      refine ro_Vi (As := [.int (nI j)]) (rest := []) ⟨hx, hb, hml, hown, hts⟩ (c_P_isFired l dC dI cI cL pd g wy mt fo fi kp j (by omega)) (cwV 1 hts (wg_V wk_P_94 wm_P_isFired we_P_isFired wi_P wc_P_isFired) rfl rfl rfl (by decide +kernel) ⟨Nat.le_of_ble_eq_true rfl, Nat.le_of_ble_eq_true rfl⟩) hK (hP.sub [0] rfl) (q0 := 0) rfl rfl rfl rfl hl.1 rfl (lv_room (Nat.le_of_ble_eq_true rfl)) d_P_fire_24 ⟨Nat.zero_le _, Nat.zero_le _⟩ hS hP (fun H locs hP hS => ?_)
      refine lv_iload_n hx hb d_P_fire_27 rfl (lv_at hl 2 rfl) ?_
      refine lv_icmp_ne (tgt := 33) hx hb d_P_fire_28 (by decide) (fun c_28 => ?_) (fun c_28 => ?_)
      · refine lv_iload_n hx hb d_P_fire_33 rfl (lv_at hl 2 rfl) ?_
        refine nr_ifeqB (tgt := 51) hx hb d_P_fire_34 (by decide) (fun c_34 => ?_) (fun c_34 => ?_)
        · exact False.elim (by rcases hno j hj rfl with q | q | q; (rw [c_19] at q; cases q); (exact c_28 (by rw [q])); first | (rw [c_34] at q; cases q.1; done) | omega)
        · refine lv_aload_n hx hb d_P_fire_37 rfl (lv_at hl 0 rfl) ?_
          refine va_get (D := (dC, dI)) (ci := 4) (v := .int fi) (C := R_P) (T := F_P) (N := 6) hx hb hts iP hown hK hP 0 rfl rfl 4 (by decide) (hts _ (List.mem_cons_of_mem _ wk_P_41)) (fun _ h9 => h9) rfl d_P_fire_38 ?_
          refine ro_Si (As := [.int fi]) (rest := []) ⟨hx, hb, hml, hown, hts⟩ (c_JI_bitCount l dC dI cI cL fi ) ⟨callB_of 1 hts (wg_I wc_JI_bitCount) rfl rfl rfl (hts _ (List.mem_cons_of_mem _ wi_JI)) (hts _ (List.mem_cons_of_mem _ wk_P_74)) (by decide +kernel) ⟨Nat.le_of_ble_eq_true rfl, Nat.le_of_ble_eq_true rfl⟩, hts _ (List.mem_cons_of_mem _ ws_JI_bitCount)⟩ hK (hP.sub [] rfl) rfl hl.1 rfl (lv_room (Nat.le_of_ble_eq_true rfl)) d_P_fire_41 ⟨Nat.zero_le _, Nat.zero_le _⟩ hS hP (fun H locs hP hS => ?_)
          refine lv_bipush (v := nI 10) hx hb d_P_fire_44 (by decide) ?_
          refine nr_icmp_lt (by omega) (by omega) (tgt := 51) hx hb d_P_fire_46 (by decide) (fun c_46 => ?_) (fun c_46 => ?_)
          · exact False.elim (by rcases hno j hj rfl with q | q | q; (rw [c_19] at q; cases q); (exact c_28 (by rw [q])); first | (rw [c_34] at q; cases q.1; done) | omega)
          · refine lv_iconst (v := nI 0) hx hb d_P_fire_49 (by decide) ?_
            exact ro_zret hx hb hr hlocks hS rfl rfl d_P_fire_50
      · refine lv_iconst (v := nI 0) hx hb d_P_fire_31 (by decide) ?_
        exact ro_zret hx hb hr hlocks hS rfl rfl d_P_fire_32
end
