-- ===== PART A: goes FIRST, ahead of the names: the tables' words, and 'selects' of the private methods out of them =====
/-- a private method of a class that the tables say can be made, by its rows of tables_1 -/
def lw_okq (q : MethodName × Nat) : Prop := (q.1.cls ≠ "java/lang/invoke/MethodHandle" ∧ q.1.cls ≠ "java/lang/invoke/VarHandle") ∧ Cond.instantiable q.1.cls q.2 ∈ tables_1 ∧ Cond.privateMethod q.1 ∈ tables_1 ∧ Cond.instanceMethod q.1 ∈ tables_1
theorem lw_p0 : lw_okq (⟨"PricedCopies$CodeReader", "takes", "(I)Z"⟩, 8) := ⟨⟨by decide +kernel, by decide +kernel⟩, List.mem_of_getElem? (i := 34) (by decide +kernel), List.mem_of_getElem? (i := 245) (by decide +kernel), List.mem_of_getElem? (i := 246) (by decide +kernel)⟩
theorem lw_p1 : lw_okq (⟨"PricedCopies$CodeReader", "takesFigure", "(I)Z"⟩, 8) := ⟨⟨by decide +kernel, by decide +kernel⟩, List.mem_of_getElem? (i := 34) (by decide +kernel), List.mem_of_getElem? (i := 249) (by decide +kernel), List.mem_of_getElem? (i := 250) (by decide +kernel)⟩
theorem lw_p2 : lw_okq (⟨"PricedCopies$CodeReader", "make", "(I)V"⟩, 8) := ⟨⟨by decide +kernel, by decide +kernel⟩, List.mem_of_getElem? (i := 34) (by decide +kernel), List.mem_of_getElem? (i := 273) (by decide +kernel), List.mem_of_getElem? (i := 274) (by decide +kernel)⟩
theorem lw_p3 : lw_okq (⟨"PricedCopies$CodeReader", "takesLetter", "(I)Z"⟩, 8) := ⟨⟨by decide +kernel, by decide +kernel⟩, List.mem_of_getElem? (i := 34) (by decide +kernel), List.mem_of_getElem? (i := 277) (by decide +kernel), List.mem_of_getElem? (i := 278) (by decide +kernel)⟩
theorem lw_p4 : lw_okq (⟨"PricedCopies$CodeReader", "opens", "(I)Z"⟩, 8) := ⟨⟨by decide +kernel, by decide +kernel⟩, List.mem_of_getElem? (i := 34) (by decide +kernel), List.mem_of_getElem? (i := 281) (by decide +kernel), List.mem_of_getElem? (i := 282) (by decide +kernel)⟩
theorem lw_p5 : lw_okq (⟨"PricedCopies", "takeText", "()V"⟩, 17) := ⟨⟨by decide +kernel, by decide +kernel⟩, List.mem_of_getElem? (i := 12) (by decide +kernel), List.mem_of_getElem? (i := 307) (by decide +kernel), List.mem_of_getElem? (i := 308) (by decide +kernel)⟩
theorem lw_p6 : lw_okq (⟨"PricedCopies", "forget", "()V"⟩, 17) := ⟨⟨by decide +kernel, by decide +kernel⟩, List.mem_of_getElem? (i := 12) (by decide +kernel), List.mem_of_getElem? (i := 322) (by decide +kernel), List.mem_of_getElem? (i := 323) (by decide +kernel)⟩
theorem lw_p7 : lw_okq (⟨"PricedCopies", "hasText", "()Z"⟩, 17) := ⟨⟨by decide +kernel, by decide +kernel⟩, List.mem_of_getElem? (i := 12) (by decide +kernel), List.mem_of_getElem? (i := 404) (by decide +kernel), List.mem_of_getElem? (i := 405) (by decide +kernel)⟩
theorem lw_p8 : lw_okq (⟨"PricedCopies", "chooseCheapest", "()V"⟩, 17) := ⟨⟨by decide +kernel, by decide +kernel⟩, List.mem_of_getElem? (i := 12) (by decide +kernel), List.mem_of_getElem? (i := 408) (by decide +kernel), List.mem_of_getElem? (i := 409) (by decide +kernel)⟩
theorem lw_p9 : lw_okq (⟨"PricedCopies$Chooser", "chooseCopy", "(LPricedCopies$Text;LPricedCopies$Prices;III)V"⟩, 4) := ⟨⟨by decide +kernel, by decide +kernel⟩, List.mem_of_getElem? (i := 124) (by decide +kernel), List.mem_of_getElem? (i := 418) (by decide +kernel), List.mem_of_getElem? (i := 419) (by decide +kernel)⟩
theorem lw_p10 : lw_okq (⟨"PricedCopies$Chooser", "consider", "(III)V"⟩, 4) := ⟨⟨by decide +kernel, by decide +kernel⟩, List.mem_of_getElem? (i := 124) (by decide +kernel), List.mem_of_getElem? (i := 426) (by decide +kernel), List.mem_of_getElem? (i := 427) (by decide +kernel)⟩
theorem lw_p11 : lw_okq (⟨"PricedCopies$Chooser", "chooseFirsts", "(LPricedCopies$Text;LPricedCopies$Prices;III)V"⟩, 4) := ⟨⟨by decide +kernel, by decide +kernel⟩, List.mem_of_getElem? (i := 124) (by decide +kernel), List.mem_of_getElem? (i := 430) (by decide +kernel), List.mem_of_getElem? (i := 431) (by decide +kernel)⟩
theorem lw_p12 : lw_okq (⟨"PricedCopies$Chooser", "collect", "(IILPricedCopies$TokenRow;)V"⟩, 4) := ⟨⟨by decide +kernel, by decide +kernel⟩, List.mem_of_getElem? (i := 124) (by decide +kernel), List.mem_of_getElem? (i := 443) (by decide +kernel), List.mem_of_getElem? (i := 444) (by decide +kernel)⟩
theorem lw_p13 : lw_okq (⟨"PricedCopies$Prices", "countTaken", "(LPricedCopies$TokenRow;)V"⟩, 2) := ⟨⟨by decide +kernel, by decide +kernel⟩, List.mem_of_getElem? (i := 102) (by decide +kernel), List.mem_of_getElem? (i := 458) (by decide +kernel), List.mem_of_getElem? (i := 459) (by decide +kernel)⟩
theorem lw_p14 : lw_okq (⟨"PricedCopies$Prices", "countOne", "(I)V"⟩, 2) := ⟨⟨by decide +kernel, by decide +kernel⟩, List.mem_of_getElem? (i := 102) (by decide +kernel), List.mem_of_getElem? (i := 462) (by decide +kernel), List.mem_of_getElem? (i := 463) (by decide +kernel)⟩
theorem lw_p15 : lw_okq (⟨"PricedCopies$Prices", "reprice", "(III)I"⟩, 2) := ⟨⟨by decide +kernel, by decide +kernel⟩, List.mem_of_getElem? (i := 102) (by decide +kernel), List.mem_of_getElem? (i := 470) (by decide +kernel), List.mem_of_getElem? (i := 471) (by decide +kernel)⟩
def lw_privs_1 : List (MethodName × Nat) := [(⟨"PricedCopies$CodeReader", "takes", "(I)Z"⟩, 8), (⟨"PricedCopies$CodeReader", "takesFigure", "(I)Z"⟩, 8), (⟨"PricedCopies$CodeReader", "make", "(I)V"⟩, 8), (⟨"PricedCopies$CodeReader", "takesLetter", "(I)Z"⟩, 8), (⟨"PricedCopies$CodeReader", "opens", "(I)Z"⟩, 8), (⟨"PricedCopies", "takeText", "()V"⟩, 17), (⟨"PricedCopies", "forget", "()V"⟩, 17), (⟨"PricedCopies", "hasText", "()Z"⟩, 17), (⟨"PricedCopies", "chooseCheapest", "()V"⟩, 17), (⟨"PricedCopies$Chooser", "chooseCopy", "(LPricedCopies$Text;LPricedCopies$Prices;III)V"⟩, 4), (⟨"PricedCopies$Chooser", "consider", "(III)V"⟩, 4), (⟨"PricedCopies$Chooser", "chooseFirsts", "(LPricedCopies$Text;LPricedCopies$Prices;III)V"⟩, 4), (⟨"PricedCopies$Chooser", "collect", "(IILPricedCopies$TokenRow;)V"⟩, 4), (⟨"PricedCopies$Prices", "countTaken", "(LPricedCopies$TokenRow;)V"⟩, 2), (⟨"PricedCopies$Prices", "countOne", "(I)V"⟩, 2), (⟨"PricedCopies$Prices", "reprice", "(III)I"⟩, 2)]
theorem lw_r1 : ∀ q ∈ lw_privs_1, lw_okq q := List.forall_mem_cons.mpr ⟨lw_p0, List.forall_mem_cons.mpr ⟨lw_p1, List.forall_mem_cons.mpr ⟨lw_p2, List.forall_mem_cons.mpr ⟨lw_p3, List.forall_mem_cons.mpr ⟨lw_p4, List.forall_mem_cons.mpr ⟨lw_p5, List.forall_mem_cons.mpr ⟨lw_p6, List.forall_mem_cons.mpr ⟨lw_p7, List.forall_mem_cons.mpr ⟨lw_p8, List.forall_mem_cons.mpr ⟨lw_p9, List.forall_mem_cons.mpr ⟨lw_p10, List.forall_mem_cons.mpr ⟨lw_p11, List.forall_mem_cons.mpr ⟨lw_p12, List.forall_mem_cons.mpr ⟨lw_p13, List.forall_mem_cons.mpr ⟨lw_p14, List.forall_mem_cons.mpr ⟨lw_p15, fun _ h => absurd h List.not_mem_nil⟩⟩⟩⟩⟩⟩⟩⟩⟩⟩⟩⟩⟩⟩⟩⟩
theorem lw_p16 : lw_okq (⟨"PricedCopies", "findRest", "()V"⟩, 17) := ⟨⟨by decide +kernel, by decide +kernel⟩, List.mem_of_getElem? (i := 12) (by decide +kernel), List.mem_of_getElem? (i := 487) (by decide +kernel), List.mem_of_getElem? (i := 488) (by decide +kernel)⟩
theorem lw_p17 : lw_okq (⟨"PricedCopies", "chooseGreedy", "()V"⟩, 17) := ⟨⟨by decide +kernel, by decide +kernel⟩, List.mem_of_getElem? (i := 12) (by decide +kernel), List.mem_of_getElem? (i := 551) (by decide +kernel), List.mem_of_getElem? (i := 552) (by decide +kernel)⟩
theorem lw_p18 : lw_okq (⟨"PricedCopies", "priceOfParts", "(I)I"⟩, 17) := ⟨⟨by decide +kernel, by decide +kernel⟩, List.mem_of_getElem? (i := 12) (by decide +kernel), List.mem_of_getElem? (i := 564) (by decide +kernel), List.mem_of_getElem? (i := 565) (by decide +kernel)⟩
theorem lw_p19 : lw_okq (⟨"PricedCopiesModel", "textFault", "()I"⟩, 24) := ⟨⟨by decide +kernel, by decide +kernel⟩, List.mem_of_getElem? (i := 593) (by decide +kernel), List.mem_of_getElem? (i := 687) (by decide +kernel), List.mem_of_getElem? (i := 688) (by decide +kernel)⟩
theorem lw_p20 : lw_okq (⟨"PricedCopiesModel", "readCode", "()V"⟩, 24) := ⟨⟨by decide +kernel, by decide +kernel⟩, List.mem_of_getElem? (i := 593) (by decide +kernel), List.mem_of_getElem? (i := 691) (by decide +kernel), List.mem_of_getElem? (i := 692) (by decide +kernel)⟩
theorem lw_p21 : lw_okq (⟨"PricedCopiesModel", "copy", "(II)V"⟩, 24) := ⟨⟨by decide +kernel, by decide +kernel⟩, List.mem_of_getElem? (i := 593) (by decide +kernel), List.mem_of_getElem? (i := 695) (by decide +kernel), List.mem_of_getElem? (i := 696) (by decide +kernel)⟩
theorem lw_p22 : lw_okq (⟨"PricedCopiesModel", "againPrice", "(I)I"⟩, 24) := ⟨⟨by decide +kernel, by decide +kernel⟩, List.mem_of_getElem? (i := 593) (by decide +kernel), List.mem_of_getElem? (i := 699) (by decide +kernel), List.mem_of_getElem? (i := 700) (by decide +kernel)⟩
theorem lw_p23 : lw_okq (⟨"PricedCopiesModel", "copyPrice", "(II)I"⟩, 24) := ⟨⟨by decide +kernel, by decide +kernel⟩, List.mem_of_getElem? (i := 593) (by decide +kernel), List.mem_of_getElem? (i := 703) (by decide +kernel), List.mem_of_getElem? (i := 704) (by decide +kernel)⟩
theorem lw_p24 : lw_okq (⟨"PricedCopiesModel", "isPlace", "(I)Z"⟩, 24) := ⟨⟨by decide +kernel, by decide +kernel⟩, List.mem_of_getElem? (i := 593) (by decide +kernel), List.mem_of_getElem? (i := 737) (by decide +kernel), List.mem_of_getElem? (i := 738) (by decide +kernel)⟩
theorem lw_p25 : lw_okq (⟨"PricedCopiesModel", "longestNow", "(II)I"⟩, 24) := ⟨⟨by decide +kernel, by decide +kernel⟩, List.mem_of_getElem? (i := 593) (by decide +kernel), List.mem_of_getElem? (i := 745) (by decide +kernel), List.mem_of_getElem? (i := 746) (by decide +kernel)⟩
theorem lw_p26 : lw_okq (⟨"PricedCopiesModel", "farLongest", "(I)I"⟩, 24) := ⟨⟨by decide +kernel, by decide +kernel⟩, List.mem_of_getElem? (i := 593) (by decide +kernel), List.mem_of_getElem? (i := 749) (by decide +kernel), List.mem_of_getElem? (i := 750) (by decide +kernel)⟩
theorem lw_p27 : lw_okq (⟨"PricedCopiesModel", "likeness", "(III)I"⟩, 24) := ⟨⟨by decide +kernel, by decide +kernel⟩, List.mem_of_getElem? (i := 593) (by decide +kernel), List.mem_of_getElem? (i := 753) (by decide +kernel), List.mem_of_getElem? (i := 754) (by decide +kernel)⟩
theorem lw_p28 : lw_okq (⟨"PricedCopiesModel", "chainNow", "(II)I"⟩, 24) := ⟨⟨by decide +kernel, by decide +kernel⟩, List.mem_of_getElem? (i := 593) (by decide +kernel), List.mem_of_getElem? (i := 761) (by decide +kernel), List.mem_of_getElem? (i := 762) (by decide +kernel)⟩
theorem lw_p29 : lw_okq (⟨"PricedCopiesModel", "layTokens", "()V"⟩, 24) := ⟨⟨by decide +kernel, by decide +kernel⟩, List.mem_of_getElem? (i := 593) (by decide +kernel), List.mem_of_getElem? (i := 769) (by decide +kernel), List.mem_of_getElem? (i := 770) (by decide +kernel)⟩
theorem lw_p30 : lw_okq (⟨"PricedCopiesModel", "layCheapest", "(II)I"⟩, 24) := ⟨⟨by decide +kernel, by decide +kernel⟩, List.mem_of_getElem? (i := 593) (by decide +kernel), List.mem_of_getElem? (i := 773) (by decide +kernel), List.mem_of_getElem? (i := 774) (by decide +kernel)⟩
theorem lw_p31 : lw_okq (⟨"PricedCopiesModel", "layState", "(III)V"⟩, 24) := ⟨⟨by decide +kernel, by decide +kernel⟩, List.mem_of_getElem? (i := 593) (by decide +kernel), List.mem_of_getElem? (i := 777) (by decide +kernel), List.mem_of_getElem? (i := 778) (by decide +kernel)⟩
def lw_privs_2 : List (MethodName × Nat) := [(⟨"PricedCopies", "findRest", "()V"⟩, 17), (⟨"PricedCopies", "chooseGreedy", "()V"⟩, 17), (⟨"PricedCopies", "priceOfParts", "(I)I"⟩, 17), (⟨"PricedCopiesModel", "textFault", "()I"⟩, 24), (⟨"PricedCopiesModel", "readCode", "()V"⟩, 24), (⟨"PricedCopiesModel", "copy", "(II)V"⟩, 24), (⟨"PricedCopiesModel", "againPrice", "(I)I"⟩, 24), (⟨"PricedCopiesModel", "copyPrice", "(II)I"⟩, 24), (⟨"PricedCopiesModel", "isPlace", "(I)Z"⟩, 24), (⟨"PricedCopiesModel", "longestNow", "(II)I"⟩, 24), (⟨"PricedCopiesModel", "farLongest", "(I)I"⟩, 24), (⟨"PricedCopiesModel", "likeness", "(III)I"⟩, 24), (⟨"PricedCopiesModel", "chainNow", "(II)I"⟩, 24), (⟨"PricedCopiesModel", "layTokens", "()V"⟩, 24), (⟨"PricedCopiesModel", "layCheapest", "(II)I"⟩, 24), (⟨"PricedCopiesModel", "layState", "(III)V"⟩, 24)]
theorem lw_r2 : ∀ q ∈ lw_privs_2, lw_okq q := List.forall_mem_cons.mpr ⟨lw_p16, List.forall_mem_cons.mpr ⟨lw_p17, List.forall_mem_cons.mpr ⟨lw_p18, List.forall_mem_cons.mpr ⟨lw_p19, List.forall_mem_cons.mpr ⟨lw_p20, List.forall_mem_cons.mpr ⟨lw_p21, List.forall_mem_cons.mpr ⟨lw_p22, List.forall_mem_cons.mpr ⟨lw_p23, List.forall_mem_cons.mpr ⟨lw_p24, List.forall_mem_cons.mpr ⟨lw_p25, List.forall_mem_cons.mpr ⟨lw_p26, List.forall_mem_cons.mpr ⟨lw_p27, List.forall_mem_cons.mpr ⟨lw_p28, List.forall_mem_cons.mpr ⟨lw_p29, List.forall_mem_cons.mpr ⟨lw_p30, List.forall_mem_cons.mpr ⟨lw_p31, fun _ h => absurd h List.not_mem_nil⟩⟩⟩⟩⟩⟩⟩⟩⟩⟩⟩⟩⟩⟩⟩⟩
theorem lw_p32 : lw_okq (⟨"PricedCopiesModel", "way", "(IIII)V"⟩, 24) := ⟨⟨by decide +kernel, by decide +kernel⟩, List.mem_of_getElem? (i := 593) (by decide +kernel), List.mem_of_getElem? (i := 782) (by decide +kernel), List.mem_of_getElem? (i := 783) (by decide +kernel)⟩
theorem lw_p33 : lw_okq (⟨"PricedCopiesModel", "cheapestTold", "(I)I"⟩, 24) := ⟨⟨by decide +kernel, by decide +kernel⟩, List.mem_of_getElem? (i := 593) (by decide +kernel), List.mem_of_getElem? (i := 789) (by decide +kernel), List.mem_of_getElem? (i := 790) (by decide +kernel)⟩
theorem lw_p34 : lw_okq (⟨"PricedCopiesModel", "lettersOf", "()I"⟩, 24) := ⟨⟨by decide +kernel, by decide +kernel⟩, List.mem_of_getElem? (i := 593) (by decide +kernel), List.mem_of_getElem? (i := 793) (by decide +kernel), List.mem_of_getElem? (i := 794) (by decide +kernel)⟩
theorem lw_p35 : lw_okq (⟨"PricedCopiesModel", "codeNow", "(I)I"⟩, 24) := ⟨⟨by decide +kernel, by decide +kernel⟩, List.mem_of_getElem? (i := 593) (by decide +kernel), List.mem_of_getElem? (i := 801) (by decide +kernel), List.mem_of_getElem? (i := 802) (by decide +kernel)⟩
theorem lw_p36 : lw_okq (⟨"PricedCopiesModel", "greedyNow", "(I)I"⟩, 24) := ⟨⟨by decide +kernel, by decide +kernel⟩, List.mem_of_getElem? (i := 593) (by decide +kernel), List.mem_of_getElem? (i := 809) (by decide +kernel), List.mem_of_getElem? (i := 810) (by decide +kernel)⟩
theorem lw_p37 : lw_okq (⟨"PricedCopiesModel", "partsNow", "(II)I"⟩, 24) := ⟨⟨by decide +kernel, by decide +kernel⟩, List.mem_of_getElem? (i := 593) (by decide +kernel), List.mem_of_getElem? (i := 817) (by decide +kernel), List.mem_of_getElem? (i := 818) (by decide +kernel)⟩
theorem lw_p38 : lw_okq (⟨"PricedCopiesModel", "partsPrice", "(I)I"⟩, 24) := ⟨⟨by decide +kernel, by decide +kernel⟩, List.mem_of_getElem? (i := 593) (by decide +kernel), List.mem_of_getElem? (i := 821) (by decide +kernel), List.mem_of_getElem? (i := 822) (by decide +kernel)⟩
theorem lw_p39 : lw_okq (⟨"PricedCopiesModel", "roundNow", "()I"⟩, 24) := ⟨⟨by decide +kernel, by decide +kernel⟩, List.mem_of_getElem? (i := 593) (by decide +kernel), List.mem_of_getElem? (i := 829) (by decide +kernel), List.mem_of_getElem? (i := 830) (by decide +kernel)⟩
theorem lw_p40 : lw_okq (⟨"PricedCopiesModel", "layThen", "()I"⟩, 24) := ⟨⟨by decide +kernel, by decide +kernel⟩, List.mem_of_getElem? (i := 593) (by decide +kernel), List.mem_of_getElem? (i := 833) (by decide +kernel), List.mem_of_getElem? (i := 834) (by decide +kernel)⟩
theorem lw_p41 : lw_okq (⟨"PricedCopiesModel", "layTaken", "()V"⟩, 24) := ⟨⟨by decide +kernel, by decide +kernel⟩, List.mem_of_getElem? (i := 593) (by decide +kernel), List.mem_of_getElem? (i := 837) (by decide +kernel), List.mem_of_getElem? (i := 838) (by decide +kernel)⟩
theorem lw_p42 : lw_okq (⟨"PricedCopiesModel", "sum", "(II)I"⟩, 24) := ⟨⟨by decide +kernel, by decide +kernel⟩, List.mem_of_getElem? (i := 593) (by decide +kernel), List.mem_of_getElem? (i := 841) (by decide +kernel), List.mem_of_getElem? (i := 842) (by decide +kernel)⟩
theorem lw_p43 : lw_okq (⟨"PricedCopiesModel", "become", "()V"⟩, 24) := ⟨⟨by decide +kernel, by decide +kernel⟩, List.mem_of_getElem? (i := 593) (by decide +kernel), List.mem_of_getElem? (i := 848) (by decide +kernel), List.mem_of_getElem? (i := 849) (by decide +kernel)⟩
theorem lw_p44 : lw_okq (⟨"PricedCopiesModel", "layRest", "()V"⟩, 24) := ⟨⟨by decide +kernel, by decide +kernel⟩, List.mem_of_getElem? (i := 593) (by decide +kernel), List.mem_of_getElem? (i := 856) (by decide +kernel), List.mem_of_getElem? (i := 857) (by decide +kernel)⟩
theorem lw_p45 : lw_okq (⟨"PricedCopiesModel", "howMany", "(I)I"⟩, 24) := ⟨⟨by decide +kernel, by decide +kernel⟩, List.mem_of_getElem? (i := 593) (by decide +kernel), List.mem_of_getElem? (i := 864) (by decide +kernel), List.mem_of_getElem? (i := 865) (by decide +kernel)⟩
theorem lw_p46 : lw_okq (⟨"PricedCopiesModel", "tokensOf", "(I)I"⟩, 24) := ⟨⟨by decide +kernel, by decide +kernel⟩, List.mem_of_getElem? (i := 593) (by decide +kernel), List.mem_of_getElem? (i := 868) (by decide +kernel), List.mem_of_getElem? (i := 869) (by decide +kernel)⟩
theorem lw_p47 : lw_okq (⟨"PricedCopiesModel", "mix", "(J)V"⟩, 24) := ⟨⟨by decide +kernel, by decide +kernel⟩, List.mem_of_getElem? (i := 593) (by decide +kernel), List.mem_of_getElem? (i := 877) (by decide +kernel), List.mem_of_getElem? (i := 878) (by decide +kernel)⟩
def lw_privs_3 : List (MethodName × Nat) := [(⟨"PricedCopiesModel", "way", "(IIII)V"⟩, 24), (⟨"PricedCopiesModel", "cheapestTold", "(I)I"⟩, 24), (⟨"PricedCopiesModel", "lettersOf", "()I"⟩, 24), (⟨"PricedCopiesModel", "codeNow", "(I)I"⟩, 24), (⟨"PricedCopiesModel", "greedyNow", "(I)I"⟩, 24), (⟨"PricedCopiesModel", "partsNow", "(II)I"⟩, 24), (⟨"PricedCopiesModel", "partsPrice", "(I)I"⟩, 24), (⟨"PricedCopiesModel", "roundNow", "()I"⟩, 24), (⟨"PricedCopiesModel", "layThen", "()I"⟩, 24), (⟨"PricedCopiesModel", "layTaken", "()V"⟩, 24), (⟨"PricedCopiesModel", "sum", "(II)I"⟩, 24), (⟨"PricedCopiesModel", "become", "()V"⟩, 24), (⟨"PricedCopiesModel", "layRest", "()V"⟩, 24), (⟨"PricedCopiesModel", "howMany", "(I)I"⟩, 24), (⟨"PricedCopiesModel", "tokensOf", "(I)I"⟩, 24), (⟨"PricedCopiesModel", "mix", "(J)V"⟩, 24)]
theorem lw_r3 : ∀ q ∈ lw_privs_3, lw_okq q := List.forall_mem_cons.mpr ⟨lw_p32, List.forall_mem_cons.mpr ⟨lw_p33, List.forall_mem_cons.mpr ⟨lw_p34, List.forall_mem_cons.mpr ⟨lw_p35, List.forall_mem_cons.mpr ⟨lw_p36, List.forall_mem_cons.mpr ⟨lw_p37, List.forall_mem_cons.mpr ⟨lw_p38, List.forall_mem_cons.mpr ⟨lw_p39, List.forall_mem_cons.mpr ⟨lw_p40, List.forall_mem_cons.mpr ⟨lw_p41, List.forall_mem_cons.mpr ⟨lw_p42, List.forall_mem_cons.mpr ⟨lw_p43, List.forall_mem_cons.mpr ⟨lw_p44, List.forall_mem_cons.mpr ⟨lw_p45, List.forall_mem_cons.mpr ⟨lw_p46, List.forall_mem_cons.mpr ⟨lw_p47, fun _ h => absurd h List.not_mem_nil⟩⟩⟩⟩⟩⟩⟩⟩⟩⟩⟩⟩⟩⟩⟩⟩
theorem lw_p48 : lw_okq (⟨"PricedCopiesModel", "mixText", "()V"⟩, 24) := ⟨⟨by decide +kernel, by decide +kernel⟩, List.mem_of_getElem? (i := 593) (by decide +kernel), List.mem_of_getElem? (i := 882) (by decide +kernel), List.mem_of_getElem? (i := 883) (by decide +kernel)⟩
def lw_privs_4 : List (MethodName × Nat) := [(⟨"PricedCopiesModel", "mixText", "()V"⟩, 24)]
theorem lw_r4 : ∀ q ∈ lw_privs_4, lw_okq q := List.forall_mem_cons.mpr ⟨lw_p48, fun _ h => absurd h List.not_mem_nil⟩
def lw_privs : List (MethodName × Nat) := lw_privs_1 ++ (lw_privs_2 ++ (lw_privs_3 ++ (lw_privs_4)))
def lw_tbl : List Cond := k2_sels lw_privs ++ tables_1
theorem lw_privs_ok : ∀ q ∈ lw_privs, lw_okq q := by
  show ∀ q ∈ lw_privs_1 ++ (lw_privs_2 ++ (lw_privs_3 ++ (lw_privs_4))), lw_okq q
  exact List.forall_mem_append.mpr ⟨lw_r1, List.forall_mem_append.mpr ⟨lw_r2, List.forall_mem_append.mpr ⟨lw_r3, lw_r4⟩⟩⟩

def RX0 : String := "PricedCopies$Chooser"
def TX0 : u_T := fun k => match k with
  | 0 => ("PricedCopies$Chooser", "weights", "[[I", true)
  | 1 => ("PricedCopies$Chooser", "firsts", "[[I", true)
  | 2 => ("PricedCopies$Chooser", "bestToken", "I", false)
  | _ => ("PricedCopies$Chooser", "bestWeight", "I", false)
def tyX0 : Nat → FieldType := fun k => match k with
  | 0 => .array (.array .int)
  | 1 => .array (.array .int)
  | 2 => .int
  | _ => .int
abbrev wsX00 : List Cond := u_ws RX0 TX0 4
theorem nmX0 : ∀ a, a < 4 → ∀ b, b < 4 → a ≠ b → (TX0 a).2.1 ≠ (TX0 b).2.1 := by decide +kernel
theorem tyX0_ok : ∀ k, k < 4 → parseFieldDescriptor (TX0 k).2.2.1 = some (tyX0 k) := by decide +kernel
abbrev cX0_init : ByteArray := prog_2_method_1_code
def yX0_init : MethodName := ⟨RX0, "<init>", "()V"⟩
abbrev cX0_choose : ByteArray := prog_2_method_2_code
def yX0_choose : MethodName := ⟨RX0, "choose", "(LPricedCopies$Text;LPricedCopies$Prices;IILPricedCopies$TokenRow;)V"⟩
abbrev cX0_chooseCopy : ByteArray := prog_2_method_3_code
def yX0_chooseCopy : MethodName := ⟨RX0, "chooseCopy", "(LPricedCopies$Text;LPricedCopies$Prices;III)V"⟩
abbrev cX0_chooseFirsts : ByteArray := prog_2_method_4_code
def yX0_chooseFirsts : MethodName := ⟨RX0, "chooseFirsts", "(LPricedCopies$Text;LPricedCopies$Prices;III)V"⟩
abbrev cX0_consider : ByteArray := prog_2_method_5_code
def yX0_consider : MethodName := ⟨RX0, "consider", "(III)V"⟩
abbrev cX0_collect : ByteArray := prog_2_method_6_code
def yX0_collect : MethodName := ⟨RX0, "collect", "(IILPricedCopies$TokenRow;)V"⟩
def RX1 : String := "PricedCopies$CodeReader"
def TX1 : u_T := fun k => match k with
  | 0 => ("PricedCopies$CodeReader", "made", "[I", true)
  | 1 => ("PricedCopies$CodeReader", "row", "LPricedCopies$TokenRow;", true)
  | 2 => ("PricedCopies$CodeReader", "madeCount", "I", false)
  | 3 => ("PricedCopies$CodeReader", "latestDistance", "I", false)
  | 4 => ("PricedCopies$CodeReader", "openDistance", "I", false)
  | 5 => ("PricedCopies$CodeReader", "openAgain", "Z", false)
  | 6 => ("PricedCopies$CodeReader", "place", "I", false)
  | _ => ("PricedCopies$CodeReader", "faultless", "Z", false)
def tyX1 : Nat → FieldType := fun k => match k with
  | 0 => .array .int
  | 1 => .object "PricedCopies$TokenRow"
  | 2 => .int
  | 3 => .int
  | 4 => .int
  | 5 => .boolean
  | 6 => .int
  | _ => .boolean
abbrev wsX10 : List Cond := u_ws RX1 TX1 8
theorem nmX1 : ∀ a, a < 8 → ∀ b, b < 8 → a ≠ b → (TX1 a).2.1 ≠ (TX1 b).2.1 := by decide +kernel
theorem tyX1_ok : ∀ k, k < 8 → parseFieldDescriptor (TX1 k).2.2.1 = some (tyX1 k) := by decide +kernel
abbrev cX1_init : ByteArray := prog_3_method_1_code
def yX1_init : MethodName := ⟨RX1, "<init>", "()V"⟩
abbrev cX1_read : ByteArray := prog_3_method_2_code
def yX1_read : MethodName := ⟨RX1, "read", "(LPricedCopies$Page;)V"⟩
abbrev cX1_faultPlace : ByteArray := prog_3_method_3_code
def yX1_faultPlace : MethodName := ⟨RX1, "faultPlace", "()I"⟩
abbrev cX1_isCode : ByteArray := prog_3_method_4_code
def yX1_isCode : MethodName := ⟨RX1, "isCode", "()Z"⟩
abbrev cX1_tokens : ByteArray := prog_3_method_5_code
def yX1_tokens : MethodName := ⟨RX1, "tokens", "()LPricedCopies$TokenRow;"⟩
abbrev cX1_madeSize : ByteArray := prog_3_method_6_code
def yX1_madeSize : MethodName := ⟨RX1, "madeSize", "()I"⟩
abbrev cX1_madeAt : ByteArray := prog_3_method_7_code
def yX1_madeAt : MethodName := ⟨RX1, "madeAt", "(I)I"⟩
abbrev cX1_takes : ByteArray := prog_3_method_8_code
def yX1_takes : MethodName := ⟨RX1, "takes", "(I)Z"⟩
abbrev cX1_takesLetter : ByteArray := prog_3_method_9_code
def yX1_takesLetter : MethodName := ⟨RX1, "takesLetter", "(I)Z"⟩
abbrev cX1_opens : ByteArray := prog_3_method_10_code
def yX1_opens : MethodName := ⟨RX1, "opens", "(I)Z"⟩
abbrev cX1_takesFigure : ByteArray := prog_3_method_11_code
def yX1_takesFigure : MethodName := ⟨RX1, "takesFigure", "(I)Z"⟩
abbrev cX1_make : ByteArray := prog_3_method_12_code
def yX1_make : MethodName := ⟨RX1, "make", "(I)V"⟩
def RX2 : String := "PricedCopies$Page"
def TX2 : u_T := fun k => match k with
  | 0 => ("PricedCopies$Page", "signs", "[I", true)
  | _ => ("PricedCopies$Page", "size", "I", false)
def tyX2 : Nat → FieldType := fun k => match k with
  | 0 => .array .int
  | _ => .int
abbrev wsX20 : List Cond := u_ws RX2 TX2 2
theorem nmX2 : ∀ a, a < 2 → ∀ b, b < 2 → a ≠ b → (TX2 a).2.1 ≠ (TX2 b).2.1 := by decide +kernel
theorem tyX2_ok : ∀ k, k < 2 → parseFieldDescriptor (TX2 k).2.2.1 = some (tyX2 k) := by decide +kernel
abbrev cX2_init : ByteArray := prog_4_method_1_code
def yX2_init : MethodName := ⟨RX2, "<init>", "()V"⟩
abbrev cX2_isFull : ByteArray := prog_4_method_2_code
def yX2_isFull : MethodName := ⟨RX2, "isFull", "()Z"⟩
abbrev cX2_size : ByteArray := prog_4_method_3_code
def yX2_size : MethodName := ⟨RX2, "size", "()I"⟩
abbrev cX2_clear : ByteArray := prog_4_method_4_code
def yX2_clear : MethodName := ⟨RX2, "clear", "()V"⟩
abbrev cX2_add : ByteArray := prog_4_method_5_code
def yX2_add : MethodName := ⟨RX2, "add", "(I)V"⟩
abbrev cX2_signAt : ByteArray := prog_4_method_6_code
def yX2_signAt : MethodName := ⟨RX2, "signAt", "(I)I"⟩
abbrev cX2_textFault : ByteArray := prog_4_method_7_code
def yX2_textFault : MethodName := ⟨RX2, "textFault", "()I"⟩
abbrev cX2_isText : ByteArray := prog_4_method_8_code
def yX2_isText : MethodName := ⟨RX2, "isText", "()Z"⟩
def RX3 : String := "PricedCopies$Prices"
def TX3 : u_T := fun k => match k with
  | 0 => ("PricedCopies$Prices", "values", "[I", true)
  | _ => ("PricedCopies$Prices", "taken", "[I", true)
def tyX3 : Nat → FieldType := fun k => match k with
  | 0 => .array .int
  | _ => .array .int
abbrev wsX30 : List Cond := u_ws RX3 TX3 2
theorem nmX3 : ∀ a, a < 2 → ∀ b, b < 2 → a ≠ b → (TX3 a).2.1 ≠ (TX3 b).2.1 := by decide +kernel
theorem tyX3_ok : ∀ k, k < 2 → parseFieldDescriptor (TX3 k).2.2.1 = some (tyX3 k) := by decide +kernel
abbrev cX3_init : ByteArray := prog_5_method_1_code
def yX3_init : MethodName := ⟨RX3, "<init>", "()V"⟩
abbrev cX3_get : ByteArray := prog_5_method_2_code
def yX3_get : MethodName := ⟨RX3, "get", "(I)I"⟩
abbrev cX3_set : ByteArray := prog_5_method_3_code
def yX3_set : MethodName := ⟨RX3, "set", "(II)V"⟩
abbrev cX3_take : ByteArray := prog_5_method_4_code
def yX3_take : MethodName := ⟨RX3, "take", "(LPricedCopies$Prices;)V"⟩
abbrev cX3_ofToken : ByteArray := prog_5_method_5_code
def yX3_ofToken : MethodName := ⟨RX3, "ofToken", "(I)I"⟩
abbrev cX3_ofRow : ByteArray := prog_5_method_6_code
def yX3_ofRow : MethodName := ⟨RX3, "ofRow", "(LPricedCopies$TokenRow;)I"⟩
abbrev cX3_follow : ByteArray := prog_5_method_7_code
def yX3_follow : MethodName := ⟨RX3, "follow", "(LPricedCopies$TokenRow;)I"⟩
abbrev cX3_reprice : ByteArray := prog_5_method_8_code
def yX3_reprice : MethodName := ⟨RX3, "reprice", "(III)I"⟩
abbrev cX3_countTaken : ByteArray := prog_5_method_9_code
def yX3_countTaken : MethodName := ⟨RX3, "countTaken", "(LPricedCopies$TokenRow;)V"⟩
abbrev cX3_countOne : ByteArray := prog_5_method_10_code
def yX3_countOne : MethodName := ⟨RX3, "countOne", "(I)V"⟩
def RX4 : String := "PricedCopies$Text"
def TX4 : u_T := fun k => match k with
  | 0 => ("PricedCopies$Text", "letters", "[I", true)
  | 1 => ("PricedCopies$Text", "alike", "[[I", true)
  | _ => ("PricedCopies$Text", "size", "I", false)
def tyX4 : Nat → FieldType := fun k => match k with
  | 0 => .array .int
  | 1 => .array (.array .int)
  | _ => .int
abbrev wsX40 : List Cond := u_ws RX4 TX4 3
theorem nmX4 : ∀ a, a < 3 → ∀ b, b < 3 → a ≠ b → (TX4 a).2.1 ≠ (TX4 b).2.1 := by decide +kernel
theorem tyX4_ok : ∀ k, k < 3 → parseFieldDescriptor (TX4 k).2.2.1 = some (tyX4 k) := by decide +kernel
abbrev cX4_init : ByteArray := prog_6_method_1_code
def yX4_init : MethodName := ⟨RX4, "<init>", "()V"⟩
abbrev cX4_clear : ByteArray := prog_6_method_2_code
def yX4_clear : MethodName := ⟨RX4, "clear", "()V"⟩
abbrev cX4_add : ByteArray := prog_6_method_3_code
def yX4_add : MethodName := ⟨RX4, "add", "(I)V"⟩
abbrev cX4_size : ByteArray := prog_6_method_4_code
def yX4_size : MethodName := ⟨RX4, "size", "()I"⟩
abbrev cX4_has : ByteArray := prog_6_method_5_code
def yX4_has : MethodName := ⟨RX4, "has", "(I)Z"⟩
abbrev cX4_letterAt : ByteArray := prog_6_method_6_code
def yX4_letterAt : MethodName := ⟨RX4, "letterAt", "(I)I"⟩
abbrev cX4_compare : ByteArray := prog_6_method_7_code
def yX4_compare : MethodName := ⟨RX4, "compare", "()V"⟩
abbrev cX4_likeness : ByteArray := prog_6_method_8_code
def yX4_likeness : MethodName := ⟨RX4, "likeness", "(II)I"⟩
abbrev cX4_longestDistance : ByteArray := prog_6_method_9_code
def yX4_longestDistance : MethodName := ⟨RX4, "longestDistance", "(I)I"⟩
abbrev cX4_chainPlace : ByteArray := prog_6_method_10_code
def yX4_chainPlace : MethodName := ⟨RX4, "chainPlace", "(II)I"⟩
def RX5 : String := "PricedCopies$Token"
def TX5 : u_T := fun k => match k with
  | _ => ("", "", "", false)
def tyX5 : Nat → FieldType := fun k => match k with
  | _ => .int
abbrev wsX50 : List Cond := u_ws RX5 TX5 0
theorem nmX5 : ∀ a, a < 0 → ∀ b, b < 0 → a ≠ b → (TX5 a).2.1 ≠ (TX5 b).2.1 := by decide +kernel
theorem tyX5_ok : ∀ k, k < 0 → parseFieldDescriptor (TX5 k).2.2.1 = some (tyX5 k) := by decide +kernel
abbrev cX5_again : ByteArray := prog_7_method_2_code
def yX5_again : MethodName := ⟨RX5, "again", "(I)I"⟩
abbrev cX5_copy : ByteArray := prog_7_method_3_code
def yX5_copy : MethodName := ⟨RX5, "copy", "(II)I"⟩
abbrev cX5_isPlain : ByteArray := prog_7_method_4_code
def yX5_isPlain : MethodName := ⟨RX5, "isPlain", "(I)Z"⟩
abbrev cX5_isCopy : ByteArray := prog_7_method_5_code
def yX5_isCopy : MethodName := ⟨RX5, "isCopy", "(I)Z"⟩
abbrev cX5_lengthOf : ByteArray := prog_7_method_6_code
def yX5_lengthOf : MethodName := ⟨RX5, "lengthOf", "(I)I"⟩
abbrev cX5_distanceOf : ByteArray := prog_7_method_7_code
def yX5_distanceOf : MethodName := ⟨RX5, "distanceOf", "(I)I"⟩
abbrev cX5_signsOf : ByteArray := prog_7_method_8_code
def yX5_signsOf : MethodName := ⟨RX5, "signsOf", "(I)I"⟩
abbrev cX5_signOf : ByteArray := prog_7_method_9_code
def yX5_signOf : MethodName := ⟨RX5, "signOf", "(II)I"⟩
def RX6 : String := "PricedCopies$TokenRow"
def TX6 : u_T := fun k => match k with
  | 0 => ("PricedCopies$TokenRow", "tokens", "[I", true)
  | 1 => ("PricedCopies$TokenRow", "size", "I", false)
  | 2 => ("PricedCopies$TokenRow", "plains", "I", false)
  | _ => ("PricedCopies$TokenRow", "copies", "I", false)
def tyX6 : Nat → FieldType := fun k => match k with
  | 0 => .array .int
  | 1 => .int
  | 2 => .int
  | _ => .int
abbrev wsX60 : List Cond := u_ws RX6 TX6 4
theorem nmX6 : ∀ a, a < 4 → ∀ b, b < 4 → a ≠ b → (TX6 a).2.1 ≠ (TX6 b).2.1 := by decide +kernel
theorem tyX6_ok : ∀ k, k < 4 → parseFieldDescriptor (TX6 k).2.2.1 = some (tyX6 k) := by decide +kernel
abbrev cX6_init : ByteArray := prog_8_method_1_code
def yX6_init : MethodName := ⟨RX6, "<init>", "()V"⟩
abbrev cX6_clear : ByteArray := prog_8_method_2_code
def yX6_clear : MethodName := ⟨RX6, "clear", "()V"⟩
abbrev cX6_add : ByteArray := prog_8_method_3_code
def yX6_add : MethodName := ⟨RX6, "add", "(I)V"⟩
abbrev cX6_size : ByteArray := prog_8_method_4_code
def yX6_size : MethodName := ⟨RX6, "size", "()I"⟩
abbrev cX6_plains : ByteArray := prog_8_method_5_code
def yX6_plains : MethodName := ⟨RX6, "plains", "()I"⟩
abbrev cX6_copies : ByteArray := prog_8_method_6_code
def yX6_copies : MethodName := ⟨RX6, "copies", "()I"⟩
abbrev cX6_agains : ByteArray := prog_8_method_7_code
def yX6_agains : MethodName := ⟨RX6, "agains", "()I"⟩
abbrev cX6_get : ByteArray := prog_8_method_8_code
def yX6_get : MethodName := ⟨RX6, "get", "(I)I"⟩
abbrev cX6_signs : ByteArray := prog_8_method_9_code
def yX6_signs : MethodName := ⟨RX6, "signs", "()I"⟩
abbrev cX6_signAt : ByteArray := prog_8_method_10_code
def yX6_signAt : MethodName := ⟨RX6, "signAt", "(I)I"⟩
def RX7 : String := "PricedCopies"
def TX7 : u_T := fun k => match k with
  | 0 => ("PricedCopies", "page", "LPricedCopies$Page;", true)
  | 1 => ("PricedCopies", "reader", "LPricedCopies$CodeReader;", true)
  | 2 => ("PricedCopies", "told", "LPricedCopies$Text;", true)
  | 3 => ("PricedCopies", "prices", "LPricedCopies$Prices;", true)
  | 4 => ("PricedCopies", "chooser", "LPricedCopies$Chooser;", true)
  | 5 => ("PricedCopies", "cheapestRow", "LPricedCopies$TokenRow;", true)
  | 6 => ("PricedCopies", "greedyRow", "LPricedCopies$TokenRow;", true)
  | 7 => ("PricedCopies", "trialPrices", "LPricedCopies$Prices;", true)
  | 8 => ("PricedCopies", "trialRow", "LPricedCopies$TokenRow;", true)
  | 9 => ("PricedCopies", "cheapestKnown", "Z", false)
  | 10 => ("PricedCopies", "restKnown", "Z", false)
  | 11 => ("PricedCopies", "restRounds", "I", false)
  | 12 => ("PricedCopies", "restPrice", "I", false)
  | 13 => ("PricedCopies", "restTokens", "I", false)
  | 14 => ("PricedCopies", "roundsMade", "I", false)
  | 15 => ("PricedCopies", "textsRead", "I", false)
  | _ => ("PricedCopies", "codesRead", "I", false)
def tyX7 : Nat → FieldType := fun k => match k with
  | 0 => .object "PricedCopies$Page"
  | 1 => .object "PricedCopies$CodeReader"
  | 2 => .object "PricedCopies$Text"
  | 3 => .object "PricedCopies$Prices"
  | 4 => .object "PricedCopies$Chooser"
  | 5 => .object "PricedCopies$TokenRow"
  | 6 => .object "PricedCopies$TokenRow"
  | 7 => .object "PricedCopies$Prices"
  | 8 => .object "PricedCopies$TokenRow"
  | 9 => .boolean
  | 10 => .boolean
  | 11 => .int
  | 12 => .int
  | 13 => .int
  | 14 => .int
  | 15 => .int
  | _ => .int
abbrev wsX70 : List Cond := u_ws RX7 TX7 17
theorem nmX7 : ∀ a, a < 17 → ∀ b, b < 17 → a ≠ b → (TX7 a).2.1 ≠ (TX7 b).2.1 := by decide +kernel
theorem tyX7_ok : ∀ k, k < 17 → parseFieldDescriptor (TX7 k).2.2.1 = some (tyX7 k) := by decide +kernel
abbrev cX7_init : ByteArray := prog_1_method_1_code
def yX7_init : MethodName := ⟨RX7, "<init>", "()V"⟩
abbrev cX7_letter : ByteArray := prog_1_method_2_code
def yX7_letter : MethodName := ⟨RX7, "letter", "(I)I"⟩
abbrev cX7_blank : ByteArray := prog_1_method_3_code
def yX7_blank : MethodName := ⟨RX7, "blank", "()I"⟩
abbrev cX7_fault : ByteArray := prog_1_method_4_code
def yX7_fault : MethodName := ⟨RX7, "fault", "(Z)I"⟩
abbrev cX7_text : ByteArray := prog_1_method_5_code
def yX7_text : MethodName := ⟨RX7, "text", "()I"⟩
abbrev cX7_decode : ByteArray := prog_1_method_6_code
def yX7_decode : MethodName := ⟨RX7, "decode", "()I"⟩
abbrev cX7_priced : ByteArray := prog_1_method_7_code
def yX7_priced : MethodName := ⟨RX7, "priced", "()I"⟩
abbrev cX7_price : ByteArray := prog_1_method_8_code
def yX7_price : MethodName := ⟨RX7, "price", "(II)I"⟩
abbrev cX7_priceOf : ByteArray := prog_1_method_9_code
def yX7_priceOf : MethodName := ⟨RX7, "priceOf", "(I)I"⟩
abbrev cX7_round : ByteArray := prog_1_method_10_code
def yX7_round : MethodName := ⟨RX7, "round", "()I"⟩
abbrev cX7_rest : ByteArray := prog_1_method_11_code
def yX7_rest : MethodName := ⟨RX7, "rest", "(I)I"⟩
abbrev cX7_at : ByteArray := prog_1_method_12_code
def yX7_at : MethodName := ⟨RX7, "at", "(I)I"⟩
abbrev cX7_longest : ByteArray := prog_1_method_13_code
def yX7_longest : MethodName := ⟨RX7, "longest", "(II)I"⟩
abbrev cX7_chain : ByteArray := prog_1_method_14_code
def yX7_chain : MethodName := ⟨RX7, "chain", "(II)I"⟩
abbrev cX7_cheapest : ByteArray := prog_1_method_15_code
def yX7_cheapest : MethodName := ⟨RX7, "cheapest", "(I)I"⟩
abbrev cX7_codeOf : ByteArray := prog_1_method_16_code
def yX7_codeOf : MethodName := ⟨RX7, "codeOf", "(I)I"⟩
abbrev cX7_greedy : ByteArray := prog_1_method_17_code
def yX7_greedy : MethodName := ⟨RX7, "greedy", "(I)I"⟩
abbrev cX7_parts : ByteArray := prog_1_method_18_code
def yX7_parts : MethodName := ⟨RX7, "parts", "(II)I"⟩
abbrev cX7_count : ByteArray := prog_1_method_19_code
def yX7_count : MethodName := ⟨RX7, "count", "(I)I"⟩
abbrev cX7_digest : ByteArray := prog_1_method_20_code
def yX7_digest : MethodName := ⟨RX7, "digest", "()J"⟩
abbrev cX7_hasText : ByteArray := prog_1_method_21_code
def yX7_hasText : MethodName := ⟨RX7, "hasText", "()Z"⟩
abbrev cX7_isPrice : ByteArray := prog_1_method_22_code
def yX7_isPrice : MethodName := ⟨RX7, "isPrice", "(I)Z"⟩
abbrev cX7_takeText : ByteArray := prog_1_method_23_code
def yX7_takeText : MethodName := ⟨RX7, "takeText", "()V"⟩
abbrev cX7_forget : ByteArray := prog_1_method_24_code
def yX7_forget : MethodName := ⟨RX7, "forget", "()V"⟩
abbrev cX7_chooseCheapest : ByteArray := prog_1_method_25_code
def yX7_chooseCheapest : MethodName := ⟨RX7, "chooseCheapest", "()V"⟩
abbrev cX7_chooseGreedy : ByteArray := prog_1_method_26_code
def yX7_chooseGreedy : MethodName := ⟨RX7, "chooseGreedy", "()V"⟩
abbrev cX7_priceOfParts : ByteArray := prog_1_method_27_code
def yX7_priceOfParts : MethodName := ⟨RX7, "priceOfParts", "(I)I"⟩
abbrev cX7_findRest : ByteArray := prog_1_method_28_code
def yX7_findRest : MethodName := ⟨RX7, "findRest", "()V"⟩
abbrev cX7_mix : ByteArray := prog_1_method_29_code
def yX7_mix : MethodName := ⟨RX7, "mix", "(JJ)J"⟩
abbrev cX7_log : ByteArray := prog_1_method_30_code
def yX7_log : MethodName := ⟨RX7, "log", "(I)I"⟩
def RX8 : String := "PricedCopiesModel"
def TX8 : u_T := fun k => match k with
  | 0 => ("PricedCopiesModel", "pageLength", "I", false)
  | 1 => ("PricedCopiesModel", "page", "[I", true)
  | 2 => ("PricedCopiesModel", "size", "I", false)
  | 3 => ("PricedCopiesModel", "text", "[I", true)
  | 4 => ("PricedCopiesModel", "prices", "[I", true)
  | 5 => ("PricedCopiesModel", "rounds", "I", false)
  | 6 => ("PricedCopiesModel", "texts", "I", false)
  | 7 => ("PricedCopiesModel", "codes", "I", false)
  | 8 => ("PricedCopiesModel", "made", "[I", true)
  | 9 => ("PricedCopiesModel", "madeMany", "I", false)
  | 10 => ("PricedCopiesModel", "cost", "I", false)
  | 11 => ("PricedCopiesModel", "readAt", "I", false)
  | 12 => ("PricedCopiesModel", "isCode", "Z", false)
  | 13 => ("PricedCopiesModel", "price", "[I", true)
  | 14 => ("PricedCopiesModel", "many", "[I", true)
  | 15 => ("PricedCopiesModel", "first", "[I", true)
  | 16 => ("PricedCopiesModel", "like", "[I", true)
  | 17 => ("PricedCopiesModel", "token", "[I", true)
  | 18 => ("PricedCopiesModel", "tokens", "I", false)
  | 19 => ("PricedCopiesModel", "taken", "[I", true)
  | 20 => ("PricedCopiesModel", "then", "[I", true)
  | 21 => ("PricedCopiesModel", "saved", "[I", true)
  | 22 => ("PricedCopiesModel", "rests", "[I", true)
  | _ => ("PricedCopiesModel", "h", "J", false)
def tyX8 : Nat → FieldType := fun k => match k with
  | 0 => .int
  | 1 => .array .int
  | 2 => .int
  | 3 => .array .int
  | 4 => .array .int
  | 5 => .int
  | 6 => .int
  | 7 => .int
  | 8 => .array .int
  | 9 => .int
  | 10 => .int
  | 11 => .int
  | 12 => .boolean
  | 13 => .array .int
  | 14 => .array .int
  | 15 => .array .int
  | 16 => .array .int
  | 17 => .array .int
  | 18 => .int
  | 19 => .array .int
  | 20 => .array .int
  | 21 => .array .int
  | 22 => .array .int
  | _ => .long
abbrev wsX80 : List Cond := u_ws RX8 TX8 24
theorem nmX8 : ∀ a, a < 24 → ∀ b, b < 24 → a ≠ b → (TX8 a).2.1 ≠ (TX8 b).2.1 := by decide +kernel
theorem tyX8_ok : ∀ k, k < 24 → parseFieldDescriptor (TX8 k).2.2.1 = some (tyX8 k) := by decide +kernel
abbrev cX8_init : ByteArray := prog_10_method_1_code
def yX8_init : MethodName := ⟨RX8, "<init>", "()V"⟩
abbrev cX8_within : ByteArray := prog_10_method_3_code
def yX8_within : MethodName := ⟨RX8, "within", "(III)Z"⟩
abbrev cX8_letter : ByteArray := prog_10_method_4_code
def yX8_letter : MethodName := ⟨RX8, "letter", "(I)I"⟩
abbrev cX8_blank : ByteArray := prog_10_method_5_code
def yX8_blank : MethodName := ⟨RX8, "blank", "()I"⟩
abbrev cX8_textFault : ByteArray := prog_10_method_6_code
def yX8_textFault : MethodName := ⟨RX8, "textFault", "()I"⟩
abbrev cX8_farOf : ByteArray := prog_10_method_7_code
def yX8_farOf : MethodName := ⟨RX8, "farOf", "(I)I"⟩
abbrev cX8_copyPrice : ByteArray := prog_10_method_8_code
def yX8_copyPrice : MethodName := ⟨RX8, "copyPrice", "(II)I"⟩
abbrev cX8_againPrice : ByteArray := prog_10_method_9_code
def yX8_againPrice : MethodName := ⟨RX8, "againPrice", "(I)I"⟩
abbrev cX8_copy : ByteArray := prog_10_method_10_code
def yX8_copy : MethodName := ⟨RX8, "copy", "(II)V"⟩
abbrev cX8_readCode : ByteArray := prog_10_method_11_code
def yX8_readCode : MethodName := ⟨RX8, "readCode", "()V"⟩
abbrev cX8_fault : ByteArray := prog_10_method_12_code
def yX8_fault : MethodName := ⟨RX8, "fault", "(Z)I"⟩
abbrev cX8_text : ByteArray := prog_10_method_13_code
def yX8_text : MethodName := ⟨RX8, "text", "()I"⟩
abbrev cX8_decode : ByteArray := prog_10_method_14_code
def yX8_decode : MethodName := ⟨RX8, "decode", "()I"⟩
abbrev cX8_priced : ByteArray := prog_10_method_15_code
def yX8_priced : MethodName := ⟨RX8, "priced", "()I"⟩
abbrev cX8_isPrice : ByteArray := prog_10_method_16_code
def yX8_isPrice : MethodName := ⟨RX8, "isPrice", "(I)Z"⟩
abbrev cX8_price : ByteArray := prog_10_method_17_code
def yX8_price : MethodName := ⟨RX8, "price", "(II)I"⟩
abbrev cX8_priceOf : ByteArray := prog_10_method_18_code
def yX8_priceOf : MethodName := ⟨RX8, "priceOf", "(I)I"⟩
abbrev cX8_likeness : ByteArray := prog_10_method_19_code
def yX8_likeness : MethodName := ⟨RX8, "likeness", "(III)I"⟩
abbrev cX8_isPlace : ByteArray := prog_10_method_20_code
def yX8_isPlace : MethodName := ⟨RX8, "isPlace", "(I)Z"⟩
abbrev cX8_at : ByteArray := prog_10_method_21_code
def yX8_at : MethodName := ⟨RX8, "at", "(I)I"⟩
abbrev cX8_farLongest : ByteArray := prog_10_method_22_code
def yX8_farLongest : MethodName := ⟨RX8, "farLongest", "(I)I"⟩
abbrev cX8_longestNow : ByteArray := prog_10_method_23_code
def yX8_longestNow : MethodName := ⟨RX8, "longestNow", "(II)I"⟩
abbrev cX8_longest : ByteArray := prog_10_method_24_code
def yX8_longest : MethodName := ⟨RX8, "longest", "(II)I"⟩
abbrev cX8_chainNow : ByteArray := prog_10_method_25_code
def yX8_chainNow : MethodName := ⟨RX8, "chainNow", "(II)I"⟩
abbrev cX8_chain : ByteArray := prog_10_method_26_code
def yX8_chain : MethodName := ⟨RX8, "chain", "(II)I"⟩
abbrev cX8_way : ByteArray := prog_10_method_27_code
def yX8_way : MethodName := ⟨RX8, "way", "(IIII)V"⟩
abbrev cX8_layState : ByteArray := prog_10_method_28_code
def yX8_layState : MethodName := ⟨RX8, "layState", "(III)V"⟩
abbrev cX8_layCheapest : ByteArray := prog_10_method_29_code
def yX8_layCheapest : MethodName := ⟨RX8, "layCheapest", "(II)I"⟩
abbrev cX8_lengthOf : ByteArray := prog_10_method_30_code
def yX8_lengthOf : MethodName := ⟨RX8, "lengthOf", "(I)I"⟩
abbrev cX8_layTokens : ByteArray := prog_10_method_31_code
def yX8_layTokens : MethodName := ⟨RX8, "layTokens", "()V"⟩
abbrev cX8_lettersOf : ByteArray := prog_10_method_32_code
def yX8_lettersOf : MethodName := ⟨RX8, "lettersOf", "()I"⟩
abbrev cX8_cheapestTold : ByteArray := prog_10_method_33_code
def yX8_cheapestTold : MethodName := ⟨RX8, "cheapestTold", "(I)I"⟩
abbrev cX8_cheapest : ByteArray := prog_10_method_34_code
def yX8_cheapest : MethodName := ⟨RX8, "cheapest", "(I)I"⟩
abbrev cX8_codeNow : ByteArray := prog_10_method_35_code
def yX8_codeNow : MethodName := ⟨RX8, "codeNow", "(I)I"⟩
abbrev cX8_codeOf : ByteArray := prog_10_method_36_code
def yX8_codeOf : MethodName := ⟨RX8, "codeOf", "(I)I"⟩
abbrev cX8_greedyNow : ByteArray := prog_10_method_37_code
def yX8_greedyNow : MethodName := ⟨RX8, "greedyNow", "(I)I"⟩
abbrev cX8_greedy : ByteArray := prog_10_method_38_code
def yX8_greedy : MethodName := ⟨RX8, "greedy", "(I)I"⟩
abbrev cX8_partsPrice : ByteArray := prog_10_method_39_code
def yX8_partsPrice : MethodName := ⟨RX8, "partsPrice", "(I)I"⟩
abbrev cX8_partsNow : ByteArray := prog_10_method_40_code
def yX8_partsNow : MethodName := ⟨RX8, "partsNow", "(II)I"⟩
abbrev cX8_parts : ByteArray := prog_10_method_41_code
def yX8_parts : MethodName := ⟨RX8, "parts", "(II)I"⟩
abbrev cX8_log : ByteArray := prog_10_method_42_code
def yX8_log : MethodName := ⟨RX8, "log", "(I)I"⟩
abbrev cX8_layTaken : ByteArray := prog_10_method_43_code
def yX8_layTaken : MethodName := ⟨RX8, "layTaken", "()V"⟩
abbrev cX8_sum : ByteArray := prog_10_method_44_code
def yX8_sum : MethodName := ⟨RX8, "sum", "(II)I"⟩
abbrev cX8_layThen : ByteArray := prog_10_method_45_code
def yX8_layThen : MethodName := ⟨RX8, "layThen", "()I"⟩
abbrev cX8_become : ByteArray := prog_10_method_46_code
def yX8_become : MethodName := ⟨RX8, "become", "()V"⟩
abbrev cX8_roundNow : ByteArray := prog_10_method_47_code
def yX8_roundNow : MethodName := ⟨RX8, "roundNow", "()I"⟩
abbrev cX8_round : ByteArray := prog_10_method_48_code
def yX8_round : MethodName := ⟨RX8, "round", "()I"⟩
abbrev cX8_layRest : ByteArray := prog_10_method_49_code
def yX8_layRest : MethodName := ⟨RX8, "layRest", "()V"⟩
abbrev cX8_rest : ByteArray := prog_10_method_50_code
def yX8_rest : MethodName := ⟨RX8, "rest", "(I)I"⟩
abbrev cX8_tokensOf : ByteArray := prog_10_method_51_code
def yX8_tokensOf : MethodName := ⟨RX8, "tokensOf", "(I)I"⟩
abbrev cX8_howMany : ByteArray := prog_10_method_52_code
def yX8_howMany : MethodName := ⟨RX8, "howMany", "(I)I"⟩
abbrev cX8_count : ByteArray := prog_10_method_53_code
def yX8_count : MethodName := ⟨RX8, "count", "(I)I"⟩
abbrev cX8_mix : ByteArray := prog_10_method_54_code
def yX8_mix : MethodName := ⟨RX8, "mix", "(J)V"⟩
abbrev cX8_mixText : ByteArray := prog_10_method_55_code
def yX8_mixText : MethodName := ⟨RX8, "mixText", "()V"⟩
abbrev cX8_digest : ByteArray := prog_10_method_56_code
def yX8_digest : MethodName := ⟨RX8, "digest", "()J"⟩
def RJx8e188 : String := "java/lang/Cloneable"
def TJx8e188 : u_T := fun k => match k with
  | _ => ("", "", "", false)
def tyJx8e188 : Nat → FieldType := fun k => match k with
  | _ => .int
abbrev wsJx8e1880 : List Cond := u_ws RJx8e188 TJx8e188 0
theorem nmJx8e188 : ∀ a, a < 0 → ∀ b, b < 0 → a ≠ b → (TJx8e188 a).2.1 ≠ (TJx8e188 b).2.1 := by decide +kernel
theorem tyJx8e188_ok : ∀ k, k < 0 → parseFieldDescriptor (TJx8e188 k).2.2.1 = some (tyJx8e188 k) := by decide +kernel
def RJ9 : String := "java/lang/Math"
def TJ9 : u_T := fun k => match k with
  | _ => ("", "", "", false)
def tyJ9 : Nat → FieldType := fun k => match k with
  | _ => .int
abbrev wsJ90 : List Cond := u_ws RJ9 TJ9 0
theorem nmJ9 : ∀ a, a < 0 → ∀ b, b < 0 → a ≠ b → (TJ9 a).2.1 ≠ (TJ9 b).2.1 := by decide +kernel
theorem tyJ9_ok : ∀ k, k < 0 → parseFieldDescriptor (TJ9 k).2.2.1 = some (tyJ9 k) := by decide +kernel
abbrev cJ9_max_7cf53 : ByteArray := prog_12_method_65_code
def yJ9_max_7cf53 : MethodName := ⟨RJ9, "max", "(II)I"⟩
abbrev cJ9_min_7cf53 : ByteArray := prog_12_method_69_code
def yJ9_min_7cf53 : MethodName := ⟨RJ9, "min", "(II)I"⟩
def RL : String := "PricedCopiesLaw"
abbrev cL_law : ByteArray := code
def yL_law : MethodName := ⟨RL, "law", "([I)Z"⟩
