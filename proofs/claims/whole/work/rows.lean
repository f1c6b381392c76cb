section
-- ===== PART A: goes FIRST, ahead of the names: the tables' words, and 'selects' of the private methods out of them =====
/-- a private method of a class that the tables say can be made, by its rows of tables_1 -/
def lw_okq (q : MethodName × Nat) : Prop := (q.1.cls ≠ "java/lang/invoke/MethodHandle" ∧ q.1.cls ≠ "java/lang/invoke/VarHandle") ∧ Cond.instantiable q.1.cls q.2 ∈ tables_1 ∧ Cond.privateMethod q.1 ∈ tables_1 ∧ Cond.instanceMethod q.1 ∈ tables_1
theorem lw_p0 : lw_okq (⟨"PricedCopies$CodeReader", "takes", "(I)Z"⟩, 8) := ⟨⟨by decide +kernel, by decide +kernel⟩, List.mem_of_getElem? (i := 34) (by decide +kernel), List.mem_of_getElem? (i := 245) (by decide +kernel), List.mem_of_getElem? (i := 246) (by decide +kernel)⟩
theorem lw_p1 : lw_okq (⟨"PricedCopies$CodeReader", "takesFigure", "(I)Z"⟩, 8) := ⟨⟨by decide +kernel, by decide +kernel⟩, List.mem_of_getElem? (i := 34) (by decide +kernel), List.mem_of_getElem? (i := 249) (by decide +kernel), List.mem_of_getElem? (i := 250) (by decide +kernel)⟩
theorem lw_p2 : lw_okq (⟨"PricedCopies$CodeReader", "make", "(I)V"⟩, 8) := ⟨⟨by decide +kernel, by decide +kernel⟩, List.mem_of_getElem? (i := 34) (by decide +kernel), List.mem_of_getElem? (i := 273) (by decide +kernel), List.mem_of_getElem? (i := 274) (by decide +kernel)⟩
theorem lw_p3 : lw_okq (⟨"PricedCopies$CodeReader", "takesLetter", "(I)Z"⟩, 8) := ⟨⟨by decide +kernel, by decide +kernel⟩, List.mem_of_getElem? (i := 34) (by decide +kernel), List.mem_of_getElem? (i := 277) (by decide +kernel), List.mem_of_getElem? (i := 278) (by decide +kernel)⟩
theorem lw_p4 : lw_okq (⟨"PricedCopies$CodeReader", "opens", "(I)Z"⟩, 8) := ⟨⟨by decide +kernel, by decide +kernel⟩, List.mem_of_getElem? (i := 34) (by decide +kernel), List.mem_of_getElem? (i := 281) (by decide +kernel), List.mem_of_getElem? (i := 282) (by decide +kernel)⟩
theorem lw_p5 : lw_okq (⟨"PricedCopies", "takeText", "()V"⟩, 17) := ⟨⟨by decide +kernel, by decide +kernel⟩, List.mem_of_getElem? (i := 12) (by decide +kernel), List.mem_of_getElem? (i := 307) (by decide +kernel), List.mem_of_getElem? (i := 308) (by decide +kernel)⟩
theorem lw_p6 : lw_okq (⟨"PricedCopies", "forget", "()V"⟩, 17) := ⟨⟨by decide +kernel, by decide +kernel⟩, List.mem_of_getElem? (i := 12) (by decide +kernel), List.mem_of_getElem? (i := 322) (by decide +kernel), List.mem_of_getElem? (i := 323) (by decide +kernel)⟩
theorem lw_p7 : lw_okq (⟨"PricedCopies", "hasText", "()Z"⟩, 17) := ⟨⟨by decide +kernel, by decide +kernel⟩, List.mem_of_getElem? (i := 12) (by decide +kernel), List.mem_of_getElem? (i := 404) (by decide +kernel), List.mem_of_getElem? (i := 405) (by decide +kernel)⟩
theorem lw_p8 : lw_okq (⟨"PricedCopies", "chooseCheapest", "()V"⟩, 17) := ⟨⟨by decide +kernel, by decide +kernel⟩, List.mem_of_getElem? (i := 12) (by decide +kernel), List.mem_of_getElem? (i := 408) (by decide +kernel), List.mem_of_getElem? (i := 409) (by decide +kernel)⟩
theorem lw_p9 : lw_okq (⟨"PricedCopies$Chooser", "chooseCopy", "(LPricedCopies$Text;LPricedCopies$Prices;III)V"⟩, 4) := ⟨⟨by decide +kernel, by decide +kernel⟩, List.mem_of_getElem? (i := 124) (by decide +kernel), List.mem_of_getElem? (i := 418) (by decide +kernel), List.mem_of_getElem? (i := 419) (by decide +kernel)⟩
theorem lw_p10 : lw_okq (⟨"PricedCopies$Chooser", "consider", "(III)V"⟩, 4) := ⟨⟨by decide +kernel, by decide +kernel⟩, List.mem_of_getElem? (i := 124) (by decide +kernel), List.mem_of_getElem? (i := 426) (by decide +kernel), List.mem_of_getElem? (i := 427) (by decide +kernel)⟩
theorem lw_p11 : lw_okq (⟨"PricedCopies$Chooser", "chooseFirsts", "(LPricedCopies$Text;LPricedCopies$Prices;III)V"⟩, 4) := ⟨⟨by decide +kernel, by decide +kernel⟩, List.mem_of_getElem? (i := 124) (by decide +kernel), List.mem_of_getElem? (i := 430) (by decide +kernel), List.mem_of_getElem? (i := 431) (by decide +kernel)⟩
theorem lw_p12 : lw_okq (⟨"PricedCopies$Chooser", "collect", "(IILPricedCopies$TokenRow;)V"⟩, 4) := ⟨⟨by decide +kernel, by decide +kernel⟩, List.mem_of_getElem? (i := 124) (by decide +kernel), List.mem_of_getElem? (i := 443) (by decide +kernel), List.mem_of_getElem? (i := 444) (by decide +kernel)⟩
theorem lw_p13 : lw_okq (⟨"PricedCopies$Prices", "countTaken", "(LPricedCopies$TokenRow;)V"⟩, 2) := ⟨⟨by decide +kernel, by decide +kernel⟩, List.mem_of_getElem? (i := 102) (by decide +kernel), List.mem_of_getElem? (i := 458) (by decide +kernel), List.mem_of_getElem? (i := 459) (by decide +kernel)⟩
theorem lw_p14 : lw_okq (⟨"PricedCopies$Prices", "countOne", "(I)V"⟩, 2) := ⟨⟨by decide +kernel, by decide +kernel⟩, List.mem_of_getElem? (i := 102) (by decide +kernel), List.mem_of_getElem? (i := 462) (by decide +kernel), List.mem_of_getElem? (i := 463) (by decide +kernel)⟩
theorem lw_p15 : lw_okq (⟨"PricedCopies$Prices", "reprice", "(III)I"⟩, 2) := ⟨⟨by decide +kernel, by decide +kernel⟩, List.mem_of_getElem? (i := 102) (by decide +kernel), List.mem_of_getElem? (i := 470) (by decide +kernel), List.mem_of_getElem? (i := 471) (by decide +kernel)⟩
def lw_privs_1 : List (MethodName × Nat) := [(⟨"PricedCopies$CodeReader", "takes", "(I)Z"⟩, 8), (⟨"PricedCopies$CodeReader", "takesFigure", "(I)Z"⟩, 8), (⟨"PricedCopies$CodeReader", "make", "(I)V"⟩, 8), (⟨"PricedCopies$CodeReader", "takesLetter", "(I)Z"⟩, 8), (⟨"PricedCopies$CodeReader", "opens", "(I)Z"⟩, 8), (⟨"PricedCopies", "takeText", "()V"⟩, 17), (⟨"PricedCopies", "forget", "()V"⟩, 17), (⟨"PricedCopies", "hasText", "()Z"⟩, 17), (⟨"PricedCopies", "chooseCheapest", "()V"⟩, 17), (⟨"PricedCopies$Chooser", "chooseCopy", "(LPricedCopies$Text;LPricedCopies$Prices;III)V"⟩, 4), (⟨"PricedCopies$Chooser", "consider", "(III)V"⟩, 4), (⟨"PricedCopies$Chooser", "chooseFirsts", "(LPricedCopies$Text;LPricedCopies$Prices;III)V"⟩, 4), (⟨"PricedCopies$Chooser", "collect", "(IILPricedCopies$TokenRow;)V"⟩, 4), (⟨"PricedCopies$Prices", "countTaken", "(LPricedCopies$TokenRow;)V"⟩, 2), (⟨"PricedCopies$Prices", "countOne", "(I)V"⟩, 2), (⟨"PricedCopies$Prices", "reprice", "(III)I"⟩, 2)]
theorem lw_r1 : ∀ q ∈ lw_privs_1, lw_okq q := List.forall_mem_cons.mpr ⟨lw_p0, List.forall_mem_cons.mpr ⟨lw_p1, List.forall_mem_cons.mpr ⟨lw_p2, List.forall_mem_cons.mpr ⟨lw_p3, List.forall_mem_cons.mpr ⟨lw_p4, List.forall_mem_cons.mpr ⟨lw_p5, List.forall_mem_cons.mpr ⟨lw_p6, List.forall_mem_cons.mpr ⟨lw_p7, List.forall_mem_cons.mpr ⟨lw_p8, List.forall_mem_cons.mpr ⟨lw_p9, List.forall_mem_cons.mpr ⟨lw_p10, List.forall_mem_cons.mpr ⟨lw_p11, List.forall_mem_cons.mpr ⟨lw_p12, List.forall_mem_cons.mpr ⟨lw_p13, List.forall_mem_cons.mpr ⟨lw_p14, List.forall_mem_cons.mpr ⟨lw_p15, fun _ h => absurd h List.not_mem_nil⟩⟩⟩⟩⟩⟩⟩⟩⟩⟩⟩⟩⟩⟩⟩⟩
theorem lw_p16 : lw_okq (⟨"PricedCopies", "findRest", "()V"⟩, 17) := ⟨⟨by decide +kernel, by decide +kernel⟩, List.mem_of_getElem? (i := 12) (by decide +kernel), List.mem_of_getElem? (i := 487) (by decide +kernel), List.mem_of_getElem? (i := 488) (by decide +kernel)⟩
theorem lw_p17 : lw_okq (⟨"PricedCopies", "chooseGreedy", "()V"⟩, 17) := ⟨⟨by decide +kernel, by decide +kernel⟩, List.mem_of_getElem? (i := 12) (by decide +kernel), List.mem_of_getElem? (i := 551) (by decide +kernel), List.mem_of_getElem? (i := 552) (by decide +kernel)⟩
theorem lw_p18 : lw_okq (⟨"PricedCopies", "priceOfParts", "(I)I"⟩, 17) := ⟨⟨by decide +kernel, by decide +kernel⟩, List.mem_of_getElem? (i := 12) (by decide +kernel), List.mem_of_getElem? (i := 564) (by decide +kernel), List.mem_of_getElem? (i := 565) (by decide +kernel)⟩
theorem lw_p19 : lw_okq (⟨"PricedCopiesModel", "textFault", "()I"⟩, 24) := ⟨⟨by decide +kernel, by decide +kernel⟩, List.mem_of_getElem? (i := 593) (by decide +kernel), List.mem_of_getElem? (i := 687) (by decide +kernel), List.mem_of_getElem? (i := 688) (by decide +kernel)⟩
theorem lw_p20 : lw_okq (⟨"PricedCopiesModel", "readCode", "()V"⟩, 24) := ⟨⟨by decide +kernel, by decide +kernel⟩, List.mem_of_getElem? (i := 593) (by decide +kernel), List.mem_of_getElem? (i := 691) (by decide +kernel), List.mem_of_getElem? (i := 692) (by decide +kernel)⟩
theorem lw_p21 : lw_okq (⟨"PricedCopiesModel", "copy", "(II)V"⟩, 24) := ⟨⟨by decide +kernel, by decide +kernel⟩, List.mem_of_getElem? (i := 593) (by decide +kernel), List.mem_of_getElem? (i := 695) (by decide +kernel), List.mem_of_getElem? (i := 696) (by decide +kernel)⟩
theorem lw_p22 : lw_okq (⟨"PricedCopiesModel", "againPrice", "(I)I"⟩, 24) := ⟨⟨by decide +kernel, by decide +kernel⟩, List.mem_of_getElem? (i := 593) (by decide +kernel), List.mem_of_getElem? (i := 699) (by decide +kernel), List.mem_of_getElem? (i := 700) (by decide +kernel)⟩
theorem lw_p23 : lw_okq (⟨"PricedCopiesModel", "copyPrice", "(II)I"⟩, 24) := ⟨⟨by decide +kernel, by decide +kernel⟩, List.mem_of_getElem? (i := 593) (by decide +kernel), List.mem_of_getElem? (i := 703) (by decide +kernel), List.mem_of_getElem? (i := 704) (by decide +kernel)⟩
theorem lw_p24 : lw_okq (⟨"PricedCopiesModel", "isPlace", "(I)Z"⟩, 24) := ⟨⟨by decide +kernel, by decide +kernel⟩, List.mem_of_getElem? (i := 593) (by decide +kernel), List.mem_of_getElem? (i := 737) (by decide +kernel), List.mem_of_getElem? (i := 738) (by decide +kernel)⟩
theorem lw_p25 : lw_okq (⟨"PricedCopiesModel", "longestNow", "(II)I"⟩, 24) := ⟨⟨by decide +kernel, by decide +kernel⟩, List.mem_of_getElem? (i := 593) (by decide +kernel), List.mem_of_getElem? (i := 745) (by decide +kernel), List.mem_of_getElem? (i := 746) (by decide +kernel)⟩
theorem lw_p26 : lw_okq (⟨"PricedCopiesModel", "farLongest", "(I)I"⟩, 24) := ⟨⟨by decide +kernel, by decide +kernel⟩, List.mem_of_getElem? (i := 593) (by decide +kernel), List.mem_of_getElem? (i := 749) (by decide +kernel), List.mem_of_getElem? (i := 750) (by decide +kernel)⟩
theorem lw_p27 : lw_okq (⟨"PricedCopiesModel", "likeness", "(III)I"⟩, 24) := ⟨⟨by decide +kernel, by decide +kernel⟩, List.mem_of_getElem? (i := 593) (by decide +kernel), List.mem_of_getElem? (i := 753) (by decide +kernel), List.mem_of_getElem? (i := 754) (by decide +kernel)⟩
theorem lw_p28 : lw_okq (⟨"PricedCopiesModel", "chainNow", "(II)I"⟩, 24) := ⟨⟨by decide +kernel, by decide +kernel⟩, List.mem_of_getElem? (i := 593) (by decide +kernel), List.mem_of_getElem? (i := 761) (by decide +kernel), List.mem_of_getElem? (i := 762) (by decide +kernel)⟩
theorem lw_p29 : lw_okq (⟨"PricedCopiesModel", "layTokens", "()V"⟩, 24) := ⟨⟨by decide +kernel, by decide +kernel⟩, List.mem_of_getElem? (i := 593) (by decide +kernel), List.mem_of_getElem? (i := 769) (by decide +kernel), List.mem_of_getElem? (i := 770) (by decide +kernel)⟩
theorem lw_p30 : lw_okq (⟨"PricedCopiesModel", "layCheapest", "(II)I"⟩, 24) := ⟨⟨by decide +kernel, by decide +kernel⟩, List.mem_of_getElem? (i := 593) (by decide +kernel), List.mem_of_getElem? (i := 773) (by decide +kernel), List.mem_of_getElem? (i := 774) (by decide +kernel)⟩
theorem lw_p31 : lw_okq (⟨"PricedCopiesModel", "layState", "(III)V"⟩, 24) := ⟨⟨by decide +kernel, by decide +kernel⟩, List.mem_of_getElem? (i := 593) (by decide +kernel), List.mem_of_getElem? (i := 777) (by decide +kernel), List.mem_of_getElem? (i := 778) (by decide +kernel)⟩
def lw_privs_2 : List (MethodName × Nat) := [(⟨"PricedCopies", "findRest", "()V"⟩, 17), (⟨"PricedCopies", "chooseGreedy", "()V"⟩, 17), (⟨"PricedCopies", "priceOfParts", "(I)I"⟩, 17), (⟨"PricedCopiesModel", "textFault", "()I"⟩, 24), (⟨"PricedCopiesModel", "readCode", "()V"⟩, 24), (⟨"PricedCopiesModel", "copy", "(II)V"⟩, 24), (⟨"PricedCopiesModel", "againPrice", "(I)I"⟩, 24), (⟨"PricedCopiesModel", "copyPrice", "(II)I"⟩, 24), (⟨"PricedCopiesModel", "isPlace", "(I)Z"⟩, 24), (⟨"PricedCopiesModel", "longestNow", "(II)I"⟩, 24), (⟨"PricedCopiesModel", "farLongest", "(I)I"⟩, 24), (⟨"PricedCopiesModel", "likeness", "(III)I"⟩, 24), (⟨"PricedCopiesModel", "chainNow", "(II)I"⟩, 24), (⟨"PricedCopiesModel", "layTokens", "()V"⟩, 24), (⟨"PricedCopiesModel", "layCheapest", "(II)I"⟩, 24), (⟨"PricedCopiesModel", "layState", "(III)V"⟩, 24)]
theorem lw_r2 : ∀ q ∈ lw_privs_2, lw_okq q := List.forall_mem_cons.mpr ⟨lw_p16, List.forall_mem_cons.mpr ⟨lw_p17, List.forall_mem_cons.mpr ⟨lw_p18, List.forall_mem_cons.mpr ⟨lw_p19, List.forall_mem_cons.mpr ⟨lw_p20, List.forall_mem_cons.mpr ⟨lw_p21, List.forall_mem_cons.mpr ⟨lw_p22, List.forall_mem_cons.mpr ⟨lw_p23, List.forall_mem_cons.mpr ⟨lw_p24, List.forall_mem_cons.mpr ⟨lw_p25, List.forall_mem_cons.mpr ⟨lw_p26, List.forall_mem_cons.mpr ⟨lw_p27, List.forall_mem_cons.mpr ⟨lw_p28, List.forall_mem_cons.mpr ⟨lw_p29, List.forall_mem_cons.mpr ⟨lw_p30, List.forall_mem_cons.mpr ⟨lw_p31, fun _ h => absurd h List.not_mem_nil⟩⟩⟩⟩⟩⟩⟩⟩⟩⟩⟩⟩⟩⟩⟩⟩
theorem lw_p32 : lw_okq (⟨"PricedCopiesModel", "way", "(IIII)V"⟩, 24) := ⟨⟨by decide +kernel, by decide +kernel⟩, List.mem_of_getElem? (i := 593) (by decide +kernel), List.mem_of_getElem? (i := 782) (by decide +kernel), List.mem_of_getElem? (i := 783) (by decide +kernel)⟩
theorem lw_p33 : lw_okq (⟨"PricedCopiesModel", "cheapestTold", "(I)I"⟩, 24) := ⟨⟨by decide +kernel, by decide +kernel⟩, List.mem_of_getElem? (i := 593) (by decide +kernel), List.mem_of_getElem? (i := 789) (by decide +kernel), List.mem_of_getElem? (i := 790) (by decide +kernel)⟩
theorem lw_p34 : lw_okq (⟨"PricedCopiesModel", "lettersOf", "()I"⟩, 24) := ⟨⟨by decide +kernel, by decide +kernel⟩, List.mem_of_getElem? (i := 593) (by decide +kernel), List.mem_of_getElem? (i := 793) (by decide +kernel), List.mem_of_getElem? (i := 794) (by decide +kernel)⟩
theorem lw_p35 : lw_okq (⟨"PricedCopiesModel", "codeNow", "(I)I"⟩, 24) := ⟨⟨by decide +kernel, by decide +kernel⟩, List.mem_of_getElem? (i := 593) (by decide +kernel), List.mem_of_getElem? (i := 801) (by decide +kernel), List.mem_of_getElem? (i := 802) (by decide +kernel)⟩
theorem lw_p36 : lw_okq (⟨"PricedCopiesModel", "greedyNow", "(I)I"⟩, 24) := ⟨⟨by decide +kernel, by decide +kernel⟩, List.mem_of_getElem? (i := 593) (by decide +kernel), List.mem_of_getElem? (i := 809) (by decide +kernel), List.mem_of_getElem? (i := 810) (by decide +kernel)⟩
theorem lw_p37 : lw_okq (⟨"PricedCopiesModel", "partsNow", "(II)I"⟩, 24) := ⟨⟨by decide +kernel, by decide +kernel⟩, List.mem_of_getElem? (i := 593) (by decide +kernel), List.mem_of_getElem? (i := 817) (by decide +kernel), List.mem_of_getElem? (i := 818) (by decide +kernel)⟩
theorem lw_p38 : lw_okq (⟨"PricedCopiesModel", "partsPrice", "(I)I"⟩, 24) := ⟨⟨by decide +kernel, by decide +kernel⟩, List.mem_of_getElem? (i := 593) (by decide +kernel), List.mem_of_getElem? (i := 821) (by decide +kernel), List.mem_of_getElem? (i := 822) (by decide +kernel)⟩
theorem lw_p39 : lw_okq (⟨"PricedCopiesModel", "roundNow", "()I"⟩, 24) := ⟨⟨by decide +kernel, by decide +kernel⟩, List.mem_of_getElem? (i := 593) (by decide +kernel), List.mem_of_getElem? (i := 829) (by decide +kernel), List.mem_of_getElem? (i := 830) (by decide +kernel)⟩
theorem lw_p40 : lw_okq (⟨"PricedCopiesModel", "layThen", "()I"⟩, 24) := ⟨⟨by decide +kernel, by decide +kernel⟩, List.mem_of_getElem? (i := 593) (by decide +kernel), List.mem_of_getElem? (i := 833) (by decide +kernel), List.mem_of_getElem? (i := 834) (by decide +kernel)⟩
theorem lw_p41 : lw_okq (⟨"PricedCopiesModel", "layTaken", "()V"⟩, 24) := ⟨⟨by decide +kernel, by decide +kernel⟩, List.mem_of_getElem? (i := 593) (by decide +kernel), List.mem_of_getElem? (i := 837) (by decide +kernel), List.mem_of_getElem? (i := 838) (by decide +kernel)⟩
theorem lw_p42 : lw_okq (⟨"PricedCopiesModel", "sum", "(II)I"⟩, 24) := ⟨⟨by decide +kernel, by decide +kernel⟩, List.mem_of_getElem? (i := 593) (by decide +kernel), List.mem_of_getElem? (i := 841) (by decide +kernel), List.mem_of_getElem? (i := 842) (by decide +kernel)⟩
theorem lw_p43 : lw_okq (⟨"PricedCopiesModel", "become", "()V"⟩, 24) := ⟨⟨by decide +kernel, by decide +kernel⟩, List.mem_of_getElem? (i := 593) (by decide +kernel), List.mem_of_getElem? (i := 848) (by decide +kernel), List.mem_of_getElem? (i := 849) (by decide +kernel)⟩
theorem lw_p44 : lw_okq (⟨"PricedCopiesModel", "layRest", "()V"⟩, 24) := ⟨⟨by decide +kernel, by decide +kernel⟩, List.mem_of_getElem? (i := 593) (by decide +kernel), List.mem_of_getElem? (i := 856) (by decide +kernel), List.mem_of_getElem? (i := 857) (by decide +kernel)⟩
theorem lw_p45 : lw_okq (⟨"PricedCopiesModel", "howMany", "(I)I"⟩, 24) := ⟨⟨by decide +kernel, by decide +kernel⟩, List.mem_of_getElem? (i := 593) (by decide +kernel), List.mem_of_getElem? (i := 864) (by decide +kernel), List.mem_of_getElem? (i := 865) (by decide +kernel)⟩
theorem lw_p46 : lw_okq (⟨"PricedCopiesModel", "tokensOf", "(I)I"⟩, 24) := ⟨⟨by decide +kernel, by decide +kernel⟩, List.mem_of_getElem? (i := 593) (by decide +kernel), List.mem_of_getElem? (i := 868) (by decide +kernel), List.mem_of_getElem? (i := 869) (by decide +kernel)⟩
theorem lw_p47 : lw_okq (⟨"PricedCopiesModel", "mix", "(J)V"⟩, 24) := ⟨⟨by decide +kernel, by decide +kernel⟩, List.mem_of_getElem? (i := 593) (by decide +kernel), List.mem_of_getElem? (i := 877) (by decide +kernel), List.mem_of_getElem? (i := 878) (by decide +kernel)⟩
def lw_privs_3 : List (MethodName × Nat) := [(⟨"PricedCopiesModel", "way", "(IIII)V"⟩, 24), (⟨"PricedCopiesModel", "cheapestTold", "(I)I"⟩, 24), (⟨"PricedCopiesModel", "lettersOf", "()I"⟩, 24), (⟨"PricedCopiesModel", "codeNow", "(I)I"⟩, 24), (⟨"PricedCopiesModel", "greedyNow", "(I)I"⟩, 24), (⟨"PricedCopiesModel", "partsNow", "(II)I"⟩, 24), (⟨"PricedCopiesModel", "partsPrice", "(I)I"⟩, 24), (⟨"PricedCopiesModel", "roundNow", "()I"⟩, 24), (⟨"PricedCopiesModel", "layThen", "()I"⟩, 24), (⟨"PricedCopiesModel", "layTaken", "()V"⟩, 24), (⟨"PricedCopiesModel", "sum", "(II)I"⟩, 24), (⟨"PricedCopiesModel", "become", "()V"⟩, 24), (⟨"PricedCopiesModel", "layRest", "()V"⟩, 24), (⟨"PricedCopiesModel", "howMany", "(I)I"⟩, 24), (⟨"PricedCopiesModel", "tokensOf", "(I)I"⟩, 24), (⟨"PricedCopiesModel", "mix", "(J)V"⟩, 24)]
theorem lw_r3 : ∀ q ∈ lw_privs_3, lw_okq q := List.forall_mem_cons.mpr ⟨lw_p32, List.forall_mem_cons.mpr ⟨lw_p33, List.forall_mem_cons.mpr ⟨lw_p34, List.forall_mem_cons.mpr ⟨lw_p35, List.forall_mem_cons.mpr ⟨lw_p36, List.forall_mem_cons.mpr ⟨lw_p37, List.forall_mem_cons.mpr ⟨lw_p38, List.forall_mem_cons.mpr ⟨lw_p39, List.forall_mem_cons.mpr ⟨lw_p40, List.forall_mem_cons.mpr ⟨lw_p41, List.forall_mem_cons.mpr ⟨lw_p42, List.forall_mem_cons.mpr ⟨lw_p43, List.forall_mem_cons.mpr ⟨lw_p44, List.forall_mem_cons.mpr ⟨lw_p45, List.forall_mem_cons.mpr ⟨lw_p46, List.forall_mem_cons.mpr ⟨lw_p47, fun _ h => absurd h List.not_mem_nil⟩⟩⟩⟩⟩⟩⟩⟩⟩⟩⟩⟩⟩⟩⟩⟩
theorem lw_p48 : lw_okq (⟨"PricedCopiesModel", "mixText", "()V"⟩, 24) := ⟨⟨by decide +kernel, by decide +kernel⟩, List.mem_of_getElem? (i := 593) (by decide +kernel), List.mem_of_getElem? (i := 882) (by decide +kernel), List.mem_of_getElem? (i := 883) (by decide +kernel)⟩
def lw_privs_4 : List (MethodName × Nat) := [(⟨"PricedCopiesModel", "mixText", "()V"⟩, 24)]
theorem lw_r4 : ∀ q ∈ lw_privs_4, lw_okq q := List.forall_mem_cons.mpr ⟨lw_p48, fun _ h => absurd h List.not_mem_nil⟩
def lw_privs : List (MethodName × Nat) := lw_privs_1 ++ (lw_privs_2 ++ (lw_privs_3 ++ (lw_privs_4)))
def lw_tbl : List Cond := k2_sels lw_privs ++ tables_1
theorem lw_privs_ok : ∀ q ∈ lw_privs, lw_okq q := by
  show ∀ q ∈ lw_privs_1 ++ (lw_privs_2 ++ (lw_privs_3 ++ (lw_privs_4))), lw_okq q
  exact List.forall_mem_append.mpr ⟨lw_r1, List.forall_mem_append.mpr ⟨lw_r2, List.forall_mem_append.mpr ⟨lw_r3, lw_r4⟩⟩⟩

def RX0 : String := "PricedCopies$Chooser"
def TX0 : u_T := fun k => match k with
  | 0 => ("PricedCopies$Chooser", "weights", "[[I", true)
  | 1 => ("PricedCopies$Chooser", "firsts", "[[I", true)
  | 2 => ("PricedCopies$Chooser", "bestToken", "I", false)
  | _ => ("PricedCopies$Chooser", "bestWeight", "I", false)
def tyX0 : Nat → FieldType := fun k => match k with
  | 0 => .array (.array .int)
  | 1 => .array (.array .int)
  | 2 => .int
  | _ => .int
abbrev wsX00 : List Cond := u_ws RX0 TX0 4
theorem nmX0 : ∀ a, a < 4 → ∀ b, b < 4 → a ≠ b → (TX0 a).2.1 ≠ (TX0 b).2.1 := by decide +kernel
theorem tyX0_ok : ∀ k, k < 4 → parseFieldDescriptor (TX0 k).2.2.1 = some (tyX0 k) := by decide +kernel
abbrev cX0_init : ByteArray := prog_2_method_1_code
def yX0_init : MethodName := ⟨RX0, "<init>", "()V"⟩
abbrev cX0_choose : ByteArray := prog_2_method_2_code
def yX0_choose : MethodName := ⟨RX0, "choose", "(LPricedCopies$Text;LPricedCopies$Prices;IILPricedCopies$TokenRow;)V"⟩
abbrev cX0_chooseCopy : ByteArray := prog_2_method_3_code
def yX0_chooseCopy : MethodName := ⟨RX0, "chooseCopy", "(LPricedCopies$Text;LPricedCopies$Prices;III)V"⟩
abbrev cX0_chooseFirsts : ByteArray := prog_2_method_4_code
def yX0_chooseFirsts : MethodName := ⟨RX0, "chooseFirsts", "(LPricedCopies$Text;LPricedCopies$Prices;III)V"⟩
abbrev cX0_consider : ByteArray := prog_2_method_5_code
def yX0_consider : MethodName := ⟨RX0, "consider", "(III)V"⟩
abbrev cX0_collect : ByteArray := prog_2_method_6_code
def yX0_collect : MethodName := ⟨RX0, "collect", "(IILPricedCopies$TokenRow;)V"⟩
def RX1 : String := "PricedCopies$CodeReader"
def TX1 : u_T := fun k => match k with
  | 0 => ("PricedCopies$CodeReader", "made", "[I", true)
  | 1 => ("PricedCopies$CodeReader", "row", "LPricedCopies$TokenRow;", true)
  | 2 => ("PricedCopies$CodeReader", "madeCount", "I", false)
  | 3 => ("PricedCopies$CodeReader", "latestDistance", "I", false)
  | 4 => ("PricedCopies$CodeReader", "openDistance", "I", false)
  | 5 => ("PricedCopies$CodeReader", "openAgain", "Z", false)
  | 6 => ("PricedCopies$CodeReader", "place", "I", false)
  | _ => ("PricedCopies$CodeReader", "faultless", "Z", false)
def tyX1 : Nat → FieldType := fun k => match k with
  | 0 => .array .int
  | 1 => .object "PricedCopies$TokenRow"
  | 2 => .int
  | 3 => .int
  | 4 => .int
  | 5 => .boolean
  | 6 => .int
  | _ => .boolean
abbrev wsX10 : List Cond := u_ws RX1 TX1 8
theorem nmX1 : ∀ a, a < 8 → ∀ b, b < 8 → a ≠ b → (TX1 a).2.1 ≠ (TX1 b).2.1 := by decide +kernel
theorem tyX1_ok : ∀ k, k < 8 → parseFieldDescriptor (TX1 k).2.2.1 = some (tyX1 k) := by decide +kernel
abbrev cX1_init : ByteArray := prog_3_method_1_code
def yX1_init : MethodName := ⟨RX1, "<init>", "()V"⟩
abbrev cX1_read : ByteArray := prog_3_method_2_code
def yX1_read : MethodName := ⟨RX1, "read", "(LPricedCopies$Page;)V"⟩
abbrev cX1_faultPlace : ByteArray := prog_3_method_3_code
def yX1_faultPlace : MethodName := ⟨RX1, "faultPlace", "()I"⟩
abbrev cX1_isCode : ByteArray := prog_3_method_4_code
def yX1_isCode : MethodName := ⟨RX1, "isCode", "()Z"⟩
abbrev cX1_tokens : ByteArray := prog_3_method_5_code
def yX1_tokens : MethodName := ⟨RX1, "tokens", "()LPricedCopies$TokenRow;"⟩
abbrev cX1_madeSize : ByteArray := prog_3_method_6_code
def yX1_madeSize : MethodName := ⟨RX1, "madeSize", "()I"⟩
abbrev cX1_madeAt : ByteArray := prog_3_method_7_code
def yX1_madeAt : MethodName := ⟨RX1, "madeAt", "(I)I"⟩
abbrev cX1_takes : ByteArray := prog_3_method_8_code
def yX1_takes : MethodName := ⟨RX1, "takes", "(I)Z"⟩
abbrev cX1_takesLetter : ByteArray := prog_3_method_9_code
def yX1_takesLetter : MethodName := ⟨RX1, "takesLetter", "(I)Z"⟩
abbrev cX1_opens : ByteArray := prog_3_method_10_code
def yX1_opens : MethodName := ⟨RX1, "opens", "(I)Z"⟩
abbrev cX1_takesFigure : ByteArray := prog_3_method_11_code
def yX1_takesFigure : MethodName := ⟨RX1, "takesFigure", "(I)Z"⟩
abbrev cX1_make : ByteArray := prog_3_method_12_code
def yX1_make : MethodName := ⟨RX1, "make", "(I)V"⟩
def RX2 : String := "PricedCopies$Page"
def TX2 : u_T := fun k => match k with
  | 0 => ("PricedCopies$Page", "signs", "[I", true)
  | _ => ("PricedCopies$Page", "size", "I", false)
def tyX2 : Nat → FieldType := fun k => match k with
  | 0 => .array .int
  | _ => .int
abbrev wsX20 : List Cond := u_ws RX2 TX2 2
theorem nmX2 : ∀ a, a < 2 → ∀ b, b < 2 → a ≠ b → (TX2 a).2.1 ≠ (TX2 b).2.1 := by decide +kernel
theorem tyX2_ok : ∀ k, k < 2 → parseFieldDescriptor (TX2 k).2.2.1 = some (tyX2 k) := by decide +kernel
abbrev cX2_init : ByteArray := prog_4_method_1_code
def yX2_init : MethodName := ⟨RX2, "<init>", "()V"⟩
abbrev cX2_isFull : ByteArray := prog_4_method_2_code
def yX2_isFull : MethodName := ⟨RX2, "isFull", "()Z"⟩
abbrev cX2_size : ByteArray := prog_4_method_3_code
def yX2_size : MethodName := ⟨RX2, "size", "()I"⟩
abbrev cX2_clear : ByteArray := prog_4_method_4_code
def yX2_clear : MethodName := ⟨RX2, "clear", "()V"⟩
abbrev cX2_add : ByteArray := prog_4_method_5_code
def yX2_add : MethodName := ⟨RX2, "add", "(I)V"⟩
abbrev cX2_signAt : ByteArray := prog_4_method_6_code
def yX2_signAt : MethodName := ⟨RX2, "signAt", "(I)I"⟩
abbrev cX2_textFault : ByteArray := prog_4_method_7_code
def yX2_textFault : MethodName := ⟨RX2, "textFault", "()I"⟩
abbrev cX2_isText : ByteArray := prog_4_method_8_code
def yX2_isText : MethodName := ⟨RX2, "isText", "()Z"⟩
def RX3 : String := "PricedCopies$Prices"
def TX3 : u_T := fun k => match k with
  | 0 => ("PricedCopies$Prices", "values", "[I", true)
  | _ => ("PricedCopies$Prices", "taken", "[I", true)
def tyX3 : Nat → FieldType := fun k => match k with
  | 0 => .array .int
  | _ => .array .int
abbrev wsX30 : List Cond := u_ws RX3 TX3 2
theorem nmX3 : ∀ a, a < 2 → ∀ b, b < 2 → a ≠ b → (TX3 a).2.1 ≠ (TX3 b).2.1 := by decide +kernel
theorem tyX3_ok : ∀ k, k < 2 → parseFieldDescriptor (TX3 k).2.2.1 = some (tyX3 k) := by decide +kernel
abbrev cX3_init : ByteArray := prog_5_method_1_code
def yX3_init : MethodName := ⟨RX3, "<init>", "()V"⟩
abbrev cX3_get : ByteArray := prog_5_method_2_code
def yX3_get : MethodName := ⟨RX3, "get", "(I)I"⟩
abbrev cX3_set : ByteArray := prog_5_method_3_code
def yX3_set : MethodName := ⟨RX3, "set", "(II)V"⟩
abbrev cX3_take : ByteArray := prog_5_method_4_code
def yX3_take : MethodName := ⟨RX3, "take", "(LPricedCopies$Prices;)V"⟩
abbrev cX3_ofToken : ByteArray := prog_5_method_5_code
def yX3_ofToken : MethodName := ⟨RX3, "ofToken", "(I)I"⟩
abbrev cX3_ofRow : ByteArray := prog_5_method_6_code
def yX3_ofRow : MethodName := ⟨RX3, "ofRow", "(LPricedCopies$TokenRow;)I"⟩
abbrev cX3_follow : ByteArray := prog_5_method_7_code
def yX3_follow : MethodName := ⟨RX3, "follow", "(LPricedCopies$TokenRow;)I"⟩
abbrev cX3_reprice : ByteArray := prog_5_method_8_code
def yX3_reprice : MethodName := ⟨RX3, "reprice", "(III)I"⟩
abbrev cX3_countTaken : ByteArray := prog_5_method_9_code
def yX3_countTaken : MethodName := ⟨RX3, "countTaken", "(LPricedCopies$TokenRow;)V"⟩
abbrev cX3_countOne : ByteArray := prog_5_method_10_code
def yX3_countOne : MethodName := ⟨RX3, "countOne", "(I)V"⟩
def RX4 : String := "PricedCopies$Text"
def TX4 : u_T := fun k => match k with
  | 0 => ("PricedCopies$Text", "letters", "[I", true)
  | 1 => ("PricedCopies$Text", "alike", "[[I", true)
  | _ => ("PricedCopies$Text", "size", "I", false)
def tyX4 : Nat → FieldType := fun k => match k with
  | 0 => .array .int
  | 1 => .array (.array .int)
  | _ => .int
abbrev wsX40 : List Cond := u_ws RX4 TX4 3
theorem nmX4 : ∀ a, a < 3 → ∀ b, b < 3 → a ≠ b → (TX4 a).2.1 ≠ (TX4 b).2.1 := by decide +kernel
theorem tyX4_ok : ∀ k, k < 3 → parseFieldDescriptor (TX4 k).2.2.1 = some (tyX4 k) := by decide +kernel
abbrev cX4_init : ByteArray := prog_6_method_1_code
def yX4_init : MethodName := ⟨RX4, "<init>", "()V"⟩
abbrev cX4_clear : ByteArray := prog_6_method_2_code
def yX4_clear : MethodName := ⟨RX4, "clear", "()V"⟩
abbrev cX4_add : ByteArray := prog_6_method_3_code
def yX4_add : MethodName := ⟨RX4, "add", "(I)V"⟩
abbrev cX4_size : ByteArray := prog_6_method_4_code
def yX4_size : MethodName := ⟨RX4, "size", "()I"⟩
abbrev cX4_has : ByteArray := prog_6_method_5_code
def yX4_has : MethodName := ⟨RX4, "has", "(I)Z"⟩
abbrev cX4_letterAt : ByteArray := prog_6_method_6_code
def yX4_letterAt : MethodName := ⟨RX4, "letterAt", "(I)I"⟩
abbrev cX4_compare : ByteArray := prog_6_method_7_code
def yX4_compare : MethodName := ⟨RX4, "compare", "()V"⟩
abbrev cX4_likeness : ByteArray := prog_6_method_8_code
def yX4_likeness : MethodName := ⟨RX4, "likeness", "(II)I"⟩
abbrev cX4_longestDistance : ByteArray := prog_6_method_9_code
def yX4_longestDistance : MethodName := ⟨RX4, "longestDistance", "(I)I"⟩
abbrev cX4_chainPlace : ByteArray := prog_6_method_10_code
def yX4_chainPlace : MethodName := ⟨RX4, "chainPlace", "(II)I"⟩
def RX5 : String := "PricedCopies$Token"
def TX5 : u_T := fun k => match k with
  | _ => ("", "", "", false)
def tyX5 : Nat → FieldType := fun k => match k with
  | _ => .int
abbrev wsX50 : List Cond := u_ws RX5 TX5 0
theorem nmX5 : ∀ a, a < 0 → ∀ b, b < 0 → a ≠ b → (TX5 a).2.1 ≠ (TX5 b).2.1 := by decide +kernel
theorem tyX5_ok : ∀ k, k < 0 → parseFieldDescriptor (TX5 k).2.2.1 = some (tyX5 k) := by decide +kernel
abbrev cX5_again : ByteArray := prog_7_method_2_code
def yX5_again : MethodName := ⟨RX5, "again", "(I)I"⟩
abbrev cX5_copy : ByteArray := prog_7_method_3_code
def yX5_copy : MethodName := ⟨RX5, "copy", "(II)I"⟩
abbrev cX5_isPlain : ByteArray := prog_7_method_4_code
def yX5_isPlain : MethodName := ⟨RX5, "isPlain", "(I)Z"⟩
abbrev cX5_isCopy : ByteArray := prog_7_method_5_code
def yX5_isCopy : MethodName := ⟨RX5, "isCopy", "(I)Z"⟩
abbrev cX5_lengthOf : ByteArray := prog_7_method_6_code
def yX5_lengthOf : MethodName := ⟨RX5, "lengthOf", "(I)I"⟩
abbrev cX5_distanceOf : ByteArray := prog_7_method_7_code
def yX5_distanceOf : MethodName := ⟨RX5, "distanceOf", "(I)I"⟩
abbrev cX5_signsOf : ByteArray := prog_7_method_8_code
def yX5_signsOf : MethodName := ⟨RX5, "signsOf", "(I)I"⟩
abbrev cX5_signOf : ByteArray := prog_7_method_9_code
def yX5_signOf : MethodName := ⟨RX5, "signOf", "(II)I"⟩
def RX6 : String := "PricedCopies$TokenRow"
def TX6 : u_T := fun k => match k with
  | 0 => ("PricedCopies$TokenRow", "tokens", "[I", true)
  | 1 => ("PricedCopies$TokenRow", "size", "I", false)
  | 2 => ("PricedCopies$TokenRow", "plains", "I", false)
  | _ => ("PricedCopies$TokenRow", "copies", "I", false)
def tyX6 : Nat → FieldType := fun k => match k with
  | 0 => .array .int
  | 1 => .int
  | 2 => .int
  | _ => .int
abbrev wsX60 : List Cond := u_ws RX6 TX6 4
theorem nmX6 : ∀ a, a < 4 → ∀ b, b < 4 → a ≠ b → (TX6 a).2.1 ≠ (TX6 b).2.1 := by decide +kernel
theorem tyX6_ok : ∀ k, k < 4 → parseFieldDescriptor (TX6 k).2.2.1 = some (tyX6 k) := by decide +kernel
abbrev cX6_init : ByteArray := prog_8_method_1_code
def yX6_init : MethodName := ⟨RX6, "<init>", "()V"⟩
abbrev cX6_clear : ByteArray := prog_8_method_2_code
def yX6_clear : MethodName := ⟨RX6, "clear", "()V"⟩
abbrev cX6_add : ByteArray := prog_8_method_3_code
def yX6_add : MethodName := ⟨RX6, "add", "(I)V"⟩
abbrev cX6_size : ByteArray := prog_8_method_4_code
def yX6_size : MethodName := ⟨RX6, "size", "()I"⟩
abbrev cX6_plains : ByteArray := prog_8_method_5_code
def yX6_plains : MethodName := ⟨RX6, "plains", "()I"⟩
abbrev cX6_copies : ByteArray := prog_8_method_6_code
def yX6_copies : MethodName := ⟨RX6, "copies", "()I"⟩
abbrev cX6_agains : ByteArray := prog_8_method_7_code
def yX6_agains : MethodName := ⟨RX6, "agains", "()I"⟩
abbrev cX6_get : ByteArray := prog_8_method_8_code
def yX6_get : MethodName := ⟨RX6, "get", "(I)I"⟩
abbrev cX6_signs : ByteArray := prog_8_method_9_code
def yX6_signs : MethodName := ⟨RX6, "signs", "()I"⟩
abbrev cX6_signAt : ByteArray := prog_8_method_10_code
def yX6_signAt : MethodName := ⟨RX6, "signAt", "(I)I"⟩
def RX7 : String := "PricedCopies"
def TX7 : u_T := fun k => match k with
  | 0 => ("PricedCopies", "page", "LPricedCopies$Page;", true)
  | 1 => ("PricedCopies", "reader", "LPricedCopies$CodeReader;", true)
  | 2 => ("PricedCopies", "told", "LPricedCopies$Text;", true)
  | 3 => ("PricedCopies", "prices", "LPricedCopies$Prices;", true)
  | 4 => ("PricedCopies", "chooser", "LPricedCopies$Chooser;", true)
  | 5 => ("PricedCopies", "cheapestRow", "LPricedCopies$TokenRow;", true)
  | 6 => ("PricedCopies", "greedyRow", "LPricedCopies$TokenRow;", true)
  | 7 => ("PricedCopies", "trialPrices", "LPricedCopies$Prices;", true)
  | 8 => ("PricedCopies", "trialRow", "LPricedCopies$TokenRow;", true)
  | 9 => ("PricedCopies", "cheapestKnown", "Z", false)
  | 10 => ("PricedCopies", "restKnown", "Z", false)
  | 11 => ("PricedCopies", "restRounds", "I", false)
  | 12 => ("PricedCopies", "restPrice", "I", false)
  | 13 => ("PricedCopies", "restTokens", "I", false)
  | 14 => ("PricedCopies", "roundsMade", "I", false)
  | 15 => ("PricedCopies", "textsRead", "I", false)
  | _ => ("PricedCopies", "codesRead", "I", false)
def tyX7 : Nat → FieldType := fun k => match k with
  | 0 => .object "PricedCopies$Page"
  | 1 => .object "PricedCopies$CodeReader"
  | 2 => .object "PricedCopies$Text"
  | 3 => .object "PricedCopies$Prices"
  | 4 => .object "PricedCopies$Chooser"
  | 5 => .object "PricedCopies$TokenRow"
  | 6 => .object "PricedCopies$TokenRow"
  | 7 => .object "PricedCopies$Prices"
  | 8 => .object "PricedCopies$TokenRow"
  | 9 => .boolean
  | 10 => .boolean
  | 11 => .int
  | 12 => .int
  | 13 => .int
  | 14 => .int
  | 15 => .int
  | _ => .int
abbrev wsX70 : List Cond := u_ws RX7 TX7 17
theorem nmX7 : ∀ a, a < 17 → ∀ b, b < 17 → a ≠ b → (TX7 a).2.1 ≠ (TX7 b).2.1 := by decide +kernel
theorem tyX7_ok : ∀ k, k < 17 → parseFieldDescriptor (TX7 k).2.2.1 = some (tyX7 k) := by decide +kernel
abbrev cX7_init : ByteArray := prog_1_method_1_code
def yX7_init : MethodName := ⟨RX7, "<init>", "()V"⟩
abbrev cX7_letter : ByteArray := prog_1_method_2_code
def yX7_letter : MethodName := ⟨RX7, "letter", "(I)I"⟩
abbrev cX7_blank : ByteArray := prog_1_method_3_code
def yX7_blank : MethodName := ⟨RX7, "blank", "()I"⟩
abbrev cX7_fault : ByteArray := prog_1_method_4_code
def yX7_fault : MethodName := ⟨RX7, "fault", "(Z)I"⟩
abbrev cX7_text : ByteArray := prog_1_method_5_code
def yX7_text : MethodName := ⟨RX7, "text", "()I"⟩
abbrev cX7_decode : ByteArray := prog_1_method_6_code
def yX7_decode : MethodName := ⟨RX7, "decode", "()I"⟩
abbrev cX7_priced : ByteArray := prog_1_method_7_code
def yX7_priced : MethodName := ⟨RX7, "priced", "()I"⟩
abbrev cX7_price : ByteArray := prog_1_method_8_code
def yX7_price : MethodName := ⟨RX7, "price", "(II)I"⟩
abbrev cX7_priceOf : ByteArray := prog_1_method_9_code
def yX7_priceOf : MethodName := ⟨RX7, "priceOf", "(I)I"⟩
abbrev cX7_round : ByteArray := prog_1_method_10_code
def yX7_round : MethodName := ⟨RX7, "round", "()I"⟩
abbrev cX7_rest : ByteArray := prog_1_method_11_code
def yX7_rest : MethodName := ⟨RX7, "rest", "(I)I"⟩
abbrev cX7_at : ByteArray := prog_1_method_12_code
def yX7_at : MethodName := ⟨RX7, "at", "(I)I"⟩
abbrev cX7_longest : ByteArray := prog_1_method_13_code
def yX7_longest : MethodName := ⟨RX7, "longest", "(II)I"⟩
abbrev cX7_chain : ByteArray := prog_1_method_14_code
def yX7_chain : MethodName := ⟨RX7, "chain", "(II)I"⟩
abbrev cX7_cheapest : ByteArray := prog_1_method_15_code
def yX7_cheapest : MethodName := ⟨RX7, "cheapest", "(I)I"⟩
abbrev cX7_codeOf : ByteArray := prog_1_method_16_code
def yX7_codeOf : MethodName := ⟨RX7, "codeOf", "(I)I"⟩
abbrev cX7_greedy : ByteArray := prog_1_method_17_code
def yX7_greedy : MethodName := ⟨RX7, "greedy", "(I)I"⟩
abbrev cX7_parts : ByteArray := prog_1_method_18_code
def yX7_parts : MethodName := ⟨RX7, "parts", "(II)I"⟩
abbrev cX7_count : ByteArray := prog_1_method_19_code
def yX7_count : MethodName := ⟨RX7, "count", "(I)I"⟩
abbrev cX7_digest : ByteArray := prog_1_method_20_code
def yX7_digest : MethodName := ⟨RX7, "digest", "()J"⟩
abbrev cX7_hasText : ByteArray := prog_1_method_21_code
def yX7_hasText : MethodName := ⟨RX7, "hasText", "()Z"⟩
abbrev cX7_isPrice : ByteArray := prog_1_method_22_code
def yX7_isPrice : MethodName := ⟨RX7, "isPrice", "(I)Z"⟩
abbrev cX7_takeText : ByteArray := prog_1_method_23_code
def yX7_takeText : MethodName := ⟨RX7, "takeText", "()V"⟩
abbrev cX7_forget : ByteArray := prog_1_method_24_code
def yX7_forget : MethodName := ⟨RX7, "forget", "()V"⟩
abbrev cX7_chooseCheapest : ByteArray := prog_1_method_25_code
def yX7_chooseCheapest : MethodName := ⟨RX7, "chooseCheapest", "()V"⟩
abbrev cX7_chooseGreedy : ByteArray := prog_1_method_26_code
def yX7_chooseGreedy : MethodName := ⟨RX7, "chooseGreedy", "()V"⟩
abbrev cX7_priceOfParts : ByteArray := prog_1_method_27_code
def yX7_priceOfParts : MethodName := ⟨RX7, "priceOfParts", "(I)I"⟩
abbrev cX7_findRest : ByteArray := prog_1_method_28_code
def yX7_findRest : MethodName := ⟨RX7, "findRest", "()V"⟩
abbrev cX7_mix : ByteArray := prog_1_method_29_code
def yX7_mix : MethodName := ⟨RX7, "mix", "(JJ)J"⟩
abbrev cX7_log : ByteArray := prog_1_method_30_code
def yX7_log : MethodName := ⟨RX7, "log", "(I)I"⟩
def RX8 : String := "PricedCopiesModel"
def TX8 : u_T := fun k => match k with
  | 0 => ("PricedCopiesModel", "pageLength", "I", false)
  | 1 => ("PricedCopiesModel", "page", "[I", true)
  | 2 => ("PricedCopiesModel", "size", "I", false)
  | 3 => ("PricedCopiesModel", "text", "[I", true)
  | 4 => ("PricedCopiesModel", "prices", "[I", true)
  | 5 => ("PricedCopiesModel", "rounds", "I", false)
  | 6 => ("PricedCopiesModel", "texts", "I", false)
  | 7 => ("PricedCopiesModel", "codes", "I", false)
  | 8 => ("PricedCopiesModel", "made", "[I", true)
  | 9 => ("PricedCopiesModel", "madeMany", "I", false)
  | 10 => ("PricedCopiesModel", "cost", "I", false)
  | 11 => ("PricedCopiesModel", "readAt", "I", false)
  | 12 => ("PricedCopiesModel", "isCode", "Z", false)
  | 13 => ("PricedCopiesModel", "price", "[I", true)
  | 14 => ("PricedCopiesModel", "many", "[I", true)
  | 15 => ("PricedCopiesModel", "first", "[I", true)
  | 16 => ("PricedCopiesModel", "like", "[I", true)
  | 17 => ("PricedCopiesModel", "token", "[I", true)
  | 18 => ("PricedCopiesModel", "tokens", "I", false)
  | 19 => ("PricedCopiesModel", "taken", "[I", true)
  | 20 => ("PricedCopiesModel", "then", "[I", true)
  | 21 => ("PricedCopiesModel", "saved", "[I", true)
  | 22 => ("PricedCopiesModel", "rests", "[I", true)
  | _ => ("PricedCopiesModel", "h", "J", false)
def tyX8 : Nat → FieldType := fun k => match k with
  | 0 => .int
  | 1 => .array .int
  | 2 => .int
  | 3 => .array .int
  | 4 => .array .int
  | 5 => .int
  | 6 => .int
  | 7 => .int
  | 8 => .array .int
  | 9 => .int
  | 10 => .int
  | 11 => .int
  | 12 => .boolean
  | 13 => .array .int
  | 14 => .array .int
  | 15 => .array .int
  | 16 => .array .int
  | 17 => .array .int
  | 18 => .int
  | 19 => .array .int
  | 20 => .array .int
  | 21 => .array .int
  | 22 => .array .int
  | _ => .long
abbrev wsX80 : List Cond := u_ws RX8 TX8 24
theorem nmX8 : ∀ a, a < 24 → ∀ b, b < 24 → a ≠ b → (TX8 a).2.1 ≠ (TX8 b).2.1 := by decide +kernel
theorem tyX8_ok : ∀ k, k < 24 → parseFieldDescriptor (TX8 k).2.2.1 = some (tyX8 k) := by decide +kernel
abbrev cX8_init : ByteArray := prog_10_method_1_code
def yX8_init : MethodName := ⟨RX8, "<init>", "()V"⟩
abbrev cX8_within : ByteArray := prog_10_method_3_code
def yX8_within : MethodName := ⟨RX8, "within", "(III)Z"⟩
abbrev cX8_letter : ByteArray := prog_10_method_4_code
def yX8_letter : MethodName := ⟨RX8, "letter", "(I)I"⟩
abbrev cX8_blank : ByteArray := prog_10_method_5_code
def yX8_blank : MethodName := ⟨RX8, "blank", "()I"⟩
abbrev cX8_textFault : ByteArray := prog_10_method_6_code
def yX8_textFault : MethodName := ⟨RX8, "textFault", "()I"⟩
abbrev cX8_farOf : ByteArray := prog_10_method_7_code
def yX8_farOf : MethodName := ⟨RX8, "farOf", "(I)I"⟩
abbrev cX8_copyPrice : ByteArray := prog_10_method_8_code
def yX8_copyPrice : MethodName := ⟨RX8, "copyPrice", "(II)I"⟩
abbrev cX8_againPrice : ByteArray := prog_10_method_9_code
def yX8_againPrice : MethodName := ⟨RX8, "againPrice", "(I)I"⟩
abbrev cX8_copy : ByteArray := prog_10_method_10_code
def yX8_copy : MethodName := ⟨RX8, "copy", "(II)V"⟩
abbrev cX8_readCode : ByteArray := prog_10_method_11_code
def yX8_readCode : MethodName := ⟨RX8, "readCode", "()V"⟩
abbrev cX8_fault : ByteArray := prog_10_method_12_code
def yX8_fault : MethodName := ⟨RX8, "fault", "(Z)I"⟩
abbrev cX8_text : ByteArray := prog_10_method_13_code
def yX8_text : MethodName := ⟨RX8, "text", "()I"⟩
abbrev cX8_decode : ByteArray := prog_10_method_14_code
def yX8_decode : MethodName := ⟨RX8, "decode", "()I"⟩
abbrev cX8_priced : ByteArray := prog_10_method_15_code
def yX8_priced : MethodName := ⟨RX8, "priced", "()I"⟩
abbrev cX8_isPrice : ByteArray := prog_10_method_16_code
def yX8_isPrice : MethodName := ⟨RX8, "isPrice", "(I)Z"⟩
abbrev cX8_price : ByteArray := prog_10_method_17_code
def yX8_price : MethodName := ⟨RX8, "price", "(II)I"⟩
abbrev cX8_priceOf : ByteArray := prog_10_method_18_code
def yX8_priceOf : MethodName := ⟨RX8, "priceOf", "(I)I"⟩
abbrev cX8_likeness : ByteArray := prog_10_method_19_code
def yX8_likeness : MethodName := ⟨RX8, "likeness", "(III)I"⟩
abbrev cX8_isPlace : ByteArray := prog_10_method_20_code
def yX8_isPlace : MethodName := ⟨RX8, "isPlace", "(I)Z"⟩
abbrev cX8_at : ByteArray := prog_10_method_21_code
def yX8_at : MethodName := ⟨RX8, "at", "(I)I"⟩
abbrev cX8_farLongest : ByteArray := prog_10_method_22_code
def yX8_farLongest : MethodName := ⟨RX8, "farLongest", "(I)I"⟩
abbrev cX8_longestNow : ByteArray := prog_10_method_23_code
def yX8_longestNow : MethodName := ⟨RX8, "longestNow", "(II)I"⟩
abbrev cX8_longest : ByteArray := prog_10_method_24_code
def yX8_longest : MethodName := ⟨RX8, "longest", "(II)I"⟩
abbrev cX8_chainNow : ByteArray := prog_10_method_25_code
def yX8_chainNow : MethodName := ⟨RX8, "chainNow", "(II)I"⟩
abbrev cX8_chain : ByteArray := prog_10_method_26_code
def yX8_chain : MethodName := ⟨RX8, "chain", "(II)I"⟩
abbrev cX8_way : ByteArray := prog_10_method_27_code
def yX8_way : MethodName := ⟨RX8, "way", "(IIII)V"⟩
abbrev cX8_layState : ByteArray := prog_10_method_28_code
def yX8_layState : MethodName := ⟨RX8, "layState", "(III)V"⟩
abbrev cX8_layCheapest : ByteArray := prog_10_method_29_code
def yX8_layCheapest : MethodName := ⟨RX8, "layCheapest", "(II)I"⟩
abbrev cX8_lengthOf : ByteArray := prog_10_method_30_code
def yX8_lengthOf : MethodName := ⟨RX8, "lengthOf", "(I)I"⟩
abbrev cX8_layTokens : ByteArray := prog_10_method_31_code
def yX8_layTokens : MethodName := ⟨RX8, "layTokens", "()V"⟩
abbrev cX8_lettersOf : ByteArray := prog_10_method_32_code
def yX8_lettersOf : MethodName := ⟨RX8, "lettersOf", "()I"⟩
abbrev cX8_cheapestTold : ByteArray := prog_10_method_33_code
def yX8_cheapestTold : MethodName := ⟨RX8, "cheapestTold", "(I)I"⟩
abbrev cX8_cheapest : ByteArray := prog_10_method_34_code
def yX8_cheapest : MethodName := ⟨RX8, "cheapest", "(I)I"⟩
abbrev cX8_codeNow : ByteArray := prog_10_method_35_code
def yX8_codeNow : MethodName := ⟨RX8, "codeNow", "(I)I"⟩
abbrev cX8_codeOf : ByteArray := prog_10_method_36_code
def yX8_codeOf : MethodName := ⟨RX8, "codeOf", "(I)I"⟩
abbrev cX8_greedyNow : ByteArray := prog_10_method_37_code
def yX8_greedyNow : MethodName := ⟨RX8, "greedyNow", "(I)I"⟩
abbrev cX8_greedy : ByteArray := prog_10_method_38_code
def yX8_greedy : MethodName := ⟨RX8, "greedy", "(I)I"⟩
abbrev cX8_partsPrice : ByteArray := prog_10_method_39_code
def yX8_partsPrice : MethodName := ⟨RX8, "partsPrice", "(I)I"⟩
abbrev cX8_partsNow : ByteArray := prog_10_method_40_code
def yX8_partsNow : MethodName := ⟨RX8, "partsNow", "(II)I"⟩
abbrev cX8_parts : ByteArray := prog_10_method_41_code
def yX8_parts : MethodName := ⟨RX8, "parts", "(II)I"⟩
abbrev cX8_log : ByteArray := prog_10_method_42_code
def yX8_log : MethodName := ⟨RX8, "log", "(I)I"⟩
abbrev cX8_layTaken : ByteArray := prog_10_method_43_code
def yX8_layTaken : MethodName := ⟨RX8, "layTaken", "()V"⟩
abbrev cX8_sum : ByteArray := prog_10_method_44_code
def yX8_sum : MethodName := ⟨RX8, "sum", "(II)I"⟩
abbrev cX8_layThen : ByteArray := prog_10_method_45_code
def yX8_layThen : MethodName := ⟨RX8, "layThen", "()I"⟩
abbrev cX8_become : ByteArray := prog_10_method_46_code
def yX8_become : MethodName := ⟨RX8, "become", "()V"⟩
abbrev cX8_roundNow : ByteArray := prog_10_method_47_code
def yX8_roundNow : MethodName := ⟨RX8, "roundNow", "()I"⟩
abbrev cX8_round : ByteArray := prog_10_method_48_code
def yX8_round : MethodName := ⟨RX8, "round", "()I"⟩
abbrev cX8_layRest : ByteArray := prog_10_method_49_code
def yX8_layRest : MethodName := ⟨RX8, "layRest", "()V"⟩
abbrev cX8_rest : ByteArray := prog_10_method_50_code
def yX8_rest : MethodName := ⟨RX8, "rest", "(I)I"⟩
abbrev cX8_tokensOf : ByteArray := prog_10_method_51_code
def yX8_tokensOf : MethodName := ⟨RX8, "tokensOf", "(I)I"⟩
abbrev cX8_howMany : ByteArray := prog_10_method_52_code
def yX8_howMany : MethodName := ⟨RX8, "howMany", "(I)I"⟩
abbrev cX8_count : ByteArray := prog_10_method_53_code
def yX8_count : MethodName := ⟨RX8, "count", "(I)I"⟩
abbrev cX8_mix : ByteArray := prog_10_method_54_code
def yX8_mix : MethodName := ⟨RX8, "mix", "(J)V"⟩
abbrev cX8_mixText : ByteArray := prog_10_method_55_code
def yX8_mixText : MethodName := ⟨RX8, "mixText", "()V"⟩
abbrev cX8_digest : ByteArray := prog_10_method_56_code
def yX8_digest : MethodName := ⟨RX8, "digest", "()J"⟩
def RJx8e188 : String := "java/lang/Cloneable"
def TJx8e188 : u_T := fun k => match k with
  | _ => ("", "", "", false)
def tyJx8e188 : Nat → FieldType := fun k => match k with
  | _ => .int
abbrev wsJx8e1880 : List Cond := u_ws RJx8e188 TJx8e188 0
theorem nmJx8e188 : ∀ a, a < 0 → ∀ b, b < 0 → a ≠ b → (TJx8e188 a).2.1 ≠ (TJx8e188 b).2.1 := by decide +kernel
theorem tyJx8e188_ok : ∀ k, k < 0 → parseFieldDescriptor (TJx8e188 k).2.2.1 = some (tyJx8e188 k) := by decide +kernel
def RJ9 : String := "java/lang/Math"
def TJ9 : u_T := fun k => match k with
  | _ => ("", "", "", false)
def tyJ9 : Nat → FieldType := fun k => match k with
  | _ => .int
abbrev wsJ90 : List Cond := u_ws RJ9 TJ9 0
theorem nmJ9 : ∀ a, a < 0 → ∀ b, b < 0 → a ≠ b → (TJ9 a).2.1 ≠ (TJ9 b).2.1 := by decide +kernel
theorem tyJ9_ok : ∀ k, k < 0 → parseFieldDescriptor (TJ9 k).2.2.1 = some (tyJ9 k) := by decide +kernel
abbrev cJ9_max_7cf53 : ByteArray := prog_12_method_65_code
def yJ9_max_7cf53 : MethodName := ⟨RJ9, "max", "(II)I"⟩
abbrev cJ9_min_7cf53 : ByteArray := prog_12_method_69_code
def yJ9_min_7cf53 : MethodName := ⟨RJ9, "min", "(II)I"⟩
def RL : String := "PricedCopiesLaw"
abbrev cL_law : ByteArray := code
def yL_law : MethodName := ⟨RL, "law", "([I)Z"⟩
end
section
/-- the words that stay good over a call -/
def lw_good : List Cond := lw_tbl.filter goodWord
theorem lw_mem {w : Cond} (i : Nat) (h : (lw_tbl[i]? == some w && goodWord w) = true) : w ∈ lw_good := by
  simp only [Bool.and_eq_true, beq_iff_eq] at h
  exact List.mem_filter.mpr ⟨List.mem_of_getElem? h.1, h.2⟩
theorem lw_memT {w : Cond} (i : Nat) (h : (lw_tbl[i]? == some w) = true) : w ∈ lw_tbl := by
  simp only [beq_iff_eq] at h
  exact List.mem_of_getElem? h
theorem lw_allgood : ∀ w ∈ lw_good, (w.onTables && w.keeps) = true ∨ ∃ ty, w = .arrayClass ty := fun _ h => good_of_word (List.mem_filter.mp h).2
theorem lw_goodIn {y : MethodName} {cc : ByteArray} {maxL : Nat} {ret : Option FieldType} (h : Cond.code y cc maxL ret ∈ lw_good) : GoodIn lw_good (Cond.code y cc maxL ret :: lw_good) := by
  intro w hw
  rcases List.mem_cons.mp hw with rfl | hw
  · exact ⟨h, lw_allgood _ h⟩
  · exact ⟨hw, lw_allgood _ hw⟩

theorem q_0 : Cond.initialized RL ∈ lw_good := lw_mem 49 (by decide +kernel)
theorem q_1 : Cond.initialized RX7 ∈ lw_good := lw_mem 50 (by decide +kernel)
theorem q_2 : Cond.initialized RX2 ∈ lw_good := lw_mem 51 (by decide +kernel)
theorem q_3 : Cond.initialized RX1 ∈ lw_good := lw_mem 52 (by decide +kernel)
theorem q_4 : Cond.initialized RX6 ∈ lw_good := lw_mem 53 (by decide +kernel)
theorem q_5 : Cond.initialized RX4 ∈ lw_good := lw_mem 54 (by decide +kernel)
theorem q_6 : Cond.initialized RX3 ∈ lw_good := lw_mem 55 (by decide +kernel)
theorem q_7 : Cond.initialized RX0 ∈ lw_good := lw_mem 56 (by decide +kernel)
theorem q_8 : Cond.initialized RX8 ∈ lw_good := lw_mem 57 (by decide +kernel)
theorem q_9 : Cond.initialized RX5 ∈ lw_good := lw_mem 58 (by decide +kernel)
theorem q_10 : Cond.initialized "java/lang/Math" ∈ lw_good := lw_mem 59 (by decide +kernel)
theorem q_11 : Cond.classLink RL 7 RX7 ∈ lw_good := lw_mem 60 (by decide +kernel)
theorem q_12 : Cond.instantiable RX7 17 ∈ lw_good := lw_mem 61 (by decide +kernel)
theorem q_13 : Cond.methodLink RL 9 yX7_init ∈ lw_good := lw_mem 62 (by decide +kernel)
theorem q_14 : Cond.instanceMethod yX7_init ∈ lw_good := lw_mem 63 (by decide +kernel)
theorem q_15 : Cond.code yX7_init cX7_init 1 none ∈ lw_good := lw_mem 64 (by decide +kernel)
theorem q_16 : Cond.methodLink RX7 1 objectInit ∈ lw_good := lw_mem 65 (by decide +kernel)
theorem q_17 : Cond.instanceMethod objectInit ∈ lw_good := lw_mem 66 (by decide +kernel)
theorem q_19 : Cond.classLink RX7 7 RX2 ∈ lw_good := lw_mem 68 (by decide +kernel)
theorem q_20 : Cond.instantiable RX2 2 ∈ lw_good := lw_mem 69 (by decide +kernel)
theorem q_21 : Cond.methodLinkNest RX7 9 yX2_init "PricedCopies" ∈ lw_tbl := lw_memT 70 (by decide +kernel)
theorem q_22 : Cond.instanceMethod yX2_init ∈ lw_good := lw_mem 71 (by decide +kernel)
theorem q_23 : Cond.code yX2_init cX2_init 1 none ∈ lw_good := lw_mem 72 (by decide +kernel)
theorem q_24 : Cond.methodLink RX2 3 objectInit ∈ lw_good := lw_mem 73 (by decide +kernel)
theorem q_25 : Cond.fieldLink RX2 9 "PricedCopies$Page" "signs" "[I" ∈ lw_good := lw_mem 74 (by decide +kernel)
theorem q_26 : Cond.fieldLink RX2 15 "PricedCopies$Page" "size" "I" ∈ lw_good := lw_mem 75 (by decide +kernel)
theorem q_27 : Cond.laysFinal RX2 "PricedCopies$Page" "signs" "[I" ∈ lw_good := lw_mem 76 (by decide +kernel)
theorem q_29 : Cond.lays RX2 "PricedCopies$Page" "size" "I" ∈ lw_good := lw_mem 78 (by decide +kernel)
theorem q_32 : Cond.arrayClass .int ∈ lw_good := lw_mem 81 (by decide +kernel)
theorem q_33 : Cond.classLink RX7 16 RX1 ∈ lw_good := lw_mem 82 (by decide +kernel)
theorem q_34 : Cond.instantiable RX1 8 ∈ lw_good := lw_mem 83 (by decide +kernel)
theorem q_35 : Cond.methodLinkNest RX7 18 yX1_init "PricedCopies" ∈ lw_tbl := lw_memT 84 (by decide +kernel)
theorem q_36 : Cond.instanceMethod yX1_init ∈ lw_good := lw_mem 85 (by decide +kernel)
theorem q_37 : Cond.code yX1_init cX1_init 1 none ∈ lw_good := lw_mem 86 (by decide +kernel)
theorem q_38 : Cond.methodLink RX1 3 objectInit ∈ lw_good := lw_mem 87 (by decide +kernel)
theorem q_39 : Cond.classLink RX1 15 RX6 ∈ lw_good := lw_mem 88 (by decide +kernel)
theorem q_40 : Cond.instantiable RX6 4 ∈ lw_good := lw_mem 89 (by decide +kernel)
theorem q_41 : Cond.methodLinkNest RX1 17 yX6_init "PricedCopies" ∈ lw_tbl := lw_memT 90 (by decide +kernel)
theorem q_42 : Cond.instanceMethod yX6_init ∈ lw_good := lw_mem 91 (by decide +kernel)
theorem q_43 : Cond.code yX6_init cX6_init 1 none ∈ lw_good := lw_mem 92 (by decide +kernel)
theorem q_44 : Cond.methodLink RX6 3 objectInit ∈ lw_good := lw_mem 93 (by decide +kernel)
theorem q_45 : Cond.fieldLink RX6 9 "PricedCopies$TokenRow" "tokens" "[I" ∈ lw_good := lw_mem 94 (by decide +kernel)
theorem q_46 : Cond.fieldLink RX6 15 "PricedCopies$TokenRow" "size" "I" ∈ lw_good := lw_mem 95 (by decide +kernel)
theorem q_47 : Cond.fieldLink RX6 19 "PricedCopies$TokenRow" "plains" "I" ∈ lw_good := lw_mem 96 (by decide +kernel)
theorem q_48 : Cond.fieldLink RX6 22 "PricedCopies$TokenRow" "copies" "I" ∈ lw_good := lw_mem 97 (by decide +kernel)
theorem q_49 : Cond.laysFinal RX6 "PricedCopies$TokenRow" "tokens" "[I" ∈ lw_good := lw_mem 98 (by decide +kernel)
theorem q_51 : Cond.lays RX6 "PricedCopies$TokenRow" "size" "I" ∈ lw_good := lw_mem 100 (by decide +kernel)
theorem q_53 : Cond.lays RX6 "PricedCopies$TokenRow" "plains" "I" ∈ lw_good := lw_mem 102 (by decide +kernel)
theorem q_55 : Cond.lays RX6 "PricedCopies$TokenRow" "copies" "I" ∈ lw_good := lw_mem 104 (by decide +kernel)
theorem q_58 : Cond.fieldLink RX1 9 "PricedCopies$CodeReader" "made" "[I" ∈ lw_good := lw_mem 107 (by decide +kernel)
theorem q_59 : Cond.fieldLink RX1 18 "PricedCopies$CodeReader" "row" "LPricedCopies$TokenRow;" ∈ lw_good := lw_mem 108 (by decide +kernel)
theorem q_60 : Cond.fieldLink RX1 22 "PricedCopies$CodeReader" "madeCount" "I" ∈ lw_good := lw_mem 109 (by decide +kernel)
theorem q_61 : Cond.fieldLink RX1 26 "PricedCopies$CodeReader" "latestDistance" "I" ∈ lw_good := lw_mem 110 (by decide +kernel)
theorem q_62 : Cond.fieldLink RX1 29 "PricedCopies$CodeReader" "openDistance" "I" ∈ lw_good := lw_mem 111 (by decide +kernel)
theorem q_63 : Cond.fieldLink RX1 32 "PricedCopies$CodeReader" "openAgain" "Z" ∈ lw_good := lw_mem 112 (by decide +kernel)
theorem q_64 : Cond.fieldLink RX1 36 "PricedCopies$CodeReader" "place" "I" ∈ lw_good := lw_mem 113 (by decide +kernel)
theorem q_65 : Cond.fieldLink RX1 39 "PricedCopies$CodeReader" "faultless" "Z" ∈ lw_good := lw_mem 114 (by decide +kernel)
theorem q_66 : Cond.laysFinal RX1 "PricedCopies$CodeReader" "made" "[I" ∈ lw_good := lw_mem 115 (by decide +kernel)
theorem q_68 : Cond.laysFinal RX1 "PricedCopies$CodeReader" "row" "LPricedCopies$TokenRow;" ∈ lw_good := lw_mem 117 (by decide +kernel)
theorem q_70 : Cond.lays RX1 "PricedCopies$CodeReader" "madeCount" "I" ∈ lw_good := lw_mem 119 (by decide +kernel)
theorem q_72 : Cond.lays RX1 "PricedCopies$CodeReader" "latestDistance" "I" ∈ lw_good := lw_mem 121 (by decide +kernel)
theorem q_74 : Cond.lays RX1 "PricedCopies$CodeReader" "openDistance" "I" ∈ lw_good := lw_mem 123 (by decide +kernel)
theorem q_76 : Cond.lays RX1 "PricedCopies$CodeReader" "openAgain" "Z" ∈ lw_good := lw_mem 125 (by decide +kernel)
theorem q_78 : Cond.lays RX1 "PricedCopies$CodeReader" "place" "I" ∈ lw_good := lw_mem 127 (by decide +kernel)
theorem q_80 : Cond.lays RX1 "PricedCopies$CodeReader" "faultless" "Z" ∈ lw_good := lw_mem 129 (by decide +kernel)
theorem q_83 : Cond.classLink RX7 23 RX4 ∈ lw_good := lw_mem 132 (by decide +kernel)
theorem q_84 : Cond.instantiable RX4 3 ∈ lw_good := lw_mem 133 (by decide +kernel)
theorem q_85 : Cond.methodLinkNest RX7 25 yX4_init "PricedCopies" ∈ lw_tbl := lw_memT 134 (by decide +kernel)
theorem q_86 : Cond.instanceMethod yX4_init ∈ lw_good := lw_mem 135 (by decide +kernel)
theorem q_87 : Cond.code yX4_init cX4_init 1 none ∈ lw_good := lw_mem 136 (by decide +kernel)
theorem q_88 : Cond.methodLink RX4 3 objectInit ∈ lw_good := lw_mem 137 (by decide +kernel)
theorem q_89 : Cond.classLink RX4 15 "[[I" ∈ lw_good := lw_mem 138 (by decide +kernel)
theorem q_91 : Cond.fieldLink RX4 9 "PricedCopies$Text" "letters" "[I" ∈ lw_good := lw_mem 140 (by decide +kernel)
theorem q_92 : Cond.fieldLink RX4 17 "PricedCopies$Text" "alike" "[[I" ∈ lw_good := lw_mem 141 (by decide +kernel)
theorem q_93 : Cond.fieldLink RX4 20 "PricedCopies$Text" "size" "I" ∈ lw_good := lw_mem 142 (by decide +kernel)
theorem q_94 : Cond.laysFinal RX4 "PricedCopies$Text" "letters" "[I" ∈ lw_good := lw_mem 143 (by decide +kernel)
theorem q_96 : Cond.laysFinal RX4 "PricedCopies$Text" "alike" "[[I" ∈ lw_good := lw_mem 145 (by decide +kernel)
theorem q_98 : Cond.lays RX4 "PricedCopies$Text" "size" "I" ∈ lw_good := lw_mem 147 (by decide +kernel)
theorem q_101 : Cond.classLink RX7 30 RX3 ∈ lw_good := lw_mem 150 (by decide +kernel)
theorem q_102 : Cond.instantiable RX3 2 ∈ lw_good := lw_mem 151 (by decide +kernel)
theorem q_103 : Cond.methodLinkNest RX7 32 yX3_init "PricedCopies" ∈ lw_tbl := lw_memT 152 (by decide +kernel)
theorem q_104 : Cond.instanceMethod yX3_init ∈ lw_good := lw_mem 153 (by decide +kernel)
theorem q_105 : Cond.code yX3_init cX3_init 1 none ∈ lw_good := lw_mem 154 (by decide +kernel)
theorem q_106 : Cond.methodLink RX3 3 objectInit ∈ lw_good := lw_mem 155 (by decide +kernel)
theorem q_107 : Cond.fieldLinkNest RX3 9 "PricedCopies" "FIRST_PRICES" "[I" "PricedCopies" ∈ lw_tbl := lw_memT 156 (by decide +kernel)
theorem q_115 : Cond.classLink RX3 14 "[I" ∈ lw_good := lw_mem 164 (by decide +kernel)
theorem q_116 : Cond.fieldLink RX3 18 "PricedCopies$Prices" "values" "[I" ∈ lw_good := lw_mem 165 (by decide +kernel)
theorem q_117 : Cond.fieldLink RX3 23 "PricedCopies$Prices" "taken" "[I" ∈ lw_good := lw_mem 166 (by decide +kernel)
theorem q_118 : Cond.laysFinal RX3 "PricedCopies$Prices" "values" "[I" ∈ lw_good := lw_mem 167 (by decide +kernel)
theorem q_120 : Cond.laysFinal RX3 "PricedCopies$Prices" "taken" "[I" ∈ lw_good := lw_mem 169 (by decide +kernel)
theorem q_123 : Cond.classLink RX7 37 RX0 ∈ lw_good := lw_mem 172 (by decide +kernel)
theorem q_124 : Cond.instantiable RX0 4 ∈ lw_good := lw_mem 173 (by decide +kernel)
theorem q_125 : Cond.methodLinkNest RX7 39 yX0_init "PricedCopies" ∈ lw_tbl := lw_memT 174 (by decide +kernel)
theorem q_126 : Cond.instanceMethod yX0_init ∈ lw_good := lw_mem 175 (by decide +kernel)
theorem q_127 : Cond.code yX0_init cX0_init 1 none ∈ lw_good := lw_mem 176 (by decide +kernel)
theorem q_128 : Cond.methodLink RX0 3 objectInit ∈ lw_good := lw_mem 177 (by decide +kernel)
theorem q_129 : Cond.classLink RX0 9 "[[I" ∈ lw_good := lw_mem 178 (by decide +kernel)
theorem q_130 : Cond.fieldLink RX0 11 "PricedCopies$Chooser" "weights" "[[I" ∈ lw_good := lw_mem 179 (by decide +kernel)
theorem q_131 : Cond.fieldLink RX0 16 "PricedCopies$Chooser" "firsts" "[[I" ∈ lw_good := lw_mem 180 (by decide +kernel)
theorem q_132 : Cond.fieldLink RX0 19 "PricedCopies$Chooser" "bestToken" "I" ∈ lw_good := lw_mem 181 (by decide +kernel)
theorem q_133 : Cond.fieldLink RX0 23 "PricedCopies$Chooser" "bestWeight" "I" ∈ lw_good := lw_mem 182 (by decide +kernel)
theorem q_134 : Cond.laysFinal RX0 "PricedCopies$Chooser" "weights" "[[I" ∈ lw_good := lw_mem 183 (by decide +kernel)
theorem q_136 : Cond.laysFinal RX0 "PricedCopies$Chooser" "firsts" "[[I" ∈ lw_good := lw_mem 185 (by decide +kernel)
theorem q_138 : Cond.lays RX0 "PricedCopies$Chooser" "bestToken" "I" ∈ lw_good := lw_mem 187 (by decide +kernel)
theorem q_140 : Cond.lays RX0 "PricedCopies$Chooser" "bestWeight" "I" ∈ lw_good := lw_mem 189 (by decide +kernel)
theorem q_143 : Cond.classLink RX7 44 RX6 ∈ lw_good := lw_mem 192 (by decide +kernel)
theorem q_144 : Cond.methodLinkNest RX7 46 yX6_init "PricedCopies" ∈ lw_tbl := lw_memT 193 (by decide +kernel)
theorem q_145 : Cond.fieldLink RX7 10 "PricedCopies" "page" "LPricedCopies$Page;" ∈ lw_good := lw_mem 194 (by decide +kernel)
theorem q_146 : Cond.fieldLink RX7 19 "PricedCopies" "reader" "LPricedCopies$CodeReader;" ∈ lw_good := lw_mem 195 (by decide +kernel)
theorem q_147 : Cond.fieldLink RX7 26 "PricedCopies" "told" "LPricedCopies$Text;" ∈ lw_good := lw_mem 196 (by decide +kernel)
theorem q_148 : Cond.fieldLink RX7 33 "PricedCopies" "prices" "LPricedCopies$Prices;" ∈ lw_good := lw_mem 197 (by decide +kernel)
theorem q_149 : Cond.fieldLink RX7 40 "PricedCopies" "chooser" "LPricedCopies$Chooser;" ∈ lw_good := lw_mem 198 (by decide +kernel)
theorem q_150 : Cond.fieldLink RX7 47 "PricedCopies" "cheapestRow" "LPricedCopies$TokenRow;" ∈ lw_good := lw_mem 199 (by decide +kernel)
theorem q_151 : Cond.fieldLink RX7 51 "PricedCopies" "greedyRow" "LPricedCopies$TokenRow;" ∈ lw_good := lw_mem 200 (by decide +kernel)
theorem q_152 : Cond.fieldLink RX7 54 "PricedCopies" "trialPrices" "LPricedCopies$Prices;" ∈ lw_good := lw_mem 201 (by decide +kernel)
theorem q_153 : Cond.fieldLink RX7 57 "PricedCopies" "trialRow" "LPricedCopies$TokenRow;" ∈ lw_good := lw_mem 202 (by decide +kernel)
theorem q_154 : Cond.fieldLink RX7 60 "PricedCopies" "cheapestKnown" "Z" ∈ lw_good := lw_mem 203 (by decide +kernel)
theorem q_155 : Cond.fieldLink RX7 64 "PricedCopies" "restKnown" "Z" ∈ lw_good := lw_mem 204 (by decide +kernel)
theorem q_156 : Cond.fieldLink RX7 67 "PricedCopies" "restRounds" "I" ∈ lw_good := lw_mem 205 (by decide +kernel)
theorem q_157 : Cond.fieldLink RX7 71 "PricedCopies" "restPrice" "I" ∈ lw_good := lw_mem 206 (by decide +kernel)
theorem q_158 : Cond.fieldLink RX7 74 "PricedCopies" "restTokens" "I" ∈ lw_good := lw_mem 207 (by decide +kernel)
theorem q_159 : Cond.fieldLink RX7 77 "PricedCopies" "roundsMade" "I" ∈ lw_good := lw_mem 208 (by decide +kernel)
theorem q_160 : Cond.fieldLink RX7 80 "PricedCopies" "textsRead" "I" ∈ lw_good := lw_mem 209 (by decide +kernel)
theorem q_161 : Cond.fieldLink RX7 83 "PricedCopies" "codesRead" "I" ∈ lw_good := lw_mem 210 (by decide +kernel)
theorem q_162 : Cond.laysFinal RX7 "PricedCopies" "page" "LPricedCopies$Page;" ∈ lw_good := lw_mem 211 (by decide +kernel)
theorem q_164 : Cond.laysFinal RX7 "PricedCopies" "reader" "LPricedCopies$CodeReader;" ∈ lw_good := lw_mem 213 (by decide +kernel)
theorem q_166 : Cond.laysFinal RX7 "PricedCopies" "told" "LPricedCopies$Text;" ∈ lw_good := lw_mem 215 (by decide +kernel)
theorem q_168 : Cond.laysFinal RX7 "PricedCopies" "prices" "LPricedCopies$Prices;" ∈ lw_good := lw_mem 217 (by decide +kernel)
theorem q_170 : Cond.laysFinal RX7 "PricedCopies" "chooser" "LPricedCopies$Chooser;" ∈ lw_good := lw_mem 219 (by decide +kernel)
theorem q_172 : Cond.laysFinal RX7 "PricedCopies" "cheapestRow" "LPricedCopies$TokenRow;" ∈ lw_good := lw_mem 221 (by decide +kernel)
theorem q_174 : Cond.laysFinal RX7 "PricedCopies" "greedyRow" "LPricedCopies$TokenRow;" ∈ lw_good := lw_mem 223 (by decide +kernel)
theorem q_176 : Cond.laysFinal RX7 "PricedCopies" "trialPrices" "LPricedCopies$Prices;" ∈ lw_good := lw_mem 225 (by decide +kernel)
theorem q_178 : Cond.laysFinal RX7 "PricedCopies" "trialRow" "LPricedCopies$TokenRow;" ∈ lw_good := lw_mem 227 (by decide +kernel)
theorem q_180 : Cond.lays RX7 "PricedCopies" "cheapestKnown" "Z" ∈ lw_good := lw_mem 229 (by decide +kernel)
theorem q_182 : Cond.lays RX7 "PricedCopies" "restKnown" "Z" ∈ lw_good := lw_mem 231 (by decide +kernel)
theorem q_184 : Cond.lays RX7 "PricedCopies" "restRounds" "I" ∈ lw_good := lw_mem 233 (by decide +kernel)
theorem q_186 : Cond.lays RX7 "PricedCopies" "restPrice" "I" ∈ lw_good := lw_mem 235 (by decide +kernel)
theorem q_188 : Cond.lays RX7 "PricedCopies" "restTokens" "I" ∈ lw_good := lw_mem 237 (by decide +kernel)
theorem q_190 : Cond.lays RX7 "PricedCopies" "roundsMade" "I" ∈ lw_good := lw_mem 239 (by decide +kernel)
theorem q_192 : Cond.lays RX7 "PricedCopies" "textsRead" "I" ∈ lw_good := lw_mem 241 (by decide +kernel)
theorem q_194 : Cond.lays RX7 "PricedCopies" "codesRead" "I" ∈ lw_good := lw_mem 243 (by decide +kernel)
theorem q_197 : Cond.methodLink RL 13 yX7_letter ∈ lw_good := lw_mem 246 (by decide +kernel)
theorem q_198 : Cond.instanceMethod yX7_letter ∈ lw_good := lw_mem 247 (by decide +kernel)
theorem q_199 : Cond.selects RX7 yX7_letter yX7_letter ∈ lw_good := lw_mem 248 (by decide +kernel)
theorem q_200 : Cond.code yX7_letter cX7_letter 2 (some .int) ∈ lw_good := lw_mem 249 (by decide +kernel)
theorem q_201 : Cond.methodLink RX7 86 yX2_isFull ∈ lw_good := lw_mem 250 (by decide +kernel)
theorem q_202 : Cond.instanceMethod yX2_isFull ∈ lw_good := lw_mem 251 (by decide +kernel)
theorem q_203 : Cond.selects RX2 yX2_isFull yX2_isFull ∈ lw_good := lw_mem 252 (by decide +kernel)
theorem q_204 : Cond.code yX2_isFull cX2_isFull 1 (some .boolean) ∈ lw_good := lw_mem 253 (by decide +kernel)
theorem q_205 : Cond.methodLink RX7 90 yX2_add ∈ lw_good := lw_mem 254 (by decide +kernel)
theorem q_206 : Cond.instanceMethod yX2_add ∈ lw_good := lw_mem 255 (by decide +kernel)
theorem q_207 : Cond.selects RX2 yX2_add yX2_add ∈ lw_good := lw_mem 256 (by decide +kernel)
theorem q_208 : Cond.code yX2_add cX2_add 2 none ∈ lw_good := lw_mem 257 (by decide +kernel)
theorem q_209 : Cond.methodLink RX2 19 yX2_isFull ∈ lw_good := lw_mem 258 (by decide +kernel)
theorem q_210 : Cond.methodLink RX7 94 yX2_size ∈ lw_good := lw_mem 259 (by decide +kernel)
theorem q_211 : Cond.instanceMethod yX2_size ∈ lw_good := lw_mem 260 (by decide +kernel)
theorem q_212 : Cond.selects RX2 yX2_size yX2_size ∈ lw_good := lw_mem 261 (by decide +kernel)
theorem q_213 : Cond.code yX2_size cX2_size 1 (some .int) ∈ lw_good := lw_mem 262 (by decide +kernel)
theorem q_214 : Cond.methodLink RL 18 yX7_blank ∈ lw_good := lw_mem 263 (by decide +kernel)
theorem q_215 : Cond.instanceMethod yX7_blank ∈ lw_good := lw_mem 264 (by decide +kernel)
theorem q_216 : Cond.selects RX7 yX7_blank yX7_blank ∈ lw_good := lw_mem 265 (by decide +kernel)
theorem q_217 : Cond.code yX7_blank cX7_blank 2 (some .int) ∈ lw_good := lw_mem 266 (by decide +kernel)
theorem q_218 : Cond.methodLink RX7 98 yX2_clear ∈ lw_good := lw_mem 267 (by decide +kernel)
theorem q_219 : Cond.instanceMethod yX2_clear ∈ lw_good := lw_mem 268 (by decide +kernel)
theorem q_220 : Cond.selects RX2 yX2_clear yX2_clear ∈ lw_good := lw_mem 269 (by decide +kernel)
theorem q_221 : Cond.code yX2_clear cX2_clear 1 none ∈ lw_good := lw_mem 270 (by decide +kernel)
theorem q_222 : Cond.methodLink RL 23 yX7_fault ∈ lw_good := lw_mem 271 (by decide +kernel)
theorem q_223 : Cond.instanceMethod yX7_fault ∈ lw_good := lw_mem 272 (by decide +kernel)
theorem q_224 : Cond.selects RX7 yX7_fault yX7_fault ∈ lw_good := lw_mem 273 (by decide +kernel)
theorem q_225 : Cond.code yX7_fault cX7_fault 2 (some .int) ∈ lw_good := lw_mem 274 (by decide +kernel)
theorem q_226 : Cond.methodLink RX7 101 yX2_textFault ∈ lw_good := lw_mem 275 (by decide +kernel)
theorem q_227 : Cond.instanceMethod yX2_textFault ∈ lw_good := lw_mem 276 (by decide +kernel)
theorem q_228 : Cond.selects RX2 yX2_textFault yX2_textFault ∈ lw_good := lw_mem 277 (by decide +kernel)
theorem q_229 : Cond.code yX2_textFault cX2_textFault 3 (some .int) ∈ lw_good := lw_mem 278 (by decide +kernel)
theorem q_230 : Cond.methodLink RX2 23 yX2_signAt ∈ lw_good := lw_mem 279 (by decide +kernel)
theorem q_231 : Cond.instanceMethod yX2_signAt ∈ lw_good := lw_mem 280 (by decide +kernel)
theorem q_232 : Cond.selects RX2 yX2_signAt yX2_signAt ∈ lw_good := lw_mem 281 (by decide +kernel)
theorem q_233 : Cond.code yX2_signAt cX2_signAt 2 (some .int) ∈ lw_good := lw_mem 282 (by decide +kernel)
theorem q_234 : Cond.methodLink RX7 104 yX1_read ∈ lw_good := lw_mem 283 (by decide +kernel)
theorem q_235 : Cond.instanceMethod yX1_read ∈ lw_good := lw_mem 284 (by decide +kernel)
theorem q_236 : Cond.selects RX1 yX1_read yX1_read ∈ lw_good := lw_mem 285 (by decide +kernel)
theorem q_237 : Cond.code yX1_read cX1_read 2 none ∈ lw_good := lw_mem 286 (by decide +kernel)
theorem q_238 : Cond.methodLink RX1 42 yX6_clear ∈ lw_good := lw_mem 287 (by decide +kernel)
theorem q_239 : Cond.instanceMethod yX6_clear ∈ lw_good := lw_mem 288 (by decide +kernel)
theorem q_240 : Cond.selects RX6 yX6_clear yX6_clear ∈ lw_good := lw_mem 289 (by decide +kernel)
theorem q_241 : Cond.code yX6_clear cX6_clear 1 none ∈ lw_good := lw_mem 290 (by decide +kernel)
theorem q_242 : Cond.methodLink RX1 45 yX2_size ∈ lw_good := lw_mem 291 (by decide +kernel)
theorem q_243 : Cond.methodLink RX1 51 yX2_signAt ∈ lw_good := lw_mem 292 (by decide +kernel)
theorem q_244 : Cond.methodLink RX1 55 yX1_takes ∈ lw_good := lw_mem 293 (by decide +kernel)
theorem q_246 : Cond.instanceMethod yX1_takes ∈ lw_good := lw_mem 295 (by decide +kernel)
theorem q_247 : Cond.code yX1_takes cX1_takes 3 (some .boolean) ∈ lw_good := lw_mem 296 (by decide +kernel)
theorem q_248 : Cond.methodLink RX1 60 yX1_takesFigure ∈ lw_good := lw_mem 297 (by decide +kernel)
theorem q_250 : Cond.instanceMethod yX1_takesFigure ∈ lw_good := lw_mem 299 (by decide +kernel)
theorem q_251 : Cond.code yX1_takesFigure cX1_takesFigure 3 (some .boolean) ∈ lw_good := lw_mem 300 (by decide +kernel)
theorem q_252 : Cond.methodLink RX1 76 yX5_again ∈ lw_good := lw_mem 301 (by decide +kernel)
theorem q_253 : Cond.static yX5_again ∈ lw_good := lw_mem 302 (by decide +kernel)
theorem q_254 : Cond.code yX5_again cX5_again 1 (some .int) ∈ lw_good := lw_mem 303 (by decide +kernel)
theorem q_255 : Cond.methodLink RX1 81 yX5_copy ∈ lw_good := lw_mem 304 (by decide +kernel)
theorem q_256 : Cond.static yX5_copy ∈ lw_good := lw_mem 305 (by decide +kernel)
theorem q_257 : Cond.code yX5_copy cX5_copy 2 (some .int) ∈ lw_good := lw_mem 306 (by decide +kernel)
theorem q_258 : Cond.methodLink RX1 73 yX6_add ∈ lw_good := lw_mem 307 (by decide +kernel)
theorem q_259 : Cond.instanceMethod yX6_add ∈ lw_good := lw_mem 308 (by decide +kernel)
theorem q_260 : Cond.selects RX6 yX6_add yX6_add ∈ lw_good := lw_mem 309 (by decide +kernel)
theorem q_261 : Cond.code yX6_add cX6_add 2 none ∈ lw_good := lw_mem 310 (by decide +kernel)
theorem q_262 : Cond.methodLink RX6 25 yX5_isPlain ∈ lw_good := lw_mem 311 (by decide +kernel)
theorem q_263 : Cond.static yX5_isPlain ∈ lw_good := lw_mem 312 (by decide +kernel)
theorem q_264 : Cond.code yX5_isPlain cX5_isPlain 1 (some .boolean) ∈ lw_good := lw_mem 313 (by decide +kernel)
theorem q_265 : Cond.methodLink RX6 31 yX5_isCopy ∈ lw_good := lw_mem 314 (by decide +kernel)
theorem q_266 : Cond.static yX5_isCopy ∈ lw_good := lw_mem 315 (by decide +kernel)
theorem q_267 : Cond.code yX5_isCopy cX5_isCopy 1 (some .boolean) ∈ lw_good := lw_mem 316 (by decide +kernel)
theorem q_268 : Cond.methodLink RX1 85 yX1_madeAt ∈ lw_good := lw_mem 317 (by decide +kernel)
theorem q_269 : Cond.instanceMethod yX1_madeAt ∈ lw_good := lw_mem 318 (by decide +kernel)
theorem q_270 : Cond.selects RX1 yX1_madeAt yX1_madeAt ∈ lw_good := lw_mem 319 (by decide +kernel)
theorem q_271 : Cond.code yX1_madeAt cX1_madeAt 2 (some .int) ∈ lw_good := lw_mem 320 (by decide +kernel)
theorem q_272 : Cond.methodLink RX1 69 yX1_make ∈ lw_good := lw_mem 321 (by decide +kernel)
theorem q_274 : Cond.instanceMethod yX1_make ∈ lw_good := lw_mem 323 (by decide +kernel)
theorem q_275 : Cond.code yX1_make cX1_make 2 none ∈ lw_good := lw_mem 324 (by decide +kernel)
theorem q_276 : Cond.methodLink RX1 63 yX1_takesLetter ∈ lw_good := lw_mem 325 (by decide +kernel)
theorem q_278 : Cond.instanceMethod yX1_takesLetter ∈ lw_good := lw_mem 327 (by decide +kernel)
theorem q_279 : Cond.code yX1_takesLetter cX1_takesLetter 2 (some .boolean) ∈ lw_good := lw_mem 328 (by decide +kernel)
theorem q_280 : Cond.methodLink RX1 66 yX1_opens ∈ lw_good := lw_mem 329 (by decide +kernel)
theorem q_282 : Cond.instanceMethod yX1_opens ∈ lw_good := lw_mem 331 (by decide +kernel)
theorem q_283 : Cond.code yX1_opens cX1_opens 2 (some .boolean) ∈ lw_good := lw_mem 332 (by decide +kernel)
theorem q_284 : Cond.methodLink RX7 108 yX1_faultPlace ∈ lw_good := lw_mem 333 (by decide +kernel)
theorem q_285 : Cond.instanceMethod yX1_faultPlace ∈ lw_good := lw_mem 334 (by decide +kernel)
theorem q_286 : Cond.selects RX1 yX1_faultPlace yX1_faultPlace ∈ lw_good := lw_mem 335 (by decide +kernel)
theorem q_287 : Cond.code yX1_faultPlace cX1_faultPlace 1 (some .int) ∈ lw_good := lw_mem 336 (by decide +kernel)
theorem q_288 : Cond.methodLink RL 28 yX7_text ∈ lw_good := lw_mem 337 (by decide +kernel)
theorem q_289 : Cond.instanceMethod yX7_text ∈ lw_good := lw_mem 338 (by decide +kernel)
theorem q_290 : Cond.selects RX7 yX7_text yX7_text ∈ lw_good := lw_mem 339 (by decide +kernel)
theorem q_291 : Cond.code yX7_text cX7_text 2 (some .int) ∈ lw_good := lw_mem 340 (by decide +kernel)
theorem q_292 : Cond.methodLink RX7 111 yX2_isText ∈ lw_good := lw_mem 341 (by decide +kernel)
theorem q_293 : Cond.instanceMethod yX2_isText ∈ lw_good := lw_mem 342 (by decide +kernel)
theorem q_294 : Cond.selects RX2 yX2_isText yX2_isText ∈ lw_good := lw_mem 343 (by decide +kernel)
theorem q_295 : Cond.code yX2_isText cX2_isText 1 (some .boolean) ∈ lw_good := lw_mem 344 (by decide +kernel)
theorem q_296 : Cond.methodLink RX2 27 yX2_textFault ∈ lw_good := lw_mem 345 (by decide +kernel)
theorem q_297 : Cond.methodLink RX7 114 yX4_clear ∈ lw_good := lw_mem 346 (by decide +kernel)
theorem q_298 : Cond.instanceMethod yX4_clear ∈ lw_good := lw_mem 347 (by decide +kernel)
theorem q_299 : Cond.selects RX4 yX4_clear yX4_clear ∈ lw_good := lw_mem 348 (by decide +kernel)
theorem q_300 : Cond.code yX4_clear cX4_clear 1 none ∈ lw_good := lw_mem 349 (by decide +kernel)
theorem q_301 : Cond.methodLink RX7 115 yX2_signAt ∈ lw_good := lw_mem 350 (by decide +kernel)
theorem q_302 : Cond.methodLink RX7 119 yX4_add ∈ lw_good := lw_mem 351 (by decide +kernel)
theorem q_303 : Cond.instanceMethod yX4_add ∈ lw_good := lw_mem 352 (by decide +kernel)
theorem q_304 : Cond.selects RX4 yX4_add yX4_add ∈ lw_good := lw_mem 353 (by decide +kernel)
theorem q_305 : Cond.code yX4_add cX4_add 2 none ∈ lw_good := lw_mem 354 (by decide +kernel)
theorem q_306 : Cond.methodLink RX7 120 yX7_takeText ∈ lw_good := lw_mem 355 (by decide +kernel)
theorem q_308 : Cond.instanceMethod yX7_takeText ∈ lw_good := lw_mem 357 (by decide +kernel)
theorem q_309 : Cond.code yX7_takeText cX7_takeText 1 none ∈ lw_good := lw_mem 358 (by decide +kernel)
theorem q_310 : Cond.methodLink RX7 234 yX4_compare ∈ lw_good := lw_mem 359 (by decide +kernel)
theorem q_311 : Cond.instanceMethod yX4_compare ∈ lw_good := lw_mem 360 (by decide +kernel)
theorem q_312 : Cond.selects RX4 yX4_compare yX4_compare ∈ lw_good := lw_mem 361 (by decide +kernel)
theorem q_313 : Cond.code yX4_compare cX4_compare 4 none ∈ lw_good := lw_mem 362 (by decide +kernel)
theorem q_314 : Cond.methodLink RX4 28 yX4_likeness ∈ lw_good := lw_mem 363 (by decide +kernel)
theorem q_315 : Cond.instanceMethod yX4_likeness ∈ lw_good := lw_mem 364 (by decide +kernel)
theorem q_316 : Cond.selects RX4 yX4_likeness yX4_likeness ∈ lw_good := lw_mem 365 (by decide +kernel)
theorem q_317 : Cond.code yX4_likeness cX4_likeness 3 (some .int) ∈ lw_good := lw_mem 366 (by decide +kernel)
theorem q_318 : Cond.methodLink RX4 32 yJ9_min_7cf53 ∈ lw_good := lw_mem 367 (by decide +kernel)
theorem q_319 : Cond.static yJ9_min_7cf53 ∈ lw_good := lw_mem 368 (by decide +kernel)
theorem q_320 : Cond.code yJ9_min_7cf53 cJ9_min_7cf53 2 (some .int) ∈ lw_good := lw_mem 369 (by decide +kernel)
theorem q_321 : Cond.methodLink RX7 152 yX7_forget ∈ lw_good := lw_mem 370 (by decide +kernel)
theorem q_323 : Cond.instanceMethod yX7_forget ∈ lw_good := lw_mem 372 (by decide +kernel)
theorem q_324 : Cond.code yX7_forget cX7_forget 1 none ∈ lw_good := lw_mem 373 (by decide +kernel)
theorem q_325 : Cond.methodLink RX7 123 yX4_size ∈ lw_good := lw_mem 374 (by decide +kernel)
theorem q_326 : Cond.instanceMethod yX4_size ∈ lw_good := lw_mem 375 (by decide +kernel)
theorem q_327 : Cond.selects RX4 yX4_size yX4_size ∈ lw_good := lw_mem 376 (by decide +kernel)
theorem q_328 : Cond.code yX4_size cX4_size 1 (some .int) ∈ lw_good := lw_mem 377 (by decide +kernel)
theorem q_329 : Cond.methodLink RL 32 yX7_decode ∈ lw_good := lw_mem 378 (by decide +kernel)
theorem q_330 : Cond.instanceMethod yX7_decode ∈ lw_good := lw_mem 379 (by decide +kernel)
theorem q_331 : Cond.selects RX7 yX7_decode yX7_decode ∈ lw_good := lw_mem 380 (by decide +kernel)
theorem q_332 : Cond.code yX7_decode cX7_decode 2 (some .int) ∈ lw_good := lw_mem 381 (by decide +kernel)
theorem q_333 : Cond.methodLink RX7 124 yX1_isCode ∈ lw_good := lw_mem 382 (by decide +kernel)
theorem q_334 : Cond.instanceMethod yX1_isCode ∈ lw_good := lw_mem 383 (by decide +kernel)
theorem q_335 : Cond.selects RX1 yX1_isCode yX1_isCode ∈ lw_good := lw_mem 384 (by decide +kernel)
theorem q_336 : Cond.code yX1_isCode cX1_isCode 1 (some .boolean) ∈ lw_good := lw_mem 385 (by decide +kernel)
theorem q_337 : Cond.methodLink RX1 59 yX6_size ∈ lw_good := lw_mem 386 (by decide +kernel)
theorem q_338 : Cond.instanceMethod yX6_size ∈ lw_good := lw_mem 387 (by decide +kernel)
theorem q_339 : Cond.selects RX6 yX6_size yX6_size ∈ lw_good := lw_mem 388 (by decide +kernel)
theorem q_340 : Cond.code yX6_size cX6_size 1 (some .int) ∈ lw_good := lw_mem 389 (by decide +kernel)
theorem q_341 : Cond.methodLink RX7 127 yX1_madeSize ∈ lw_good := lw_mem 390 (by decide +kernel)
theorem q_342 : Cond.instanceMethod yX1_madeSize ∈ lw_good := lw_mem 391 (by decide +kernel)
theorem q_343 : Cond.selects RX1 yX1_madeSize yX1_madeSize ∈ lw_good := lw_mem 392 (by decide +kernel)
theorem q_344 : Cond.code yX1_madeSize cX1_madeSize 1 (some .int) ∈ lw_good := lw_mem 393 (by decide +kernel)
theorem q_345 : Cond.methodLink RX7 130 yX1_madeAt ∈ lw_good := lw_mem 394 (by decide +kernel)
theorem q_346 : Cond.methodLink RL 36 yX7_priced ∈ lw_good := lw_mem 395 (by decide +kernel)
theorem q_347 : Cond.instanceMethod yX7_priced ∈ lw_good := lw_mem 396 (by decide +kernel)
theorem q_348 : Cond.selects RX7 yX7_priced yX7_priced ∈ lw_good := lw_mem 397 (by decide +kernel)
theorem q_349 : Cond.code yX7_priced cX7_priced 1 (some .int) ∈ lw_good := lw_mem 398 (by decide +kernel)
theorem q_350 : Cond.methodLink RX7 133 yX1_tokens ∈ lw_good := lw_mem 399 (by decide +kernel)
theorem q_351 : Cond.instanceMethod yX1_tokens ∈ lw_good := lw_mem 400 (by decide +kernel)
theorem q_352 : Cond.selects RX1 yX1_tokens yX1_tokens ∈ lw_good := lw_mem 401 (by decide +kernel)
theorem q_353 : Cond.code yX1_tokens cX1_tokens 1 (some (.object "PricedCopies$TokenRow")) ∈ lw_good := lw_mem 402 (by decide +kernel)
theorem q_354 : Cond.methodLink RX7 137 yX3_ofRow ∈ lw_good := lw_mem 403 (by decide +kernel)
theorem q_355 : Cond.instanceMethod yX3_ofRow ∈ lw_good := lw_mem 404 (by decide +kernel)
theorem q_356 : Cond.selects RX3 yX3_ofRow yX3_ofRow ∈ lw_good := lw_mem 405 (by decide +kernel)
theorem q_357 : Cond.code yX3_ofRow cX3_ofRow 4 (some .int) ∈ lw_good := lw_mem 406 (by decide +kernel)
theorem q_358 : Cond.methodLink RX3 51 yX6_size ∈ lw_good := lw_mem 407 (by decide +kernel)
theorem q_359 : Cond.methodLink RX3 57 yX6_get ∈ lw_good := lw_mem 408 (by decide +kernel)
theorem q_360 : Cond.instanceMethod yX6_get ∈ lw_good := lw_mem 409 (by decide +kernel)
theorem q_361 : Cond.selects RX6 yX6_get yX6_get ∈ lw_good := lw_mem 410 (by decide +kernel)
theorem q_362 : Cond.code yX6_get cX6_get 2 (some .int) ∈ lw_good := lw_mem 411 (by decide +kernel)
theorem q_363 : Cond.methodLink RX3 58 yX3_ofToken ∈ lw_good := lw_mem 412 (by decide +kernel)
theorem q_364 : Cond.instanceMethod yX3_ofToken ∈ lw_good := lw_mem 413 (by decide +kernel)
theorem q_365 : Cond.selects RX3 yX3_ofToken yX3_ofToken ∈ lw_good := lw_mem 414 (by decide +kernel)
theorem q_366 : Cond.code yX3_ofToken cX3_ofToken 3 (some .int) ∈ lw_good := lw_mem 415 (by decide +kernel)
theorem q_367 : Cond.methodLink RX3 34 yX5_isPlain ∈ lw_good := lw_mem 416 (by decide +kernel)
theorem q_368 : Cond.methodLink RX3 30 yX3_get ∈ lw_good := lw_mem 417 (by decide +kernel)
theorem q_369 : Cond.instanceMethod yX3_get ∈ lw_good := lw_mem 418 (by decide +kernel)
theorem q_370 : Cond.selects RX3 yX3_get yX3_get ∈ lw_good := lw_mem 419 (by decide +kernel)
theorem q_371 : Cond.code yX3_get cX3_get 2 (some .int) ∈ lw_good := lw_mem 420 (by decide +kernel)
theorem q_372 : Cond.methodLink RX3 39 yX5_lengthOf ∈ lw_good := lw_mem 421 (by decide +kernel)
theorem q_373 : Cond.static yX5_lengthOf ∈ lw_good := lw_mem 422 (by decide +kernel)
theorem q_374 : Cond.code yX5_lengthOf cX5_lengthOf 1 (some .int) ∈ lw_good := lw_mem 423 (by decide +kernel)
theorem q_375 : Cond.methodLink RX3 42 yX5_isCopy ∈ lw_good := lw_mem 424 (by decide +kernel)
theorem q_376 : Cond.methodLink RX3 45 yX5_distanceOf ∈ lw_good := lw_mem 425 (by decide +kernel)
theorem q_377 : Cond.static yX5_distanceOf ∈ lw_good := lw_mem 426 (by decide +kernel)
theorem q_378 : Cond.code yX5_distanceOf cX5_distanceOf 1 (some .int) ∈ lw_good := lw_mem 427 (by decide +kernel)
theorem q_379 : Cond.methodLinkNest RX3 48 yX7_log "PricedCopies" ∈ lw_tbl := lw_memT 428 (by decide +kernel)
theorem q_380 : Cond.static yX7_log ∈ lw_good := lw_mem 429 (by decide +kernel)
theorem q_381 : Cond.code yX7_log cX7_log 3 (some .int) ∈ lw_good := lw_mem 430 (by decide +kernel)
theorem q_382 : Cond.methodLink RL 40 yX7_price ∈ lw_good := lw_mem 431 (by decide +kernel)
theorem q_383 : Cond.instanceMethod yX7_price ∈ lw_good := lw_mem 432 (by decide +kernel)
theorem q_384 : Cond.selects RX7 yX7_price yX7_price ∈ lw_good := lw_mem 433 (by decide +kernel)
theorem q_385 : Cond.code yX7_price cX7_price 4 (some .int) ∈ lw_good := lw_mem 434 (by decide +kernel)
theorem q_386 : Cond.methodLink RX7 141 yX7_isPrice ∈ lw_good := lw_mem 435 (by decide +kernel)
theorem q_387 : Cond.static yX7_isPrice ∈ lw_good := lw_mem 436 (by decide +kernel)
theorem q_388 : Cond.code yX7_isPrice cX7_isPrice 1 (some .boolean) ∈ lw_good := lw_mem 437 (by decide +kernel)
theorem q_389 : Cond.methodLink RX7 145 yX3_get ∈ lw_good := lw_mem 438 (by decide +kernel)
theorem q_390 : Cond.methodLink RX7 148 yX3_set ∈ lw_good := lw_mem 439 (by decide +kernel)
theorem q_391 : Cond.instanceMethod yX3_set ∈ lw_good := lw_mem 440 (by decide +kernel)
theorem q_392 : Cond.selects RX3 yX3_set yX3_set ∈ lw_good := lw_mem 441 (by decide +kernel)
theorem q_393 : Cond.code yX3_set cX3_set 3 none ∈ lw_good := lw_mem 442 (by decide +kernel)
theorem q_394 : Cond.methodLinkNest RX3 26 yX7_isPrice "PricedCopies" ∈ lw_tbl := lw_memT 443 (by decide +kernel)
theorem q_395 : Cond.methodLink RL 45 yX7_priceOf ∈ lw_good := lw_mem 444 (by decide +kernel)
theorem q_396 : Cond.instanceMethod yX7_priceOf ∈ lw_good := lw_mem 445 (by decide +kernel)
theorem q_397 : Cond.selects RX7 yX7_priceOf yX7_priceOf ∈ lw_good := lw_mem 446 (by decide +kernel)
theorem q_398 : Cond.code yX7_priceOf cX7_priceOf 2 (some .int) ∈ lw_good := lw_mem 447 (by decide +kernel)
theorem q_399 : Cond.methodLink RL 49 yX7_round ∈ lw_good := lw_mem 448 (by decide +kernel)
theorem q_400 : Cond.instanceMethod yX7_round ∈ lw_good := lw_mem 449 (by decide +kernel)
theorem q_401 : Cond.selects RX7 yX7_round yX7_round ∈ lw_good := lw_mem 450 (by decide +kernel)
theorem q_402 : Cond.code yX7_round cX7_round 2 (some .int) ∈ lw_good := lw_mem 451 (by decide +kernel)
theorem q_403 : Cond.methodLink RX7 155 yX7_hasText ∈ lw_good := lw_mem 452 (by decide +kernel)
theorem q_405 : Cond.instanceMethod yX7_hasText ∈ lw_good := lw_mem 454 (by decide +kernel)
theorem q_406 : Cond.code yX7_hasText cX7_hasText 1 (some .boolean) ∈ lw_good := lw_mem 455 (by decide +kernel)
theorem q_407 : Cond.methodLink RX7 158 yX7_chooseCheapest ∈ lw_good := lw_mem 456 (by decide +kernel)
theorem q_409 : Cond.instanceMethod yX7_chooseCheapest ∈ lw_good := lw_mem 458 (by decide +kernel)
theorem q_410 : Cond.code yX7_chooseCheapest cX7_chooseCheapest 1 none ∈ lw_good := lw_mem 459 (by decide +kernel)
theorem q_411 : Cond.methodLink RX7 237 yX0_choose ∈ lw_good := lw_mem 460 (by decide +kernel)
theorem q_412 : Cond.instanceMethod yX0_choose ∈ lw_good := lw_mem 461 (by decide +kernel)
theorem q_413 : Cond.selects RX0 yX0_choose yX0_choose ∈ lw_good := lw_mem 462 (by decide +kernel)
theorem q_414 : Cond.code yX0_choose cX0_choose 7 none ∈ lw_good := lw_mem 463 (by decide +kernel)
theorem q_415 : Cond.methodLink RX0 26 yX6_clear ∈ lw_good := lw_mem 464 (by decide +kernel)
theorem q_416 : Cond.methodLink RX0 31 yX4_size ∈ lw_good := lw_mem 465 (by decide +kernel)
theorem q_417 : Cond.methodLink RX0 37 yX0_chooseCopy ∈ lw_good := lw_mem 466 (by decide +kernel)
theorem q_419 : Cond.instanceMethod yX0_chooseCopy ∈ lw_good := lw_mem 468 (by decide +kernel)
theorem q_420 : Cond.code yX0_chooseCopy cX0_chooseCopy 10 none ∈ lw_good := lw_mem 469 (by decide +kernel)
theorem q_421 : Cond.methodLink RX0 48 yX4_likeness ∈ lw_good := lw_mem 470 (by decide +kernel)
theorem q_422 : Cond.methodLink RX0 52 yJ9_min_7cf53 ∈ lw_good := lw_mem 471 (by decide +kernel)
theorem q_423 : Cond.methodLink RX0 57 yX5_copy ∈ lw_good := lw_mem 472 (by decide +kernel)
theorem q_424 : Cond.methodLink RX0 62 yX3_ofToken ∈ lw_good := lw_mem 473 (by decide +kernel)
theorem q_425 : Cond.methodLink RX0 68 yX0_consider ∈ lw_good := lw_mem 474 (by decide +kernel)
theorem q_427 : Cond.instanceMethod yX0_consider ∈ lw_good := lw_mem 476 (by decide +kernel)
theorem q_428 : Cond.code yX0_consider cX0_consider 5 none ∈ lw_good := lw_mem 477 (by decide +kernel)
theorem q_429 : Cond.methodLink RX0 41 yX0_chooseFirsts ∈ lw_good := lw_mem 478 (by decide +kernel)
theorem q_431 : Cond.instanceMethod yX0_chooseFirsts ∈ lw_good := lw_mem 480 (by decide +kernel)
theorem q_432 : Cond.code yX0_chooseFirsts cX0_chooseFirsts 13 none ∈ lw_good := lw_mem 481 (by decide +kernel)
theorem q_433 : Cond.methodLink RX0 72 yX4_letterAt ∈ lw_good := lw_mem 482 (by decide +kernel)
theorem q_434 : Cond.instanceMethod yX4_letterAt ∈ lw_good := lw_mem 483 (by decide +kernel)
theorem q_435 : Cond.selects RX4 yX4_letterAt yX4_letterAt ∈ lw_good := lw_mem 484 (by decide +kernel)
theorem q_436 : Cond.code yX4_letterAt cX4_letterAt 2 (some .int) ∈ lw_good := lw_mem 485 (by decide +kernel)
theorem q_437 : Cond.methodLink RX4 24 yX4_has ∈ lw_good := lw_mem 486 (by decide +kernel)
theorem q_438 : Cond.instanceMethod yX4_has ∈ lw_good := lw_mem 487 (by decide +kernel)
theorem q_439 : Cond.selects RX4 yX4_has yX4_has ∈ lw_good := lw_mem 488 (by decide +kernel)
theorem q_440 : Cond.code yX4_has cX4_has 2 (some .boolean) ∈ lw_good := lw_mem 489 (by decide +kernel)
theorem q_441 : Cond.methodLink RX0 75 yX5_again ∈ lw_good := lw_mem 490 (by decide +kernel)
theorem q_442 : Cond.methodLink RX0 44 yX0_collect ∈ lw_good := lw_mem 491 (by decide +kernel)
theorem q_444 : Cond.instanceMethod yX0_collect ∈ lw_good := lw_mem 493 (by decide +kernel)
theorem q_445 : Cond.code yX0_collect cX0_collect 7 none ∈ lw_good := lw_mem 494 (by decide +kernel)
theorem q_446 : Cond.methodLink RX0 78 yX6_add ∈ lw_good := lw_mem 495 (by decide +kernel)
theorem q_447 : Cond.methodLink RX0 82 yX5_isCopy ∈ lw_good := lw_mem 496 (by decide +kernel)
theorem q_448 : Cond.methodLink RX0 86 yX5_distanceOf ∈ lw_good := lw_mem 497 (by decide +kernel)
theorem q_449 : Cond.methodLink RX0 89 yX5_lengthOf ∈ lw_good := lw_mem 498 (by decide +kernel)
theorem q_450 : Cond.methodLink RX0 92 yJ9_max_7cf53 ∈ lw_good := lw_mem 499 (by decide +kernel)
theorem q_451 : Cond.static yJ9_max_7cf53 ∈ lw_good := lw_mem 500 (by decide +kernel)
theorem q_452 : Cond.code yJ9_max_7cf53 cJ9_max_7cf53 2 (some .int) ∈ lw_good := lw_mem 501 (by decide +kernel)
theorem q_453 : Cond.methodLink RX7 161 yX3_follow ∈ lw_good := lw_mem 502 (by decide +kernel)
theorem q_454 : Cond.instanceMethod yX3_follow ∈ lw_good := lw_mem 503 (by decide +kernel)
theorem q_455 : Cond.selects RX3 yX3_follow yX3_follow ∈ lw_good := lw_mem 504 (by decide +kernel)
theorem q_456 : Cond.code yX3_follow cX3_follow 4 (some .int) ∈ lw_good := lw_mem 505 (by decide +kernel)
theorem q_457 : Cond.methodLink RX3 61 yX3_countTaken ∈ lw_good := lw_mem 506 (by decide +kernel)
theorem q_459 : Cond.instanceMethod yX3_countTaken ∈ lw_good := lw_mem 508 (by decide +kernel)
theorem q_460 : Cond.code yX3_countTaken cX3_countTaken 4 none ∈ lw_good := lw_mem 509 (by decide +kernel)
theorem q_461 : Cond.methodLink RX3 84 yX3_countOne ∈ lw_good := lw_mem 510 (by decide +kernel)
theorem q_463 : Cond.instanceMethod yX3_countOne ∈ lw_good := lw_mem 512 (by decide +kernel)
theorem q_464 : Cond.code yX3_countOne cX3_countOne 2 none ∈ lw_good := lw_mem 513 (by decide +kernel)
theorem q_465 : Cond.methodLink RX3 65 yX6_plains ∈ lw_good := lw_mem 514 (by decide +kernel)
theorem q_466 : Cond.instanceMethod yX6_plains ∈ lw_good := lw_mem 515 (by decide +kernel)
theorem q_467 : Cond.selects RX6 yX6_plains yX6_plains ∈ lw_good := lw_mem 516 (by decide +kernel)
theorem q_468 : Cond.code yX6_plains cX6_plains 1 (some .int) ∈ lw_good := lw_mem 517 (by decide +kernel)
theorem q_469 : Cond.methodLink RX3 68 yX3_reprice ∈ lw_good := lw_mem 518 (by decide +kernel)
theorem q_471 : Cond.instanceMethod yX3_reprice ∈ lw_good := lw_mem 520 (by decide +kernel)
theorem q_472 : Cond.code yX3_reprice cX3_reprice 7 (some .int) ∈ lw_good := lw_mem 521 (by decide +kernel)
theorem q_473 : Cond.methodLink RX3 78 yJ9_max_7cf53 ∈ lw_good := lw_mem 522 (by decide +kernel)
theorem q_474 : Cond.methodLink RX3 72 yX6_copies ∈ lw_good := lw_mem 523 (by decide +kernel)
theorem q_475 : Cond.instanceMethod yX6_copies ∈ lw_good := lw_mem 524 (by decide +kernel)
theorem q_476 : Cond.selects RX6 yX6_copies yX6_copies ∈ lw_good := lw_mem 525 (by decide +kernel)
theorem q_477 : Cond.code yX6_copies cX6_copies 1 (some .int) ∈ lw_good := lw_mem 526 (by decide +kernel)
theorem q_478 : Cond.methodLink RX3 75 yX6_agains ∈ lw_good := lw_mem 527 (by decide +kernel)
theorem q_479 : Cond.instanceMethod yX6_agains ∈ lw_good := lw_mem 528 (by decide +kernel)
theorem q_480 : Cond.selects RX6 yX6_agains yX6_agains ∈ lw_good := lw_mem 529 (by decide +kernel)
theorem q_481 : Cond.code yX6_agains cX6_agains 1 (some .int) ∈ lw_good := lw_mem 530 (by decide +kernel)
theorem q_482 : Cond.methodLink RL 53 yX7_rest ∈ lw_good := lw_mem 531 (by decide +kernel)
theorem q_483 : Cond.instanceMethod yX7_rest ∈ lw_good := lw_mem 532 (by decide +kernel)
theorem q_484 : Cond.selects RX7 yX7_rest yX7_rest ∈ lw_good := lw_mem 533 (by decide +kernel)
theorem q_485 : Cond.code yX7_rest cX7_rest 2 (some .int) ∈ lw_good := lw_mem 534 (by decide +kernel)
theorem q_486 : Cond.methodLink RX7 164 yX7_findRest ∈ lw_good := lw_mem 535 (by decide +kernel)
theorem q_488 : Cond.instanceMethod yX7_findRest ∈ lw_good := lw_mem 537 (by decide +kernel)
theorem q_489 : Cond.code yX7_findRest cX7_findRest 2 none ∈ lw_good := lw_mem 538 (by decide +kernel)
theorem q_490 : Cond.methodLink RX7 259 yX3_take ∈ lw_good := lw_mem 539 (by decide +kernel)
theorem q_491 : Cond.instanceMethod yX3_take ∈ lw_good := lw_mem 540 (by decide +kernel)
theorem q_492 : Cond.selects RX3 yX3_take yX3_take ∈ lw_good := lw_mem 541 (by decide +kernel)
theorem q_493 : Cond.code yX3_take cX3_take 3 none ∈ lw_good := lw_mem 542 (by decide +kernel)
theorem q_494 : Cond.methodLink RX7 184 yX6_size ∈ lw_good := lw_mem 543 (by decide +kernel)
theorem q_495 : Cond.methodLink RL 57 yX7_at ∈ lw_good := lw_mem 544 (by decide +kernel)
theorem q_496 : Cond.instanceMethod yX7_at ∈ lw_good := lw_mem 545 (by decide +kernel)
theorem q_497 : Cond.selects RX7 yX7_at yX7_at ∈ lw_good := lw_mem 546 (by decide +kernel)
theorem q_498 : Cond.code yX7_at cX7_at 2 (some .int) ∈ lw_good := lw_mem 547 (by decide +kernel)
theorem q_499 : Cond.methodLink RX7 167 yX4_has ∈ lw_good := lw_mem 548 (by decide +kernel)
theorem q_500 : Cond.methodLink RX7 170 yX4_letterAt ∈ lw_good := lw_mem 549 (by decide +kernel)
theorem q_501 : Cond.methodLink RL 61 yX7_longest ∈ lw_good := lw_mem 550 (by decide +kernel)
theorem q_502 : Cond.instanceMethod yX7_longest ∈ lw_good := lw_mem 551 (by decide +kernel)
theorem q_503 : Cond.selects RX7 yX7_longest yX7_longest ∈ lw_good := lw_mem 552 (by decide +kernel)
theorem q_504 : Cond.code yX7_longest cX7_longest 4 (some .int) ∈ lw_good := lw_mem 553 (by decide +kernel)
theorem q_505 : Cond.methodLink RX7 173 yX4_longestDistance ∈ lw_good := lw_mem 554 (by decide +kernel)
theorem q_506 : Cond.instanceMethod yX4_longestDistance ∈ lw_good := lw_mem 555 (by decide +kernel)
theorem q_507 : Cond.selects RX4 yX4_longestDistance yX4_longestDistance ∈ lw_good := lw_mem 556 (by decide +kernel)
theorem q_508 : Cond.code yX4_longestDistance cX4_longestDistance 6 (some .int) ∈ lw_good := lw_mem 557 (by decide +kernel)
theorem q_509 : Cond.methodLink RX7 176 yX4_likeness ∈ lw_good := lw_mem 558 (by decide +kernel)
theorem q_510 : Cond.methodLink RL 65 yX7_chain ∈ lw_good := lw_mem 559 (by decide +kernel)
theorem q_511 : Cond.instanceMethod yX7_chain ∈ lw_good := lw_mem 560 (by decide +kernel)
theorem q_512 : Cond.selects RX7 yX7_chain yX7_chain ∈ lw_good := lw_mem 561 (by decide +kernel)
theorem q_513 : Cond.code yX7_chain cX7_chain 3 (some .int) ∈ lw_good := lw_mem 562 (by decide +kernel)
theorem q_514 : Cond.methodLink RX7 180 yX4_chainPlace ∈ lw_good := lw_mem 563 (by decide +kernel)
theorem q_515 : Cond.instanceMethod yX4_chainPlace ∈ lw_good := lw_mem 564 (by decide +kernel)
theorem q_516 : Cond.selects RX4 yX4_chainPlace yX4_chainPlace ∈ lw_good := lw_mem 565 (by decide +kernel)
theorem q_517 : Cond.code yX4_chainPlace cX4_chainPlace 5 (some .int) ∈ lw_good := lw_mem 566 (by decide +kernel)
theorem q_518 : Cond.methodLink RL 69 yX7_cheapest ∈ lw_good := lw_mem 567 (by decide +kernel)
theorem q_519 : Cond.instanceMethod yX7_cheapest ∈ lw_good := lw_mem 568 (by decide +kernel)
theorem q_520 : Cond.selects RX7 yX7_cheapest yX7_cheapest ∈ lw_good := lw_mem 569 (by decide +kernel)
theorem q_521 : Cond.code yX7_cheapest cX7_cheapest 3 (some .int) ∈ lw_good := lw_mem 570 (by decide +kernel)
theorem q_522 : Cond.methodLink RX7 183 yX6_get ∈ lw_good := lw_mem 571 (by decide +kernel)
theorem q_523 : Cond.methodLink RX7 185 yX6_signs ∈ lw_good := lw_mem 572 (by decide +kernel)
theorem q_524 : Cond.instanceMethod yX6_signs ∈ lw_good := lw_mem 573 (by decide +kernel)
theorem q_525 : Cond.selects RX6 yX6_signs yX6_signs ∈ lw_good := lw_mem 574 (by decide +kernel)
theorem q_526 : Cond.code yX6_signs cX6_signs 3 (some .int) ∈ lw_good := lw_mem 575 (by decide +kernel)
theorem q_527 : Cond.methodLink RX6 34 yX6_get ∈ lw_good := lw_mem 576 (by decide +kernel)
theorem q_528 : Cond.methodLink RX6 38 yX5_signsOf ∈ lw_good := lw_mem 577 (by decide +kernel)
theorem q_529 : Cond.static yX5_signsOf ∈ lw_good := lw_mem 578 (by decide +kernel)
theorem q_530 : Cond.code yX5_signsOf cX5_signsOf 1 (some .int) ∈ lw_good := lw_mem 579 (by decide +kernel)
theorem q_531 : Cond.methodLink RX5 9 yX5_isPlain ∈ lw_good := lw_mem 580 (by decide +kernel)
theorem q_532 : Cond.methodLink RL 73 yX7_codeOf ∈ lw_good := lw_mem 581 (by decide +kernel)
theorem q_533 : Cond.instanceMethod yX7_codeOf ∈ lw_good := lw_mem 582 (by decide +kernel)
theorem q_534 : Cond.selects RX7 yX7_codeOf yX7_codeOf ∈ lw_good := lw_mem 583 (by decide +kernel)
theorem q_535 : Cond.code yX7_codeOf cX7_codeOf 2 (some .int) ∈ lw_good := lw_mem 584 (by decide +kernel)
theorem q_536 : Cond.methodLink RX7 188 yX6_signAt ∈ lw_good := lw_mem 585 (by decide +kernel)
theorem q_537 : Cond.instanceMethod yX6_signAt ∈ lw_good := lw_mem 586 (by decide +kernel)
theorem q_538 : Cond.selects RX6 yX6_signAt yX6_signAt ∈ lw_good := lw_mem 587 (by decide +kernel)
theorem q_539 : Cond.code yX6_signAt cX6_signAt 5 (some .int) ∈ lw_good := lw_mem 588 (by decide +kernel)
theorem q_540 : Cond.methodLink RX6 41 yX5_signOf ∈ lw_good := lw_mem 589 (by decide +kernel)
theorem q_541 : Cond.static yX5_signOf ∈ lw_good := lw_mem 590 (by decide +kernel)
theorem q_542 : Cond.code yX5_signOf cX5_signOf 2 (some .int) ∈ lw_good := lw_mem 591 (by decide +kernel)
theorem q_543 : Cond.methodLink RX5 15 yX5_lengthOf ∈ lw_good := lw_mem 592 (by decide +kernel)
theorem q_544 : Cond.methodLink RX5 19 yX5_isCopy ∈ lw_good := lw_mem 593 (by decide +kernel)
theorem q_545 : Cond.methodLink RX5 22 yX5_distanceOf ∈ lw_good := lw_mem 594 (by decide +kernel)
theorem q_546 : Cond.methodLink RL 77 yX7_greedy ∈ lw_good := lw_mem 595 (by decide +kernel)
theorem q_547 : Cond.instanceMethod yX7_greedy ∈ lw_good := lw_mem 596 (by decide +kernel)
theorem q_548 : Cond.selects RX7 yX7_greedy yX7_greedy ∈ lw_good := lw_mem 597 (by decide +kernel)
theorem q_549 : Cond.code yX7_greedy cX7_greedy 2 (some .int) ∈ lw_good := lw_mem 598 (by decide +kernel)
theorem q_550 : Cond.methodLink RX7 189 yX7_chooseGreedy ∈ lw_good := lw_mem 599 (by decide +kernel)
theorem q_552 : Cond.instanceMethod yX7_chooseGreedy ∈ lw_good := lw_mem 601 (by decide +kernel)
theorem q_553 : Cond.code yX7_chooseGreedy cX7_chooseGreedy 5 none ∈ lw_good := lw_mem 602 (by decide +kernel)
theorem q_554 : Cond.methodLink RX7 241 yX6_clear ∈ lw_good := lw_mem 603 (by decide +kernel)
theorem q_555 : Cond.methodLink RX7 242 yX6_add ∈ lw_good := lw_mem 604 (by decide +kernel)
theorem q_556 : Cond.methodLink RX7 243 yX5_again ∈ lw_good := lw_mem 605 (by decide +kernel)
theorem q_557 : Cond.methodLink RX7 248 yX5_copy ∈ lw_good := lw_mem 606 (by decide +kernel)
theorem q_558 : Cond.methodLink RX7 251 yJ9_max_7cf53 ∈ lw_good := lw_mem 607 (by decide +kernel)
theorem q_559 : Cond.methodLink RL 81 yX7_parts ∈ lw_good := lw_mem 608 (by decide +kernel)
theorem q_560 : Cond.instanceMethod yX7_parts ∈ lw_good := lw_mem 609 (by decide +kernel)
theorem q_561 : Cond.selects RX7 yX7_parts yX7_parts ∈ lw_good := lw_mem 610 (by decide +kernel)
theorem q_562 : Cond.code yX7_parts cX7_parts 4 (some .int) ∈ lw_good := lw_mem 611 (by decide +kernel)
theorem q_563 : Cond.methodLink RX7 192 yX7_priceOfParts ∈ lw_good := lw_mem 612 (by decide +kernel)
theorem q_565 : Cond.instanceMethod yX7_priceOfParts ∈ lw_good := lw_mem 614 (by decide +kernel)
theorem q_566 : Cond.code yX7_priceOfParts cX7_priceOfParts 5 (some .int) ∈ lw_good := lw_mem 615 (by decide +kernel)
theorem q_567 : Cond.methodLink RX7 256 yJ9_min_7cf53 ∈ lw_good := lw_mem 616 (by decide +kernel)
theorem q_568 : Cond.methodLink RL 85 yX7_count ∈ lw_good := lw_mem 617 (by decide +kernel)
theorem q_569 : Cond.instanceMethod yX7_count ∈ lw_good := lw_mem 618 (by decide +kernel)
theorem q_570 : Cond.selects RX7 yX7_count yX7_count ∈ lw_good := lw_mem 619 (by decide +kernel)
theorem q_571 : Cond.code yX7_count cX7_count 2 (some .int) ∈ lw_good := lw_mem 620 (by decide +kernel)
theorem q_572 : Cond.methodLink RX7 195 yX6_plains ∈ lw_good := lw_mem 621 (by decide +kernel)
theorem q_573 : Cond.methodLink RX7 198 yX6_agains ∈ lw_good := lw_mem 622 (by decide +kernel)
theorem q_574 : Cond.methodLink RX7 201 yX6_copies ∈ lw_good := lw_mem 623 (by decide +kernel)
theorem q_575 : Cond.methodLink RL 89 yX7_digest ∈ lw_good := lw_mem 624 (by decide +kernel)
theorem q_576 : Cond.instanceMethod yX7_digest ∈ lw_good := lw_mem 625 (by decide +kernel)
theorem q_577 : Cond.selects RX7 yX7_digest yX7_digest ∈ lw_good := lw_mem 626 (by decide +kernel)
theorem q_578 : Cond.code yX7_digest cX7_digest 5 (some .long) ∈ lw_good := lw_mem 627 (by decide +kernel)
theorem q_579 : Cond.constantLong RX7 204 1747 ∈ lw_good := lw_mem 628 (by decide +kernel)
theorem q_580 : Cond.methodLink RX7 206 yX7_mix ∈ lw_good := lw_mem 629 (by decide +kernel)
theorem q_581 : Cond.static yX7_mix ∈ lw_good := lw_mem 630 (by decide +kernel)
theorem q_582 : Cond.code yX7_mix cX7_mix 4 (some .long) ∈ lw_good := lw_mem 631 (by decide +kernel)
theorem q_583 : Cond.constantLong RX7 263 31 ∈ lw_good := lw_mem 632 (by decide +kernel)
theorem q_584 : Cond.methodLink RX7 210 yX7_at ∈ lw_good := lw_mem 633 (by decide +kernel)
theorem q_585 : Cond.methodLink RX7 213 yX7_longest ∈ lw_good := lw_mem 634 (by decide +kernel)
theorem q_586 : Cond.methodLink RX7 216 yX7_chain ∈ lw_good := lw_mem 635 (by decide +kernel)
theorem q_587 : Cond.methodLink RX7 219 yX7_cheapest ∈ lw_good := lw_mem 636 (by decide +kernel)
theorem q_588 : Cond.methodLink RX7 222 yX7_greedy ∈ lw_good := lw_mem 637 (by decide +kernel)
theorem q_589 : Cond.methodLink RX7 225 yX7_rest ∈ lw_good := lw_mem 638 (by decide +kernel)
theorem q_590 : Cond.methodLink RX7 228 yX7_parts ∈ lw_good := lw_mem 639 (by decide +kernel)
theorem q_591 : Cond.methodLink RX7 231 yX7_count ∈ lw_good := lw_mem 640 (by decide +kernel)
theorem q_592 : Cond.classLink RL 10 RX8 ∈ lw_good := lw_mem 641 (by decide +kernel)
theorem q_593 : Cond.instantiable RX8 24 ∈ lw_good := lw_mem 642 (by decide +kernel)
theorem q_594 : Cond.methodLink RL 12 yX8_init ∈ lw_good := lw_mem 643 (by decide +kernel)
theorem q_595 : Cond.instanceMethod yX8_init ∈ lw_good := lw_mem 644 (by decide +kernel)
theorem q_596 : Cond.code yX8_init cX8_init 2 none ∈ lw_good := lw_mem 645 (by decide +kernel)
theorem q_597 : Cond.methodLink RX8 1 objectInit ∈ lw_good := lw_mem 646 (by decide +kernel)
theorem q_598 : Cond.fieldLink RX8 53 "PricedCopiesModel" "pageLength" "I" ∈ lw_good := lw_mem 647 (by decide +kernel)
theorem q_599 : Cond.fieldLink RX8 7 "PricedCopiesModel" "page" "[I" ∈ lw_good := lw_mem 648 (by decide +kernel)
theorem q_600 : Cond.fieldLink RX8 92 "PricedCopiesModel" "size" "I" ∈ lw_good := lw_mem 649 (by decide +kernel)
theorem q_601 : Cond.fieldLink RX8 13 "PricedCopiesModel" "text" "[I" ∈ lw_good := lw_mem 650 (by decide +kernel)
theorem q_602 : Cond.fieldLink RX8 16 "PricedCopiesModel" "prices" "[I" ∈ lw_good := lw_mem 651 (by decide +kernel)
theorem q_603 : Cond.fieldLink RX8 175 "PricedCopiesModel" "rounds" "I" ∈ lw_good := lw_mem 652 (by decide +kernel)
theorem q_604 : Cond.fieldLink RX8 95 "PricedCopiesModel" "texts" "I" ∈ lw_good := lw_mem 653 (by decide +kernel)
theorem q_605 : Cond.fieldLink RX8 98 "PricedCopiesModel" "codes" "I" ∈ lw_good := lw_mem 654 (by decide +kernel)
theorem q_606 : Cond.fieldLink RX8 19 "PricedCopiesModel" "made" "[I" ∈ lw_good := lw_mem 655 (by decide +kernel)
theorem q_607 : Cond.fieldLink RX8 61 "PricedCopiesModel" "madeMany" "I" ∈ lw_good := lw_mem 656 (by decide +kernel)
theorem q_608 : Cond.fieldLink RX8 64 "PricedCopiesModel" "cost" "I" ∈ lw_good := lw_mem 657 (by decide +kernel)
theorem q_609 : Cond.fieldLink RX8 67 "PricedCopiesModel" "readAt" "I" ∈ lw_good := lw_mem 658 (by decide +kernel)
theorem q_610 : Cond.fieldLink RX8 70 "PricedCopiesModel" "isCode" "Z" ∈ lw_good := lw_mem 659 (by decide +kernel)
theorem q_611 : Cond.fieldLink RX8 22 "PricedCopiesModel" "price" "[I" ∈ lw_good := lw_mem 660 (by decide +kernel)
theorem q_612 : Cond.fieldLink RX8 25 "PricedCopiesModel" "many" "[I" ∈ lw_good := lw_mem 661 (by decide +kernel)
theorem q_613 : Cond.fieldLink RX8 28 "PricedCopiesModel" "first" "[I" ∈ lw_good := lw_mem 662 (by decide +kernel)
theorem q_614 : Cond.fieldLink RX8 31 "PricedCopiesModel" "like" "[I" ∈ lw_good := lw_mem 663 (by decide +kernel)
theorem q_615 : Cond.fieldLink RX8 34 "PricedCopiesModel" "token" "[I" ∈ lw_good := lw_mem 664 (by decide +kernel)
theorem q_616 : Cond.fieldLink RX8 133 "PricedCopiesModel" "tokens" "I" ∈ lw_good := lw_mem 665 (by decide +kernel)
theorem q_617 : Cond.fieldLink RX8 37 "PricedCopiesModel" "taken" "[I" ∈ lw_good := lw_mem 666 (by decide +kernel)
theorem q_618 : Cond.fieldLink RX8 40 "PricedCopiesModel" "then" "[I" ∈ lw_good := lw_mem 667 (by decide +kernel)
theorem q_619 : Cond.fieldLink RX8 43 "PricedCopiesModel" "saved" "[I" ∈ lw_good := lw_mem 668 (by decide +kernel)
theorem q_620 : Cond.fieldLink RX8 46 "PricedCopiesModel" "rests" "[I" ∈ lw_good := lw_mem 669 (by decide +kernel)
theorem q_621 : Cond.fieldLink RX8 192 "PricedCopiesModel" "h" "J" ∈ lw_good := lw_mem 670 (by decide +kernel)
theorem q_622 : Cond.lays RX8 "PricedCopiesModel" "pageLength" "I" ∈ lw_good := lw_mem 671 (by decide +kernel)
theorem q_624 : Cond.laysFinal RX8 "PricedCopiesModel" "page" "[I" ∈ lw_good := lw_mem 673 (by decide +kernel)
theorem q_626 : Cond.lays RX8 "PricedCopiesModel" "size" "I" ∈ lw_good := lw_mem 675 (by decide +kernel)
theorem q_628 : Cond.laysFinal RX8 "PricedCopiesModel" "text" "[I" ∈ lw_good := lw_mem 677 (by decide +kernel)
theorem q_630 : Cond.laysFinal RX8 "PricedCopiesModel" "prices" "[I" ∈ lw_good := lw_mem 679 (by decide +kernel)
theorem q_632 : Cond.lays RX8 "PricedCopiesModel" "rounds" "I" ∈ lw_good := lw_mem 681 (by decide +kernel)
theorem q_634 : Cond.lays RX8 "PricedCopiesModel" "texts" "I" ∈ lw_good := lw_mem 683 (by decide +kernel)
theorem q_636 : Cond.lays RX8 "PricedCopiesModel" "codes" "I" ∈ lw_good := lw_mem 685 (by decide +kernel)
theorem q_638 : Cond.laysFinal RX8 "PricedCopiesModel" "made" "[I" ∈ lw_good := lw_mem 687 (by decide +kernel)
theorem q_640 : Cond.lays RX8 "PricedCopiesModel" "madeMany" "I" ∈ lw_good := lw_mem 689 (by decide +kernel)
theorem q_642 : Cond.lays RX8 "PricedCopiesModel" "cost" "I" ∈ lw_good := lw_mem 691 (by decide +kernel)
theorem q_644 : Cond.lays RX8 "PricedCopiesModel" "readAt" "I" ∈ lw_good := lw_mem 693 (by decide +kernel)
theorem q_646 : Cond.lays RX8 "PricedCopiesModel" "isCode" "Z" ∈ lw_good := lw_mem 695 (by decide +kernel)
theorem q_648 : Cond.laysFinal RX8 "PricedCopiesModel" "price" "[I" ∈ lw_good := lw_mem 697 (by decide +kernel)
theorem q_650 : Cond.laysFinal RX8 "PricedCopiesModel" "many" "[I" ∈ lw_good := lw_mem 699 (by decide +kernel)
theorem q_652 : Cond.laysFinal RX8 "PricedCopiesModel" "first" "[I" ∈ lw_good := lw_mem 701 (by decide +kernel)
theorem q_654 : Cond.laysFinal RX8 "PricedCopiesModel" "like" "[I" ∈ lw_good := lw_mem 703 (by decide +kernel)
theorem q_656 : Cond.laysFinal RX8 "PricedCopiesModel" "token" "[I" ∈ lw_good := lw_mem 705 (by decide +kernel)
theorem q_658 : Cond.lays RX8 "PricedCopiesModel" "tokens" "I" ∈ lw_good := lw_mem 707 (by decide +kernel)
theorem q_660 : Cond.laysFinal RX8 "PricedCopiesModel" "taken" "[I" ∈ lw_good := lw_mem 709 (by decide +kernel)
theorem q_662 : Cond.laysFinal RX8 "PricedCopiesModel" "then" "[I" ∈ lw_good := lw_mem 711 (by decide +kernel)
theorem q_664 : Cond.laysFinal RX8 "PricedCopiesModel" "saved" "[I" ∈ lw_good := lw_mem 713 (by decide +kernel)
theorem q_666 : Cond.laysFinal RX8 "PricedCopiesModel" "rests" "[I" ∈ lw_good := lw_mem 715 (by decide +kernel)
theorem q_668 : Cond.lays RX8 "PricedCopiesModel" "h" "J" ∈ lw_good := lw_mem 717 (by decide +kernel)
theorem q_671 : Cond.methodLink RL 17 yX8_letter ∈ lw_good := lw_mem 720 (by decide +kernel)
theorem q_672 : Cond.instanceMethod yX8_letter ∈ lw_good := lw_mem 721 (by decide +kernel)
theorem q_673 : Cond.selects RX8 yX8_letter yX8_letter ∈ lw_good := lw_mem 722 (by decide +kernel)
theorem q_674 : Cond.code yX8_letter cX8_letter 2 (some .int) ∈ lw_good := lw_mem 723 (by decide +kernel)
theorem q_675 : Cond.methodLink RX8 49 yX8_within ∈ lw_good := lw_mem 724 (by decide +kernel)
theorem q_676 : Cond.static yX8_within ∈ lw_good := lw_mem 725 (by decide +kernel)
theorem q_677 : Cond.code yX8_within cX8_within 3 (some .boolean) ∈ lw_good := lw_mem 726 (by decide +kernel)
theorem q_678 : Cond.methodLink RL 22 yX8_blank ∈ lw_good := lw_mem 727 (by decide +kernel)
theorem q_679 : Cond.instanceMethod yX8_blank ∈ lw_good := lw_mem 728 (by decide +kernel)
theorem q_680 : Cond.selects RX8 yX8_blank yX8_blank ∈ lw_good := lw_mem 729 (by decide +kernel)
theorem q_681 : Cond.code yX8_blank cX8_blank 2 (some .int) ∈ lw_good := lw_mem 730 (by decide +kernel)
theorem q_682 : Cond.methodLink RL 27 yX8_fault ∈ lw_good := lw_mem 731 (by decide +kernel)
theorem q_683 : Cond.instanceMethod yX8_fault ∈ lw_good := lw_mem 732 (by decide +kernel)
theorem q_684 : Cond.selects RX8 yX8_fault yX8_fault ∈ lw_good := lw_mem 733 (by decide +kernel)
theorem q_685 : Cond.code yX8_fault cX8_fault 2 (some .int) ∈ lw_good := lw_mem 734 (by decide +kernel)
theorem q_686 : Cond.methodLink RX8 85 yX8_textFault ∈ lw_good := lw_mem 735 (by decide +kernel)
theorem q_688 : Cond.instanceMethod yX8_textFault ∈ lw_good := lw_mem 737 (by decide +kernel)
theorem q_689 : Cond.code yX8_textFault cX8_textFault 2 (some .int) ∈ lw_good := lw_mem 738 (by decide +kernel)
theorem q_690 : Cond.methodLink RX8 89 yX8_readCode ∈ lw_good := lw_mem 739 (by decide +kernel)
theorem q_692 : Cond.instanceMethod yX8_readCode ∈ lw_good := lw_mem 741 (by decide +kernel)
theorem q_693 : Cond.code yX8_readCode cX8_readCode 9 none ∈ lw_good := lw_mem 742 (by decide +kernel)
theorem q_694 : Cond.methodLink RX8 74 yX8_copy ∈ lw_good := lw_mem 743 (by decide +kernel)
theorem q_696 : Cond.instanceMethod yX8_copy ∈ lw_good := lw_mem 745 (by decide +kernel)
theorem q_697 : Cond.code yX8_copy cX8_copy 4 none ∈ lw_good := lw_mem 746 (by decide +kernel)
theorem q_698 : Cond.methodLink RX8 78 yX8_againPrice ∈ lw_good := lw_mem 747 (by decide +kernel)
theorem q_700 : Cond.instanceMethod yX8_againPrice ∈ lw_good := lw_mem 749 (by decide +kernel)
theorem q_701 : Cond.code yX8_againPrice cX8_againPrice 2 (some .int) ∈ lw_good := lw_mem 750 (by decide +kernel)
theorem q_702 : Cond.methodLink RX8 81 yX8_copyPrice ∈ lw_good := lw_mem 751 (by decide +kernel)
theorem q_704 : Cond.instanceMethod yX8_copyPrice ∈ lw_good := lw_mem 753 (by decide +kernel)
theorem q_705 : Cond.code yX8_copyPrice cX8_copyPrice 3 (some .int) ∈ lw_good := lw_mem 754 (by decide +kernel)
theorem q_706 : Cond.methodLink RX8 57 yX8_farOf ∈ lw_good := lw_mem 755 (by decide +kernel)
theorem q_707 : Cond.static yX8_farOf ∈ lw_good := lw_mem 756 (by decide +kernel)
theorem q_708 : Cond.code yX8_farOf cX8_farOf 1 (some .int) ∈ lw_good := lw_mem 757 (by decide +kernel)
theorem q_709 : Cond.methodLink RL 31 yX8_text ∈ lw_good := lw_mem 758 (by decide +kernel)
theorem q_710 : Cond.instanceMethod yX8_text ∈ lw_good := lw_mem 759 (by decide +kernel)
theorem q_711 : Cond.selects RX8 yX8_text yX8_text ∈ lw_good := lw_mem 760 (by decide +kernel)
theorem q_712 : Cond.code yX8_text cX8_text 2 (some .int) ∈ lw_good := lw_mem 761 (by decide +kernel)
theorem q_713 : Cond.methodLink RL 35 yX8_decode ∈ lw_good := lw_mem 762 (by decide +kernel)
theorem q_714 : Cond.instanceMethod yX8_decode ∈ lw_good := lw_mem 763 (by decide +kernel)
theorem q_715 : Cond.selects RX8 yX8_decode yX8_decode ∈ lw_good := lw_mem 764 (by decide +kernel)
theorem q_716 : Cond.code yX8_decode cX8_decode 2 (some .int) ∈ lw_good := lw_mem 765 (by decide +kernel)
theorem q_717 : Cond.methodLink RL 39 yX8_priced ∈ lw_good := lw_mem 766 (by decide +kernel)
theorem q_718 : Cond.instanceMethod yX8_priced ∈ lw_good := lw_mem 767 (by decide +kernel)
theorem q_719 : Cond.selects RX8 yX8_priced yX8_priced ∈ lw_good := lw_mem 768 (by decide +kernel)
theorem q_720 : Cond.code yX8_priced cX8_priced 1 (some .int) ∈ lw_good := lw_mem 769 (by decide +kernel)
theorem q_721 : Cond.methodLink RL 44 yX8_price ∈ lw_good := lw_mem 770 (by decide +kernel)
theorem q_722 : Cond.instanceMethod yX8_price ∈ lw_good := lw_mem 771 (by decide +kernel)
theorem q_723 : Cond.selects RX8 yX8_price yX8_price ∈ lw_good := lw_mem 772 (by decide +kernel)
theorem q_724 : Cond.code yX8_price cX8_price 4 (some .int) ∈ lw_good := lw_mem 773 (by decide +kernel)
theorem q_725 : Cond.methodLink RX8 101 yX8_isPrice ∈ lw_good := lw_mem 774 (by decide +kernel)
theorem q_726 : Cond.static yX8_isPrice ∈ lw_good := lw_mem 775 (by decide +kernel)
theorem q_727 : Cond.code yX8_isPrice cX8_isPrice 1 (some .boolean) ∈ lw_good := lw_mem 776 (by decide +kernel)
theorem q_728 : Cond.methodLink RL 48 yX8_priceOf ∈ lw_good := lw_mem 777 (by decide +kernel)
theorem q_729 : Cond.instanceMethod yX8_priceOf ∈ lw_good := lw_mem 778 (by decide +kernel)
theorem q_730 : Cond.selects RX8 yX8_priceOf yX8_priceOf ∈ lw_good := lw_mem 779 (by decide +kernel)
theorem q_731 : Cond.code yX8_priceOf cX8_priceOf 2 (some .int) ∈ lw_good := lw_mem 780 (by decide +kernel)
theorem q_732 : Cond.methodLink RL 60 yX8_at ∈ lw_good := lw_mem 781 (by decide +kernel)
theorem q_733 : Cond.instanceMethod yX8_at ∈ lw_good := lw_mem 782 (by decide +kernel)
theorem q_734 : Cond.selects RX8 yX8_at yX8_at ∈ lw_good := lw_mem 783 (by decide +kernel)
theorem q_735 : Cond.code yX8_at cX8_at 2 (some .int) ∈ lw_good := lw_mem 784 (by decide +kernel)
theorem q_736 : Cond.methodLink RX8 105 yX8_isPlace ∈ lw_good := lw_mem 785 (by decide +kernel)
theorem q_738 : Cond.instanceMethod yX8_isPlace ∈ lw_good := lw_mem 787 (by decide +kernel)
theorem q_739 : Cond.code yX8_isPlace cX8_isPlace 2 (some .boolean) ∈ lw_good := lw_mem 788 (by decide +kernel)
theorem q_740 : Cond.methodLink RL 64 yX8_longest ∈ lw_good := lw_mem 789 (by decide +kernel)
theorem q_741 : Cond.instanceMethod yX8_longest ∈ lw_good := lw_mem 790 (by decide +kernel)
theorem q_742 : Cond.selects RX8 yX8_longest yX8_longest ∈ lw_good := lw_mem 791 (by decide +kernel)
theorem q_743 : Cond.code yX8_longest cX8_longest 3 (some .int) ∈ lw_good := lw_mem 792 (by decide +kernel)
theorem q_744 : Cond.methodLink RX8 115 yX8_longestNow ∈ lw_good := lw_mem 793 (by decide +kernel)
theorem q_746 : Cond.instanceMethod yX8_longestNow ∈ lw_good := lw_mem 795 (by decide +kernel)
theorem q_747 : Cond.code yX8_longestNow cX8_longestNow 4 (some .int) ∈ lw_good := lw_mem 796 (by decide +kernel)
theorem q_748 : Cond.methodLink RX8 112 yX8_farLongest ∈ lw_good := lw_mem 797 (by decide +kernel)
theorem q_750 : Cond.instanceMethod yX8_farLongest ∈ lw_good := lw_mem 799 (by decide +kernel)
theorem q_751 : Cond.code yX8_farLongest cX8_farLongest 6 (some .int) ∈ lw_good := lw_mem 800 (by decide +kernel)
theorem q_752 : Cond.methodLink RX8 108 yX8_likeness ∈ lw_good := lw_mem 801 (by decide +kernel)
theorem q_754 : Cond.instanceMethod yX8_likeness ∈ lw_good := lw_mem 803 (by decide +kernel)
theorem q_755 : Cond.code yX8_likeness cX8_likeness 5 (some .int) ∈ lw_good := lw_mem 804 (by decide +kernel)
theorem q_756 : Cond.methodLink RL 68 yX8_chain ∈ lw_good := lw_mem 805 (by decide +kernel)
theorem q_757 : Cond.instanceMethod yX8_chain ∈ lw_good := lw_mem 806 (by decide +kernel)
theorem q_758 : Cond.selects RX8 yX8_chain yX8_chain ∈ lw_good := lw_mem 807 (by decide +kernel)
theorem q_759 : Cond.code yX8_chain cX8_chain 3 (some .int) ∈ lw_good := lw_mem 808 (by decide +kernel)
theorem q_760 : Cond.methodLink RX8 118 yX8_chainNow ∈ lw_good := lw_mem 809 (by decide +kernel)
theorem q_762 : Cond.instanceMethod yX8_chainNow ∈ lw_good := lw_mem 811 (by decide +kernel)
theorem q_763 : Cond.code yX8_chainNow cX8_chainNow 5 (some .int) ∈ lw_good := lw_mem 812 (by decide +kernel)
theorem q_764 : Cond.methodLink RL 72 yX8_cheapest ∈ lw_good := lw_mem 813 (by decide +kernel)
theorem q_765 : Cond.instanceMethod yX8_cheapest ∈ lw_good := lw_mem 814 (by decide +kernel)
theorem q_766 : Cond.selects RX8 yX8_cheapest yX8_cheapest ∈ lw_good := lw_mem 815 (by decide +kernel)
theorem q_767 : Cond.code yX8_cheapest cX8_cheapest 2 (some .int) ∈ lw_good := lw_mem 816 (by decide +kernel)
theorem q_768 : Cond.methodLink RX8 142 yX8_layTokens ∈ lw_good := lw_mem 817 (by decide +kernel)
theorem q_770 : Cond.instanceMethod yX8_layTokens ∈ lw_good := lw_mem 819 (by decide +kernel)
theorem q_771 : Cond.code yX8_layTokens cX8_layTokens 4 none ∈ lw_good := lw_mem 820 (by decide +kernel)
theorem q_772 : Cond.methodLink RX8 130 yX8_layCheapest ∈ lw_good := lw_mem 821 (by decide +kernel)
theorem q_774 : Cond.instanceMethod yX8_layCheapest ∈ lw_good := lw_mem 823 (by decide +kernel)
theorem q_775 : Cond.code yX8_layCheapest cX8_layCheapest 5 (some .int) ∈ lw_good := lw_mem 824 (by decide +kernel)
theorem q_776 : Cond.methodLink RX8 126 yX8_layState ∈ lw_good := lw_mem 825 (by decide +kernel)
theorem q_778 : Cond.instanceMethod yX8_layState ∈ lw_good := lw_mem 827 (by decide +kernel)
theorem q_779 : Cond.code yX8_layState cX8_layState 9 none ∈ lw_good := lw_mem 828 (by decide +kernel)
theorem q_780 : Cond.constant RX8 121 268435456 ∈ lw_good := lw_mem 829 (by decide +kernel)
theorem q_781 : Cond.methodLink RX8 122 yX8_way ∈ lw_good := lw_mem 830 (by decide +kernel)
theorem q_783 : Cond.instanceMethod yX8_way ∈ lw_good := lw_mem 832 (by decide +kernel)
theorem q_784 : Cond.code yX8_way cX8_way 8 none ∈ lw_good := lw_mem 833 (by decide +kernel)
theorem q_785 : Cond.methodLink RX8 136 yX8_lengthOf ∈ lw_good := lw_mem 834 (by decide +kernel)
theorem q_786 : Cond.static yX8_lengthOf ∈ lw_good := lw_mem 835 (by decide +kernel)
theorem q_787 : Cond.code yX8_lengthOf cX8_lengthOf 1 (some .int) ∈ lw_good := lw_mem 836 (by decide +kernel)
theorem q_788 : Cond.methodLink RX8 145 yX8_cheapestTold ∈ lw_good := lw_mem 837 (by decide +kernel)
theorem q_790 : Cond.instanceMethod yX8_cheapestTold ∈ lw_good := lw_mem 839 (by decide +kernel)
theorem q_791 : Cond.code yX8_cheapestTold cX8_cheapestTold 2 (some .int) ∈ lw_good := lw_mem 840 (by decide +kernel)
theorem q_792 : Cond.methodLink RX8 139 yX8_lettersOf ∈ lw_good := lw_mem 841 (by decide +kernel)
theorem q_794 : Cond.instanceMethod yX8_lettersOf ∈ lw_good := lw_mem 843 (by decide +kernel)
theorem q_795 : Cond.code yX8_lettersOf cX8_lettersOf 3 (some .int) ∈ lw_good := lw_mem 844 (by decide +kernel)
theorem q_796 : Cond.methodLink RL 76 yX8_codeOf ∈ lw_good := lw_mem 845 (by decide +kernel)
theorem q_797 : Cond.instanceMethod yX8_codeOf ∈ lw_good := lw_mem 846 (by decide +kernel)
theorem q_798 : Cond.selects RX8 yX8_codeOf yX8_codeOf ∈ lw_good := lw_mem 847 (by decide +kernel)
theorem q_799 : Cond.code yX8_codeOf cX8_codeOf 2 (some .int) ∈ lw_good := lw_mem 848 (by decide +kernel)
theorem q_800 : Cond.methodLink RX8 148 yX8_codeNow ∈ lw_good := lw_mem 849 (by decide +kernel)
theorem q_802 : Cond.instanceMethod yX8_codeNow ∈ lw_good := lw_mem 851 (by decide +kernel)
theorem q_803 : Cond.code yX8_codeNow cX8_codeNow 5 (some .int) ∈ lw_good := lw_mem 852 (by decide +kernel)
theorem q_804 : Cond.methodLink RL 80 yX8_greedy ∈ lw_good := lw_mem 853 (by decide +kernel)
theorem q_805 : Cond.instanceMethod yX8_greedy ∈ lw_good := lw_mem 854 (by decide +kernel)
theorem q_806 : Cond.selects RX8 yX8_greedy yX8_greedy ∈ lw_good := lw_mem 855 (by decide +kernel)
theorem q_807 : Cond.code yX8_greedy cX8_greedy 2 (some .int) ∈ lw_good := lw_mem 856 (by decide +kernel)
theorem q_808 : Cond.methodLink RX8 151 yX8_greedyNow ∈ lw_good := lw_mem 857 (by decide +kernel)
theorem q_810 : Cond.instanceMethod yX8_greedyNow ∈ lw_good := lw_mem 859 (by decide +kernel)
theorem q_811 : Cond.code yX8_greedyNow cX8_greedyNow 8 (some .int) ∈ lw_good := lw_mem 860 (by decide +kernel)
theorem q_812 : Cond.methodLink RL 84 yX8_parts ∈ lw_good := lw_mem 861 (by decide +kernel)
theorem q_813 : Cond.instanceMethod yX8_parts ∈ lw_good := lw_mem 862 (by decide +kernel)
theorem q_814 : Cond.selects RX8 yX8_parts yX8_parts ∈ lw_good := lw_mem 863 (by decide +kernel)
theorem q_815 : Cond.code yX8_parts cX8_parts 3 (some .int) ∈ lw_good := lw_mem 864 (by decide +kernel)
theorem q_816 : Cond.methodLink RX8 157 yX8_partsNow ∈ lw_good := lw_mem 865 (by decide +kernel)
theorem q_818 : Cond.instanceMethod yX8_partsNow ∈ lw_good := lw_mem 867 (by decide +kernel)
theorem q_819 : Cond.code yX8_partsNow cX8_partsNow 4 (some .int) ∈ lw_good := lw_mem 868 (by decide +kernel)
theorem q_820 : Cond.methodLink RX8 154 yX8_partsPrice ∈ lw_good := lw_mem 869 (by decide +kernel)
theorem q_822 : Cond.instanceMethod yX8_partsPrice ∈ lw_good := lw_mem 871 (by decide +kernel)
theorem q_823 : Cond.code yX8_partsPrice cX8_partsPrice 4 (some .int) ∈ lw_good := lw_mem 872 (by decide +kernel)
theorem q_824 : Cond.methodLink RL 52 yX8_round ∈ lw_good := lw_mem 873 (by decide +kernel)
theorem q_825 : Cond.instanceMethod yX8_round ∈ lw_good := lw_mem 874 (by decide +kernel)
theorem q_826 : Cond.selects RX8 yX8_round yX8_round ∈ lw_good := lw_mem 875 (by decide +kernel)
theorem q_827 : Cond.code yX8_round cX8_round 1 (some .int) ∈ lw_good := lw_mem 876 (by decide +kernel)
theorem q_828 : Cond.methodLink RX8 178 yX8_roundNow ∈ lw_good := lw_mem 877 (by decide +kernel)
theorem q_830 : Cond.instanceMethod yX8_roundNow ∈ lw_good := lw_mem 879 (by decide +kernel)
theorem q_831 : Cond.code yX8_roundNow cX8_roundNow 2 (some .int) ∈ lw_good := lw_mem 880 (by decide +kernel)
theorem q_832 : Cond.methodLink RX8 169 yX8_layThen ∈ lw_good := lw_mem 881 (by decide +kernel)
theorem q_834 : Cond.instanceMethod yX8_layThen ∈ lw_good := lw_mem 883 (by decide +kernel)
theorem q_835 : Cond.code yX8_layThen cX8_layThen 4 (some .int) ∈ lw_good := lw_mem 884 (by decide +kernel)
theorem q_836 : Cond.methodLink RX8 160 yX8_layTaken ∈ lw_good := lw_mem 885 (by decide +kernel)
theorem q_838 : Cond.instanceMethod yX8_layTaken ∈ lw_good := lw_mem 887 (by decide +kernel)
theorem q_839 : Cond.code yX8_layTaken cX8_layTaken 3 none ∈ lw_good := lw_mem 888 (by decide +kernel)
theorem q_840 : Cond.methodLink RX8 163 yX8_sum ∈ lw_good := lw_mem 889 (by decide +kernel)
theorem q_842 : Cond.instanceMethod yX8_sum ∈ lw_good := lw_mem 891 (by decide +kernel)
theorem q_843 : Cond.code yX8_sum cX8_sum 5 (some .int) ∈ lw_good := lw_mem 892 (by decide +kernel)
theorem q_844 : Cond.methodLink RX8 166 yX8_log ∈ lw_good := lw_mem 893 (by decide +kernel)
theorem q_845 : Cond.static yX8_log ∈ lw_good := lw_mem 894 (by decide +kernel)
theorem q_846 : Cond.code yX8_log cX8_log 3 (some .int) ∈ lw_good := lw_mem 895 (by decide +kernel)
theorem q_847 : Cond.methodLink RX8 172 yX8_become ∈ lw_good := lw_mem 896 (by decide +kernel)
theorem q_849 : Cond.instanceMethod yX8_become ∈ lw_good := lw_mem 898 (by decide +kernel)
theorem q_850 : Cond.code yX8_become cX8_become 2 none ∈ lw_good := lw_mem 899 (by decide +kernel)
theorem q_851 : Cond.methodLink RL 56 yX8_rest ∈ lw_good := lw_mem 900 (by decide +kernel)
theorem q_852 : Cond.instanceMethod yX8_rest ∈ lw_good := lw_mem 901 (by decide +kernel)
theorem q_853 : Cond.selects RX8 yX8_rest yX8_rest ∈ lw_good := lw_mem 902 (by decide +kernel)
theorem q_854 : Cond.code yX8_rest cX8_rest 2 (some .int) ∈ lw_good := lw_mem 903 (by decide +kernel)
theorem q_855 : Cond.methodLink RX8 181 yX8_layRest ∈ lw_good := lw_mem 904 (by decide +kernel)
theorem q_857 : Cond.instanceMethod yX8_layRest ∈ lw_good := lw_mem 906 (by decide +kernel)
theorem q_858 : Cond.code yX8_layRest cX8_layRest 4 none ∈ lw_good := lw_mem 907 (by decide +kernel)
theorem q_859 : Cond.methodLink RL 88 yX8_count ∈ lw_good := lw_mem 908 (by decide +kernel)
theorem q_860 : Cond.instanceMethod yX8_count ∈ lw_good := lw_mem 909 (by decide +kernel)
theorem q_861 : Cond.selects RX8 yX8_count yX8_count ∈ lw_good := lw_mem 910 (by decide +kernel)
theorem q_862 : Cond.code yX8_count cX8_count 2 (some .int) ∈ lw_good := lw_mem 911 (by decide +kernel)
theorem q_863 : Cond.methodLink RX8 187 yX8_howMany ∈ lw_good := lw_mem 912 (by decide +kernel)
theorem q_865 : Cond.instanceMethod yX8_howMany ∈ lw_good := lw_mem 914 (by decide +kernel)
theorem q_866 : Cond.code yX8_howMany cX8_howMany 2 (some .int) ∈ lw_good := lw_mem 915 (by decide +kernel)
theorem q_867 : Cond.methodLink RX8 184 yX8_tokensOf ∈ lw_good := lw_mem 916 (by decide +kernel)
theorem q_869 : Cond.instanceMethod yX8_tokensOf ∈ lw_good := lw_mem 918 (by decide +kernel)
theorem q_870 : Cond.code yX8_tokensOf cX8_tokensOf 5 (some .int) ∈ lw_good := lw_mem 919 (by decide +kernel)
theorem q_871 : Cond.methodLink RL 93 yX8_digest ∈ lw_good := lw_mem 920 (by decide +kernel)
theorem q_872 : Cond.instanceMethod yX8_digest ∈ lw_good := lw_mem 921 (by decide +kernel)
theorem q_873 : Cond.selects RX8 yX8_digest yX8_digest ∈ lw_good := lw_mem 922 (by decide +kernel)
theorem q_874 : Cond.code yX8_digest cX8_digest 2 (some .long) ∈ lw_good := lw_mem 923 (by decide +kernel)
theorem q_875 : Cond.constantLong RX8 200 1747 ∈ lw_good := lw_mem 924 (by decide +kernel)
theorem q_876 : Cond.methodLink RX8 196 yX8_mix ∈ lw_good := lw_mem 925 (by decide +kernel)
theorem q_878 : Cond.instanceMethod yX8_mix ∈ lw_good := lw_mem 927 (by decide +kernel)
theorem q_879 : Cond.code yX8_mix cX8_mix 3 none ∈ lw_good := lw_mem 928 (by decide +kernel)
theorem q_880 : Cond.constantLong RX8 190 31 ∈ lw_good := lw_mem 929 (by decide +kernel)
theorem q_881 : Cond.methodLink RX8 202 yX8_mixText ∈ lw_good := lw_mem 930 (by decide +kernel)
theorem q_883 : Cond.instanceMethod yX8_mixText ∈ lw_good := lw_mem 932 (by decide +kernel)
theorem q_884 : Cond.code yX8_mixText cX8_mixText 2 none ∈ lw_good := lw_mem 933 (by decide +kernel)
theorem in_X0 : ∀ w ∈ u_ws RX0 TX0 4, w ∈ lw_good := by
  intro w hw
  have hw : w ∈ [u_lay RX0 TX0 0, u_lay RX0 TX0 1, u_lay RX0 TX0 2, u_lay RX0 TX0 3] := hw
  simp only [List.mem_cons, List.not_mem_nil, or_false] at hw
  rcases hw with rfl | rfl | rfl | rfl
  · exact q_134
  · exact q_136
  · exact q_138
  · exact q_140
theorem in_X1 : ∀ w ∈ u_ws RX1 TX1 8, w ∈ lw_good := by
  intro w hw
  have hw : w ∈ [u_lay RX1 TX1 0, u_lay RX1 TX1 1, u_lay RX1 TX1 2, u_lay RX1 TX1 3, u_lay RX1 TX1 4, u_lay RX1 TX1 5, u_lay RX1 TX1 6, u_lay RX1 TX1 7] := hw
  simp only [List.mem_cons, List.not_mem_nil, or_false] at hw
  rcases hw with rfl | rfl | rfl | rfl | rfl | rfl | rfl | rfl
  · exact q_66
  · exact q_68
  · exact q_70
  · exact q_72
  · exact q_74
  · exact q_76
  · exact q_78
  · exact q_80
theorem in_X2 : ∀ w ∈ u_ws RX2 TX2 2, w ∈ lw_good := by
  intro w hw
  have hw : w ∈ [u_lay RX2 TX2 0, u_lay RX2 TX2 1] := hw
  simp only [List.mem_cons, List.not_mem_nil, or_false] at hw
  rcases hw with rfl | rfl
  · exact q_27
  · exact q_29
theorem in_X3 : ∀ w ∈ u_ws RX3 TX3 2, w ∈ lw_good := by
  intro w hw
  have hw : w ∈ [u_lay RX3 TX3 0, u_lay RX3 TX3 1] := hw
  simp only [List.mem_cons, List.not_mem_nil, or_false] at hw
  rcases hw with rfl | rfl
  · exact q_118
  · exact q_120
theorem in_X4 : ∀ w ∈ u_ws RX4 TX4 3, w ∈ lw_good := by
  intro w hw
  have hw : w ∈ [u_lay RX4 TX4 0, u_lay RX4 TX4 1, u_lay RX4 TX4 2] := hw
  simp only [List.mem_cons, List.not_mem_nil, or_false] at hw
  rcases hw with rfl | rfl | rfl
  · exact q_94
  · exact q_96
  · exact q_98
theorem in_X6 : ∀ w ∈ u_ws RX6 TX6 4, w ∈ lw_good := by
  intro w hw
  have hw : w ∈ [u_lay RX6 TX6 0, u_lay RX6 TX6 1, u_lay RX6 TX6 2, u_lay RX6 TX6 3] := hw
  simp only [List.mem_cons, List.not_mem_nil, or_false] at hw
  rcases hw with rfl | rfl | rfl | rfl
  · exact q_49
  · exact q_51
  · exact q_53
  · exact q_55
theorem in_X7 : ∀ w ∈ u_ws RX7 TX7 17, w ∈ lw_good := by
  intro w hw
  have hw : w ∈ [u_lay RX7 TX7 0, u_lay RX7 TX7 1, u_lay RX7 TX7 2, u_lay RX7 TX7 3, u_lay RX7 TX7 4, u_lay RX7 TX7 5, u_lay RX7 TX7 6, u_lay RX7 TX7 7, u_lay RX7 TX7 8, u_lay RX7 TX7 9, u_lay RX7 TX7 10, u_lay RX7 TX7 11, u_lay RX7 TX7 12, u_lay RX7 TX7 13, u_lay RX7 TX7 14, u_lay RX7 TX7 15, u_lay RX7 TX7 16] := hw
  simp only [List.mem_cons, List.not_mem_nil, or_false] at hw
  rcases hw with rfl | rfl | rfl | rfl | rfl | rfl | rfl | rfl | rfl | rfl | rfl | rfl | rfl | rfl | rfl | rfl | rfl
  · exact q_162
  · exact q_164
  · exact q_166
  · exact q_168
  · exact q_170
  · exact q_172
  · exact q_174
  · exact q_176
  · exact q_178
  · exact q_180
  · exact q_182
  · exact q_184
  · exact q_186
  · exact q_188
  · exact q_190
  · exact q_192
  · exact q_194
theorem in_X8 : ∀ w ∈ u_ws RX8 TX8 24, w ∈ lw_good := by
  intro w hw
  have hw : w ∈ [u_lay RX8 TX8 0, u_lay RX8 TX8 1, u_lay RX8 TX8 2, u_lay RX8 TX8 3, u_lay RX8 TX8 4, u_lay RX8 TX8 5, u_lay RX8 TX8 6, u_lay RX8 TX8 7, u_lay RX8 TX8 8, u_lay RX8 TX8 9, u_lay RX8 TX8 10, u_lay RX8 TX8 11, u_lay RX8 TX8 12, u_lay RX8 TX8 13, u_lay RX8 TX8 14, u_lay RX8 TX8 15, u_lay RX8 TX8 16, u_lay RX8 TX8 17, u_lay RX8 TX8 18, u_lay RX8 TX8 19, u_lay RX8 TX8 20, u_lay RX8 TX8 21, u_lay RX8 TX8 22, u_lay RX8 TX8 23] := hw
  simp only [List.mem_cons, List.not_mem_nil, or_false] at hw
  rcases hw with rfl | rfl | rfl | rfl | rfl | rfl | rfl | rfl | rfl | rfl | rfl | rfl | rfl | rfl | rfl | rfl | rfl | rfl | rfl | rfl | rfl | rfl | rfl | rfl
  · exact q_622
  · exact q_624
  · exact q_626
  · exact q_628
  · exact q_630
  · exact q_632
  · exact q_634
  · exact q_636
  · exact q_638
  · exact q_640
  · exact q_642
  · exact q_644
  · exact q_646
  · exact q_648
  · exact q_650
  · exact q_652
  · exact q_654
  · exact q_656
  · exact q_658
  · exact q_660
  · exact q_662
  · exact q_664
  · exact q_666
  · exact q_668
end
section
/-! ===== numbers: an int is zI z, a long zL z, of an Int z ===== -/
def zI (z : Int) : Int32 := Int32.ofInt z
def zL (z : Int) : Int64 := Int64.ofInt z
def iv (z : Int) : Value := .int (zI z)
def lvv (z : Int) : Value := .long (zL z)
def rf (B0 : Nat) (t : Int) : Value := .ref (B0 + t.toNat)
theorem zI_add (a b : Int) : zI (a + b) = zI a + zI b := Int32.ofInt_add a b
theorem zI_mul (a b : Int) : zI (a * b) = zI a * zI b := Int32.ofInt_mul a b
theorem zI_sub (a b : Int) : zI (a - b) = zI a - zI b := Int32.ofInt_sub a b
theorem zL_add (a b : Int) : zL (a + b) = zL a + zL b := Int64.ofInt_add a b
theorem zL_mul (a b : Int) : zL (a * b) = zL a * zL b := Int64.ofInt_mul a b
theorem zI_toInt {z : Int} (h : -2147483648 ≤ z ∧ z ≤ 2147483647) : (zI z).toInt = z := by
  unfold zI
  rw [Int32.toInt_ofInt, show Int32.size = 4294967296 from rfl, Int.bmod_def]
  split <;> omega
theorem zI_self (x : Int32) : zI x.toInt = x := Int32.ofInt_toInt x
theorem zI_of (x : Int32) : ∃ z : Int, (-2147483648 ≤ z ∧ z ≤ 2147483647) ∧ x = zI z := ⟨x.toInt, ⟨Int32.le_toInt x, by have := Int32.toInt_lt x; omega⟩, (zI_self x).symm⟩
theorem zI_lt {a b : Int} (ha : -2147483648 ≤ a ∧ a ≤ 2147483647) (hb : -2147483648 ≤ b ∧ b ≤ 2147483647) : zI a < zI b ↔ a < b := by
  rw [Int32.lt_iff_toInt_lt, zI_toInt ha, zI_toInt hb]
theorem zI_le {a b : Int} (ha : -2147483648 ≤ a ∧ a ≤ 2147483647) (hb : -2147483648 ≤ b ∧ b ≤ 2147483647) : zI a ≤ zI b ↔ a ≤ b := by
  rw [Int32.le_iff_toInt_le, zI_toInt ha, zI_toInt hb]
theorem zI_eq {a b : Int} (ha : -2147483648 ≤ a ∧ a ≤ 2147483647) (hb : -2147483648 ≤ b ∧ b ≤ 2147483647) : zI a = zI b ↔ a = b := by
  rw [← Int32.toInt_inj, zI_toInt ha, zI_toInt hb]
theorem zI_zero : zI 0 = 0 := rfl
theorem zI_long {z : Int} (h : -2147483648 ≤ z ∧ z ≤ 2147483647) : (zI z).toInt64 = zL z := by
  apply Int64.toInt_inj.mp
  rw [Int32.toInt_toInt64, zI_toInt h]
  unfold zL
  rw [Int64.toInt_ofInt, show Int64.size = 18446744073709551616 from rfl, Int.bmod_def]
  split <;> omega
theorem zI_nat {z : Int} (h0 : 0 ≤ z) (h : z ≤ 2147483647) : (zI z).toNatClampNeg = z.toNat := by
  have e : zI z = nI z.toNat := by
    unfold zI nI
    rw [← Int32.ofInt_eq_ofNat]
    congr 1
    omega
  rw [e, nI_clamp (by omega)]
theorem zI_in {z : Int} {N : Nat} (h0 : 0 ≤ z) (h : z < N) (hN : N ≤ 2147483647) : vp_in (zI z) N := by
  unfold vp_in
  rw [zI_nat h0 (by omega)]
  rintro (h1 | h1)
  · have := (zI_lt (a := z) (b := 0) (by omega) (by omega)).mp h1
    omega
  · omega
theorem zI_div {a b : Int} (ha : 0 ≤ a ∧ a ≤ 2147483647) (hb : 0 < b ∧ b ≤ 2147483647) : zI a / zI b = zI (a / b) := by
  have e : ∀ {z : Int}, 0 ≤ z → zI z = nI z.toNat := by
    intro z hz
    unfold zI nI
    rw [← Int32.ofInt_eq_ofNat]
    congr 1
    omega
  have hq : 0 ≤ a / b := Int.ediv_nonneg ha.1 (by omega)
  rw [e ha.1, e (by omega : 0 ≤ b), e hq, pk_div (by omega) (by omega) (by omega)]
  congr 1
  have h1 : ((a.toNat / b.toNat : Nat) : Int) = a / b := by
    rw [Int.natCast_ediv, Int.toNat_of_nonneg ha.1, Int.toNat_of_nonneg (by omega : 0 ≤ b)]
  omega
theorem zI_rem {a b : Int} (ha : 0 ≤ a ∧ a ≤ 2147483647) (hb : 0 < b ∧ b ≤ 2147483647) : zI a - zI a / zI b * zI b = zI (a % b) := by
  rw [zI_div ha hb, ← zI_mul, ← zI_sub]
  congr 1
  have := Int.emod_add_mul_ediv a b
  have h2 : b * (a / b) = a / b * b := Int.mul_comm _ _
  omega
/-! ===== the heap's picture: cells by their numbers from B0 on; what they hold is an Int -/
abbrev jPhi : Type := Int → Int → Int
abbrev jSl : Type := Int ⊕ Nat
abbrev jKd : Type := (Nat × List jSl) ⊕ (Nat ⊕ (Nat × Int))
abbrev jG : Type := va_G × ClassId × ClassId
/-- one place written -/
def zU (φ : jPhi) (i k v : Int) : jPhi := fun a b => if a = i ∧ b = k then v else φ a b
theorem zU_self (φ : jPhi) (i k v : Int) : zU φ i k v i k = v := by simp [zU]
theorem zU_ne {φ : jPhi} {i k v a b : Int} (h : ¬ (a = i ∧ b = k)) : zU φ i k v a b = φ a b := by simp [zU, h]
def jval (B0 : Nat) (c : jSl) (z : Int) : Value := match c with
  | .inl t => rf B0 t
  | .inr 0 => iv z
  | .inr 1 => lvv z
  | .inr _ => .null
abbrev jclasses : List vw_C := [(RX0, TX0, 4), (RX1, TX1, 8), (RX2, TX2, 2), (RX3, TX3, 2), (RX4, TX4, 3), (RX6, TX6, 4), (RX7, TX7, 17), (RX8, TX8, 24)]
def jcell (G : jG) (B0 : Nat) (φ : jPhi) (i : Int) (kd : jKd) (H : Heap) : Prop := match kd with
  | .inl o => t_OB (B0 + i.toNat) (G.1.1 o.1) o.2.length (G.1.2 o.1) H (fun k => jval B0 (o.2.getD k (.inr 2)) (φ i k))
  | .inr (.inl N) => H[B0 + i.toNat]? = some (arrV G.2.1 N (fun j => iv (φ i j)))
  | .inr (.inr q) => H[B0 + i.toNat]? = some (arrV G.2.2 q.1 (fun j => rf B0 (q.2 + j)))
def jP (G : jG) (B0 : Nat) (κ : Int → Option jKd) (n : Nat) (φ : jPhi) (H : Heap) : Prop :=
  H.size = B0 + n ∧ ∀ (i : Int) (kd : jKd), κ i = some kd → (0 ≤ i ∧ i.toNat < n) ∧ jcell G B0 φ i kd H
def jnest : List Cond := [.methodLinkNest RX7 9 yX2_init "PricedCopies", .methodLinkNest RX7 18 yX1_init "PricedCopies", .methodLinkNest RX1 17 yX6_init "PricedCopies", .methodLinkNest RX7 25 yX4_init "PricedCopies", .methodLinkNest RX7 32 yX3_init "PricedCopies", .methodLinkNest RX7 39 yX0_init "PricedCopies", .methodLinkNest RX7 46 yX6_init "PricedCopies", .methodLinkNest RX3 48 yX7_log "PricedCopies", .methodLinkNest RX3 26 yX7_isPrice "PricedCopies", .fieldLinkNest RX3 9 "PricedCopies" "FIRST_PRICES" "[I" "PricedCopies"]
def jK (G : jG) (s : State) : Prop := va_K G.1 jclasses [(G.2.1, .int), (G.2.2, .array .int)] s ∧ ∀ w ∈ jnest, va_Nw w s
theorem jK.warm {G : jG} {s U : State} (hW : s.WarmedH U.vm) (h : jK G s) : jK G U := by
  refine ⟨va_K.moved hW.alike h.1, fun w hw => ?_⟩
  have h1 := h.2 w hw
  simp only [jnest, List.mem_cons, List.not_mem_nil, or_false] at hw
  rcases hw with rfl | rfl | rfl | rfl | rfl | rfl | rfl | rfl | rfl | rfl
  · exact h1.warmM hW
  · exact h1.warmM hW
  · exact h1.warmM hW
  · exact h1.warmM hW
  · exact h1.warmM hW
  · exact h1.warmM hW
  · exact h1.warmM hW
  · exact h1.warmM hW
  · exact h1.warmM hW
  · exact h1.warmF hW
theorem jK.calling {G : jG} {U : State} {a : Array Value} {g : JFrame} {mk : MethodId} (h : jK G U) : jK G (U.calling g mk a) := by
  refine ⟨va_K.moved (u := U) (U := U.calling g mk a) (Vm.Alike.refl U.vm) h.1, fun w hw => ?_⟩
  have h1 := h.2 w hw
  simp only [jnest, List.mem_cons, List.not_mem_nil, or_false] at hw
  rcases hw with rfl | rfl | rfl | rfl | rfl | rfl | rfl | rfl | rfl | rfl <;> exact va_Nw.same rfl (u := U) (U := U.calling g mk a) rfl h1
/-! ===== the locals: a list, none where nothing is known ===== -/
def jprs : Nat → List (Option Value) → List (Nat × Value)
  | _, [] => []
  | k, none :: r => jprs (k + 1) r
  | k, some v :: r => (k, v) :: jprs (k + 1) r
theorem jprs_mem : ∀ (lv : List (Option Value)) (b k : Nat) (v : Value), (k, v) ∈ jprs b lv ↔ b ≤ k ∧ lv[k - b]? = some (some v)
  | [], b, k, v => by simp [jprs]
  | none :: r, b, k, v => by
    rw [jprs, jprs_mem r (b + 1) k v]
    by_cases h : b = k
    · subst h
      simp
      omega
    · by_cases h2 : b + 1 ≤ k
      · have e : k - b = (k - (b + 1)) + 1 := by omega
        rw [e, List.getElem?_cons_succ]
        constructor
        · rintro ⟨_, h3⟩; exact ⟨by omega, h3⟩
        · rintro ⟨_, h3⟩; exact ⟨by omega, h3⟩
      · constructor
        · rintro ⟨h3, _⟩; omega
        · rintro ⟨h3, _⟩; omega
  | some w :: r, b, k, v => by
    rw [jprs, List.mem_cons, jprs_mem r (b + 1) k v]
    by_cases h : b = k
    · subst h
      simp
      constructor
      · rintro (h | h)
        · exact h.symm
        · omega
      · intro h
        exact Or.inl h.symm
    · by_cases h2 : b + 1 ≤ k
      · have e : k - b = (k - (b + 1)) + 1 := by omega
        rw [e, List.getElem?_cons_succ]
        constructor
        · rintro (h3 | ⟨_, h3⟩)
          · cases h3; exact absurd rfl h
          · exact ⟨by omega, h3⟩
        · rintro ⟨_, h3⟩; exact Or.inr ⟨by omega, h3⟩
      · constructor
        · rintro (h3 | ⟨h3, _⟩)
          · cases h3; exact absurd rfl h
          · omega
        · rintro ⟨h3, _⟩; omega
def jlh (ls : Array Slot) (nL : Nat) (lv : List (Option Value)) : Prop := lv_has ls nL (jprs 0 lv)
theorem jlh.get {ls : Array Slot} {nL : Nat} {lv : List (Option Value)} (h : jlh ls nL lv) {k : Nat} {v : Value} (hk : lv[k]? = some (some v)) : ls[k]? = some (.val v) :=
  h.2.2 (k, v) ((jprs_mem lv 0 k v).mpr ⟨Nat.zero_le _, hk⟩)
theorem jlh.set {ls : Array Slot} {nL : Nat} {lv : List (Option Value)} {i : Nat} {v : Value} {t : List (Nat × Value)} (ht : t = (i, v) :: (jprs 0 lv).filter (fun q => !(q.1 == i) && !(q.1 + 1 == i && q.2.category == 2))) (h : lv_has ls nL t) (hc : ∀ w : Value, 0 < i → lv[i - 1]? = some (some w) → w.category = 1) : jlh ls nL (lv.set i (some v)) := by
  refine ⟨h.1, h.2.1, fun q hq => h.2.2 q ?_⟩
  rw [ht]
  obtain ⟨k, w⟩ := q
  obtain ⟨-, h2⟩ := (jprs_mem _ 0 k w).mp hq
  by_cases hk : k = i
  · subst hk
    rw [Nat.sub_zero, List.getElem?_set] at h2
    simp at h2
    rw [h2.2]
    exact List.mem_cons_self
  · rw [Nat.sub_zero, List.getElem?_set_ne (Ne.symm hk)] at h2
    refine List.mem_cons_of_mem _ (List.mem_filter.mpr ⟨(jprs_mem lv 0 k w).mpr ⟨Nat.zero_le _, h2⟩, ?_⟩)
    by_cases hk2 : k + 1 = i
    · have := hc w (by omega) (by rw [← hk2]; exact h2)
      simp [hk, this]
    · simp [hk, hk2]
/-! ===== the walk's judgement ===== -/
abbrev jX : Type := Program × Launch × Env × Room × State × MethodId × Array Value × List Frame × Method × Code
abbrev jX.p (X : jX) : Program := X.1
abbrev jX.l (X : jX) : Launch := X.2.1
abbrev jX.e (X : jX) : Env := X.2.2.1
abbrev jX.R (X : jX) : Room := X.2.2.2.1
abbrev jX.s (X : jX) : State := X.2.2.2.2.1
abbrev jX.m (X : jX) : MethodId := X.2.2.2.2.2.1
abbrev jX.args (X : jX) : Array Value := X.2.2.2.2.2.2.1
abbrev jX.below (X : jX) : List Frame := X.2.2.2.2.2.2.2.1
abbrev jX.meth (X : jX) : Method := X.2.2.2.2.2.2.2.2.1
abbrev jX.c (X : jX) : Code := X.2.2.2.2.2.2.2.2.2
/-- what is fixed in a method's walk: the machine, the code cc of nL locals, the class own, the words, the tables, room for d levels of calls -/
def jF (X : jX) (G : jG) (cc : ByteArray) (nL : Nat) (own : String) (d kc ks : Nat) : Prop :=
  X.p.tables.exec = Jvm.exec ∧ X.c.code = cc ∧ X.c.maxLocals = nL ∧ X.s.vm.findClass own = some X.m.cls ∧ (∀ w ∈ lw_good, w.before X.args X.s = true) ∧ jK G X.s ∧ (d ≤ X.R.frames ∧ 40 * d ≤ X.R.locals) ∧ (kc ≤ X.R.cells ∧ ks ≤ X.R.slots)
def jW (X : jX) (H : Heap) (locs : List Loc) (kc ks : Nat) (Q : State → Prop) (g : JFrame) : Prop := W X.p X.l X.e X.R X.s X.m X.args X.below X.meth X.c H locs kc ks Q g
def jJ (X : jX) (G : jG) (B0 : Nat) (κ : Int → Option jKd) (n kc ks : Nat) (Q : State → Prop) (nL : Nat) (φ : jPhi) (pc : Nat) (lv : List (Option Value)) (st : List Value) : Prop :=
  ∀ (H : Heap) (locs : List Loc) (ls : Array Slot), jP G B0 κ n φ H → va_S (fun q => B0 ≤ q) X.s.heap H locs → jlh ls nL lv → jW X H locs kc ks Q (F0 X.m pc ls st)
section JROWS
variable {X : jX} {G : jG} {B0 : Nat} {κ : Int → Option jKd} {n kc ks : Nat} {Q : State → Prop} {nL : Nat} {φ : jPhi} {pc : Nat} {lv : List (Option Value)} {st : List Value} {cc : ByteArray} {own : String} {d : Nat}
theorem j_iconst (F : jF X G cc nL own d kc ks) {z : Int} {n' : Nat} (hd : decode cc pc = .ok (.iconst z, 1)) (hn : pc + 1 = n') (k : jJ X G B0 κ n kc ks Q nL φ n' lv (iv z :: st)) : jJ X G B0 κ n kc ks Q nL φ pc lv st := by
  subst hn; intro H locs ls hP hS hl
  exact lv_iconst F.1 F.2.1 hd rfl (k H locs ls hP hS hl)
theorem j_bipush (F : jF X G cc nL own d kc ks) {z : Int} {n' : Nat} (hd : decode cc pc = .ok (.bipush z, 2)) (hz : -128 ≤ z ∧ z ≤ 127) (hn : pc + 2 = n') (k : jJ X G B0 κ n kc ks Q nL φ n' lv (iv z :: st)) : jJ X G B0 κ n kc ks Q nL φ pc lv st := by
  subst hn; intro H locs ls hP hS hl
  refine lv_bipush F.1 F.2.1 hd ?_ (k H locs ls hP hS hl)
  apply Int32.toInt_inj.mp
  rw [Int8.toInt_toInt32, zI_toInt (by omega), Int8.toInt_ofInt, show Int8.size = 256 from rfl, Int.bmod_def]
  split <;> omega
theorem j_sipush (F : jF X G cc nL own d kc ks) {z : Int} {n' : Nat} (hd : decode cc pc = .ok (.sipush z, 3)) (hz : -32768 ≤ z ∧ z ≤ 32767) (hn : pc + 3 = n') (k : jJ X G B0 κ n kc ks Q nL φ n' lv (iv z :: st)) : jJ X G B0 κ n kc ks Q nL φ pc lv st := by
  subst hn; intro H locs ls hP hS hl
  refine lv_sipush F.1 F.2.1 hd ?_ (k H locs ls hP hS hl)
  apply Int32.toInt_inj.mp
  rw [Int16.toInt_toInt32, zI_toInt (by omega), Int16.toInt_ofInt, show Int16.size = 65536 from rfl, Int.bmod_def]
  split <;> omega
theorem j_iload_n (F : jF X G cc nL own d kc ks) {i : Fin 4} {z : Int} {n' : Nat} (hl : lv[(i : Nat)]? = some (some (iv z))) (hd : decode cc pc = .ok (.iload_n i, 1)) (hn : pc + 1 = n') (k : jJ X G B0 κ n kc ks Q nL φ n' lv (iv z :: st)) : jJ X G B0 κ n kc ks Q nL φ pc lv st := by
  subst hn; intro H locs ls hP hS hl'
  exact lv_iload_n F.1 F.2.1 hd rfl (hl'.get hl) (k H locs ls hP hS hl')
theorem j_iload (F : jF X G cc nL own d kc ks) {i : Nat} {z : Int} {n' : Nat} (hl : lv[i]? = some (some (iv z))) (hd : decode cc pc = .ok (.iload i, 2)) (hn : pc + 2 = n') (k : jJ X G B0 κ n kc ks Q nL φ n' lv (iv z :: st)) : jJ X G B0 κ n kc ks Q nL φ pc lv st := by
  subst hn; intro H locs ls hP hS hl'
  exact lv_iload F.1 F.2.1 hd (hl'.get hl) (k H locs ls hP hS hl')
theorem j_lload_n (F : jF X G cc nL own d kc ks) {i : Fin 4} {z : Int} {n' : Nat} (hl : lv[(i : Nat)]? = some (some (lvv z))) (hd : decode cc pc = .ok (.lload_n i, 1)) (hn : pc + 1 = n') (k : jJ X G B0 κ n kc ks Q nL φ n' lv (lvv z :: st)) : jJ X G B0 κ n kc ks Q nL φ pc lv st := by
  subst hn; intro H locs ls hP hS hl'
  exact lv_lload_n F.1 F.2.1 hd rfl (hl'.get hl) (k H locs ls hP hS hl')
theorem j_aload_n (F : jF X G cc nL own d kc ks) {i : Fin 4} {z : Int} {n' : Nat} (hl : lv[(i : Nat)]? = some (some (rf B0 z))) (hd : decode cc pc = .ok (.aload_n i, 1)) (hn : pc + 1 = n') (k : jJ X G B0 κ n kc ks Q nL φ n' lv (rf B0 z :: st)) : jJ X G B0 κ n kc ks Q nL φ pc lv st := by
  subst hn; intro H locs ls hP hS hl'
  exact lv_aload_n F.1 F.2.1 hd rfl (hl'.get hl) (k H locs ls hP hS hl')
theorem j_aload (F : jF X G cc nL own d kc ks) {i : Nat} {z : Int} {n' : Nat} (hl : lv[i]? = some (some (rf B0 z))) (hd : decode cc pc = .ok (.aload i, 2)) (hn : pc + 2 = n') (k : jJ X G B0 κ n kc ks Q nL φ n' lv (rf B0 z :: st)) : jJ X G B0 κ n kc ks Q nL φ pc lv st := by
  subst hn; intro H locs ls hP hS hl'
  exact lv_aload F.1 F.2.1 hd (hl'.get hl) (k H locs ls hP hS hl')
theorem j_istore_n (F : jF X G cc nL own d kc ks) {i : Fin 4} {z : Int} {n' : Nat} {lv' : List (Option Value)} (hs : lv.set (i : Nat) (some (iv z)) = lv') (hi : (i : Nat) < nL) (hc : ∀ w : Value, 0 < (i : Nat) → lv[(i : Nat) - 1]? = some (some w) → w.category = 1) (hd : decode cc pc = .ok (.istore_n i, 1)) (hn : pc + 1 = n') (k : jJ X G B0 κ n kc ks Q nL φ n' lv' st) : jJ X G B0 κ n kc ks Q nL φ pc lv (iv z :: st) := by
  subst hn; subst hs; intro H locs ls hP hS hl'
  exact lv_istore_n F.1 F.2.1 hd rfl hl' hi rfl (fun ls' h => k H locs ls' hP hS (jlh.set rfl h hc))
theorem j_istore (F : jF X G cc nL own d kc ks) {i : Nat} {z : Int} {n' : Nat} {lv' : List (Option Value)} (hs : lv.set i (some (iv z)) = lv') (hi : i < nL) (hc : ∀ w : Value, 0 < i → lv[i - 1]? = some (some w) → w.category = 1) (hd : decode cc pc = .ok (.istore i, 2)) (hn : pc + 2 = n') (k : jJ X G B0 κ n kc ks Q nL φ n' lv' st) : jJ X G B0 κ n kc ks Q nL φ pc lv (iv z :: st) := by
  subst hn; subst hs; intro H locs ls hP hS hl'
  exact lv_istore F.1 F.2.1 hd hl' hi rfl (fun ls' h => k H locs ls' hP hS (jlh.set rfl h hc))
theorem j_astore_n (F : jF X G cc nL own d kc ks) {i : Fin 4} {z : Int} {n' : Nat} {lv' : List (Option Value)} (hs : lv.set (i : Nat) (some (rf B0 z)) = lv') (hi : (i : Nat) < nL) (hc : ∀ w : Value, 0 < (i : Nat) → lv[(i : Nat) - 1]? = some (some w) → w.category = 1) (hd : decode cc pc = .ok (.astore_n i, 1)) (hn : pc + 1 = n') (k : jJ X G B0 κ n kc ks Q nL φ n' lv' st) : jJ X G B0 κ n kc ks Q nL φ pc lv (rf B0 z :: st) := by
  subst hn; subst hs; intro H locs ls hP hS hl'
  exact lv_astore_n F.1 F.2.1 hd rfl hl' hi rfl (fun ls' h => k H locs ls' hP hS (jlh.set rfl h hc))
theorem j_iinc (F : jF X G cc nL own d kc ks) {i : Nat} {z c : Int} {n' : Nat} {lv' : List (Option Value)} (hl : lv[i]? = some (some (iv z))) (hs : lv.set i (some (iv (z + c))) = lv') (hi : i < nL) (hc : ∀ w : Value, 0 < i → lv[i - 1]? = some (some w) → w.category = 1) (hd : decode cc pc = .ok (.iinc i c, 3)) (hn : pc + 3 = n') (k : jJ X G B0 κ n kc ks Q nL φ n' lv' st) : jJ X G B0 κ n kc ks Q nL φ pc lv st := by
  subst hn; subst hs; intro H locs ls hP hS hl'
  obtain ⟨q, hq⟩ := List.getElem?_of_mem ((jprs_mem lv 0 i (iv z)).mpr ⟨Nat.zero_le _, hl⟩)
  exact lv_iinc F.1 F.2.1 hd hl' (k := q) hq (zI_add z c).symm hi rfl (fun ls' h => k H locs ls' hP hS (jlh.set rfl h hc))
theorem j_iadd (F : jF X G cc nL own d kc ks) {a b : Int} {n' : Nat} (hd : decode cc pc = .ok (.iadd, 1)) (hn : pc + 1 = n') (k : jJ X G B0 κ n kc ks Q nL φ n' lv (iv (a + b) :: st)) : jJ X G B0 κ n kc ks Q nL φ pc lv (iv b :: iv a :: st) := by
  subst hn; intro H locs ls hP hS hl
  have h := k H locs ls hP hS hl
  rw [iv, zI_add] at h
  exact lv_iadd F.1 F.2.1 hd h
theorem j_isub (F : jF X G cc nL own d kc ks) {a b : Int} {n' : Nat} (hd : decode cc pc = .ok (.isub, 1)) (hn : pc + 1 = n') (k : jJ X G B0 κ n kc ks Q nL φ n' lv (iv (a - b) :: st)) : jJ X G B0 κ n kc ks Q nL φ pc lv (iv b :: iv a :: st) := by
  subst hn; intro H locs ls hP hS hl
  have h := k H locs ls hP hS hl
  rw [iv, zI_sub] at h
  exact lv_isub F.1 F.2.1 hd h
theorem j_imul (F : jF X G cc nL own d kc ks) {a b : Int} {n' : Nat} (hd : decode cc pc = .ok (.imul, 1)) (hn : pc + 1 = n') (k : jJ X G B0 κ n kc ks Q nL φ n' lv (iv (a * b) :: st)) : jJ X G B0 κ n kc ks Q nL φ pc lv (iv b :: iv a :: st) := by
  subst hn; intro H locs ls hP hS hl
  have h := k H locs ls hP hS hl
  rw [iv, zI_mul] at h
  exact lv_imul F.1 F.2.1 hd h
theorem j_idiv (F : jF X G cc nL own d kc ks) {a b : Int} {n' : Nat} (ha : 0 ≤ a ∧ a ≤ 2147483647) (hb : 0 < b ∧ b ≤ 2147483647) (hd : decode cc pc = .ok (.idiv, 1)) (hn : pc + 1 = n') (k : jJ X G B0 κ n kc ks Q nL φ n' lv (iv (a / b) :: st)) : jJ X G B0 κ n kc ks Q nL φ pc lv (iv b :: iv a :: st) := by
  subst hn; intro H locs ls hP hS hl
  have h := k H locs ls hP hS hl
  rw [iv, ← zI_div ha hb] at h
  exact lv_idiv F.1 F.2.1 hd (fun q => by have := (zI_eq (a := b) (b := 0) (by omega) (by omega)).mp q; omega) h
theorem j_irem (F : jF X G cc nL own d kc ks) {a b : Int} {n' : Nat} (ha : 0 ≤ a ∧ a ≤ 2147483647) (hb : 0 < b ∧ b ≤ 2147483647) (hd : decode cc pc = .ok (.irem, 1)) (hn : pc + 1 = n') (k : jJ X G B0 κ n kc ks Q nL φ n' lv (iv (a % b) :: st)) : jJ X G B0 κ n kc ks Q nL φ pc lv (iv b :: iv a :: st) := by
  subst hn; intro H locs ls hP hS hl
  have h := k H locs ls hP hS hl
  rw [iv, ← zI_rem ha hb] at h
  exact lv_irem F.1 F.2.1 hd (fun q => by have := (zI_eq (a := b) (b := 0) (by omega) (by omega)).mp q; omega) h
theorem j_i2l (F : jF X G cc nL own d kc ks) {a : Int} {n' : Nat} (ha : -2147483648 ≤ a ∧ a ≤ 2147483647) (hd : decode cc pc = .ok (.i2l, 1)) (hn : pc + 1 = n') (k : jJ X G B0 κ n kc ks Q nL φ n' lv (lvv a :: st)) : jJ X G B0 κ n kc ks Q nL φ pc lv (iv a :: st) := by
  subst hn; intro H locs ls hP hS hl
  exact lv_i2l F.1 F.2.1 hd (zI_long ha) (k H locs ls hP hS hl)
theorem j_ladd (F : jF X G cc nL own d kc ks) {a b : Int} {n' : Nat} (hd : decode cc pc = .ok (.ladd, 1)) (hn : pc + 1 = n') (k : jJ X G B0 κ n kc ks Q nL φ n' lv (lvv (a + b) :: st)) : jJ X G B0 κ n kc ks Q nL φ pc lv (lvv b :: lvv a :: st) := by
  subst hn; intro H locs ls hP hS hl
  have h := k H locs ls hP hS hl
  rw [lvv, zL_add] at h
  exact lv_ladd F.1 F.2.1 hd h
theorem j_lmul (F : jF X G cc nL own d kc ks) {a b : Int} {n' : Nat} (hd : decode cc pc = .ok (.lmul, 1)) (hn : pc + 1 = n') (k : jJ X G B0 κ n kc ks Q nL φ n' lv (lvv (a * b) :: st)) : jJ X G B0 κ n kc ks Q nL φ pc lv (lvv b :: lvv a :: st) := by
  subst hn; intro H locs ls hP hS hl
  have h := k H locs ls hP hS hl
  rw [lvv, zL_mul] at h
  exact lv_lmul F.1 F.2.1 hd h
theorem j_dup (F : jF X G cc nL own d kc ks) {v : Value} {n' : Nat} (hv : v.category = 1) (hd : decode cc pc = .ok (.dup, 1)) (hn : pc + 1 = n') (k : jJ X G B0 κ n kc ks Q nL φ n' lv (v :: v :: st)) : jJ X G B0 κ n kc ks Q nL φ pc lv (v :: st) := by
  subst hn; intro H locs ls hP hS hl
  exact lv_dup F.1 F.2.1 hd hv (k H locs ls hP hS hl)
theorem j_pop (F : jF X G cc nL own d kc ks) {v : Value} {n' : Nat} (hv : v.category = 1) (hd : decode cc pc = .ok (.pop, 1)) (hn : pc + 1 = n') (k : jJ X G B0 κ n kc ks Q nL φ n' lv st) : jJ X G B0 κ n kc ks Q nL φ pc lv (v :: st) := by
  subst hn; intro H locs ls hP hS hl
  exact lv_pop F.1 F.2.1 hd hv (k H locs ls hP hS hl)
theorem j_dup2 (F : jF X G cc nL own d kc ks) {v w : Value} {n' : Nat} (hv : v.category = 1) (hw : w.category = 1) (hd : decode cc pc = .ok (.dup2, 1)) (hn : pc + 1 = n') (k : jJ X G B0 κ n kc ks Q nL φ n' lv (v :: w :: v :: w :: st)) : jJ X G B0 κ n kc ks Q nL φ pc lv (v :: w :: st) := by
  subst hn; intro H locs ls hP hS hl
  exact lv_dup2_11 F.1 F.2.1 hd hv hw (k H locs ls hP hS hl)
theorem j_goto (F : jF X G cc nL own d kc ks) {off : Int} {t : Nat} (hd : decode cc pc = .ok (.goto off, 3)) (ht : (pc : Int) + off = (t : Int)) (k : jJ X G B0 κ n kc ks Q nL φ t lv st) : jJ X G B0 κ n kc ks Q nL φ pc lv st := by
  intro H locs ls hP hS hl
  exact lv_goto F.1 F.2.1 hd ht (k H locs ls hP hS hl)
theorem j_top {v w : Value} (h : v = w) (k : jJ X G B0 κ n kc ks Q nL φ pc lv (w :: st)) : jJ X G B0 κ n kc ks Q nL φ pc lv (v :: st) := h ▸ k
theorem j_ldc (F : jF X G cc nL own d kc ks) {index : Nat} {z : Int} {v : Int32} {n' : Nat} (hz : zI z = v) (hq : Cond.constant own index v ∈ lw_good) (hd : decode cc pc = .ok (.ldc index, 2)) (hn : pc + 2 = n') (k : jJ X G B0 κ n kc ks Q nL φ n' lv (iv z :: st)) : jJ X G B0 κ n kc ks Q nL φ pc lv st := by
  subst hn; subst hz; intro H locs ls hP hS hl
  exact lv_ldc F.1 F.2.1 F.2.2.2.1 (F.2.2.2.2.1 _ hq) hd (k H locs ls hP hS hl)
theorem j_ldc2 (F : jF X G cc nL own d kc ks) {index : Nat} {z : Int} {v : Int64} {n' : Nat} (hz : zL z = v) (hq : Cond.constantLong own index v ∈ lw_good) (hd : decode cc pc = .ok (.ldc2_w index, 3)) (hn : pc + 3 = n') (k : jJ X G B0 κ n kc ks Q nL φ n' lv (lvv z :: st)) : jJ X G B0 κ n kc ks Q nL φ pc lv st := by
  subst hn; subst hz; intro H locs ls hP hS hl
  exact lv_ldc2 F.1 F.2.1 F.2.2.2.1 (F.2.2.2.2.1 _ hq) hd (k H locs ls hP hS hl)
end JROWS
end
section
section JBR
variable {X : jX} {G : jG} {B0 : Nat} {κ : Int → Option jKd} {n kc ks : Nat} {Q : State → Prop} {nL : Nat} {φ : jPhi} {pc : Nat} {lv : List (Option Value)} {st : List Value} {cc : ByteArray} {own : String} {d : Nat}
theorem j_icmp_eq (F : jF X G cc nL own d kc ks) {a b off : Int} {t n' : Nat} (ha : -2147483648 ≤ a ∧ a ≤ 2147483647) (hb : -2147483648 ≤ b ∧ b ≤ 2147483647) (hd : decode cc pc = .ok (.if_icmp .eq off, 3)) (ht : (pc : Int) + off = (t : Int)) (hn : pc + 3 = n') (kt : a = b → jJ X G B0 κ n kc ks Q nL φ t lv st) (kf : ¬ a = b → jJ X G B0 κ n kc ks Q nL φ n' lv st) : jJ X G B0 κ n kc ks Q nL φ pc lv (iv b :: iv a :: st) := by
  subst hn; intro H locs ls hP hS hl
  have e1 := zI_lt ha hb
  have e2 := zI_lt hb ha
  have e3 := zI_le ha hb
  have e4 := zI_le hb ha
  have e5 := zI_eq ha hb
  refine lv_icmp_eq F.1 F.2.1 hd ht (fun h => kt ?_ H locs ls hP hS hl) (fun h => kf ?_ H locs ls hP hS hl)
  · simp only [e1, e2, e3, e4, e5] at h; omega
  · simp only [e1, e2, e3, e4, e5] at h; omega
theorem j_if_eq (F : jF X G cc nL own d kc ks) {a off : Int} {t n' : Nat} (ha : -2147483648 ≤ a ∧ a ≤ 2147483647) (hd : decode cc pc = .ok (.ifCond .eq off, 3)) (ht : (pc : Int) + off = (t : Int)) (hn : pc + 3 = n') (kt : a = 0 → jJ X G B0 κ n kc ks Q nL φ t lv st) (kf : ¬ a = 0 → jJ X G B0 κ n kc ks Q nL φ n' lv st) : jJ X G B0 κ n kc ks Q nL φ pc lv (iv a :: st) := by
  subst hn; intro H locs ls hP hS hl
  have hb : -2147483648 ≤ (0 : Int) ∧ (0 : Int) ≤ 2147483647 := by decide
  have e1 := zI_lt ha hb
  have e2 := zI_lt hb ha
  have e3 := zI_le ha hb
  have e4 := zI_le hb ha
  have e5 := zI_eq ha hb
  rw [zI_zero] at e1 e2 e3 e4 e5
  refine lv_if_eq F.1 F.2.1 hd ht (fun h => kt ?_ H locs ls hP hS hl) (fun h => kf ?_ H locs ls hP hS hl)
  · simp only [e1, e2, e3, e4, e5] at h; omega
  · simp only [e1, e2, e3, e4, e5] at h; omega
theorem j_icmp_ne (F : jF X G cc nL own d kc ks) {a b off : Int} {t n' : Nat} (ha : -2147483648 ≤ a ∧ a ≤ 2147483647) (hb : -2147483648 ≤ b ∧ b ≤ 2147483647) (hd : decode cc pc = .ok (.if_icmp .ne off, 3)) (ht : (pc : Int) + off = (t : Int)) (hn : pc + 3 = n') (kt : ¬ a = b → jJ X G B0 κ n kc ks Q nL φ t lv st) (kf : a = b → jJ X G B0 κ n kc ks Q nL φ n' lv st) : jJ X G B0 κ n kc ks Q nL φ pc lv (iv b :: iv a :: st) := by
  subst hn; intro H locs ls hP hS hl
  have e1 := zI_lt ha hb
  have e2 := zI_lt hb ha
  have e3 := zI_le ha hb
  have e4 := zI_le hb ha
  have e5 := zI_eq ha hb
  refine lv_icmp_ne F.1 F.2.1 hd ht (fun h => kt ?_ H locs ls hP hS hl) (fun h => kf ?_ H locs ls hP hS hl)
  · simp only [e1, e2, e3, e4, e5] at h; omega
  · simp only [e1, e2, e3, e4, e5] at h; omega
theorem j_if_ne (F : jF X G cc nL own d kc ks) {a off : Int} {t n' : Nat} (ha : -2147483648 ≤ a ∧ a ≤ 2147483647) (hd : decode cc pc = .ok (.ifCond .ne off, 3)) (ht : (pc : Int) + off = (t : Int)) (hn : pc + 3 = n') (kt : ¬ a = 0 → jJ X G B0 κ n kc ks Q nL φ t lv st) (kf : a = 0 → jJ X G B0 κ n kc ks Q nL φ n' lv st) : jJ X G B0 κ n kc ks Q nL φ pc lv (iv a :: st) := by
  subst hn; intro H locs ls hP hS hl
  have hb : -2147483648 ≤ (0 : Int) ∧ (0 : Int) ≤ 2147483647 := by decide
  have e1 := zI_lt ha hb
  have e2 := zI_lt hb ha
  have e3 := zI_le ha hb
  have e4 := zI_le hb ha
  have e5 := zI_eq ha hb
  rw [zI_zero] at e1 e2 e3 e4 e5
  refine lv_if_ne F.1 F.2.1 hd ht (fun h => kt ?_ H locs ls hP hS hl) (fun h => kf ?_ H locs ls hP hS hl)
  · simp only [e1, e2, e3, e4, e5] at h; omega
  · simp only [e1, e2, e3, e4, e5] at h; omega
theorem j_icmp_lt (F : jF X G cc nL own d kc ks) {a b off : Int} {t n' : Nat} (ha : -2147483648 ≤ a ∧ a ≤ 2147483647) (hb : -2147483648 ≤ b ∧ b ≤ 2147483647) (hd : decode cc pc = .ok (.if_icmp .lt off, 3)) (ht : (pc : Int) + off = (t : Int)) (hn : pc + 3 = n') (kt : a < b → jJ X G B0 κ n kc ks Q nL φ t lv st) (kf : b ≤ a → jJ X G B0 κ n kc ks Q nL φ n' lv st) : jJ X G B0 κ n kc ks Q nL φ pc lv (iv b :: iv a :: st) := by
  subst hn; intro H locs ls hP hS hl
  have e1 := zI_lt ha hb
  have e2 := zI_lt hb ha
  have e3 := zI_le ha hb
  have e4 := zI_le hb ha
  have e5 := zI_eq ha hb
  refine lv_icmp_lt F.1 F.2.1 hd ht (fun h => kt ?_ H locs ls hP hS hl) (fun h => kf ?_ H locs ls hP hS hl)
  · simp only [e1, e2, e3, e4, e5] at h; omega
  · simp only [e1, e2, e3, e4, e5] at h; omega
theorem j_if_lt (F : jF X G cc nL own d kc ks) {a off : Int} {t n' : Nat} (ha : -2147483648 ≤ a ∧ a ≤ 2147483647) (hd : decode cc pc = .ok (.ifCond .lt off, 3)) (ht : (pc : Int) + off = (t : Int)) (hn : pc + 3 = n') (kt : a < 0 → jJ X G B0 κ n kc ks Q nL φ t lv st) (kf : 0 ≤ a → jJ X G B0 κ n kc ks Q nL φ n' lv st) : jJ X G B0 κ n kc ks Q nL φ pc lv (iv a :: st) := by
  subst hn; intro H locs ls hP hS hl
  have hb : -2147483648 ≤ (0 : Int) ∧ (0 : Int) ≤ 2147483647 := by decide
  have e1 := zI_lt ha hb
  have e2 := zI_lt hb ha
  have e3 := zI_le ha hb
  have e4 := zI_le hb ha
  have e5 := zI_eq ha hb
  rw [zI_zero] at e1 e2 e3 e4 e5
  refine lv_if_lt F.1 F.2.1 hd ht (fun h => kt ?_ H locs ls hP hS hl) (fun h => kf ?_ H locs ls hP hS hl)
  · simp only [e1, e2, e3, e4, e5] at h; omega
  · simp only [e1, e2, e3, e4, e5] at h; omega
theorem j_icmp_ge (F : jF X G cc nL own d kc ks) {a b off : Int} {t n' : Nat} (ha : -2147483648 ≤ a ∧ a ≤ 2147483647) (hb : -2147483648 ≤ b ∧ b ≤ 2147483647) (hd : decode cc pc = .ok (.if_icmp .ge off, 3)) (ht : (pc : Int) + off = (t : Int)) (hn : pc + 3 = n') (kt : b ≤ a → jJ X G B0 κ n kc ks Q nL φ t lv st) (kf : a < b → jJ X G B0 κ n kc ks Q nL φ n' lv st) : jJ X G B0 κ n kc ks Q nL φ pc lv (iv b :: iv a :: st) := by
  subst hn; intro H locs ls hP hS hl
  have e1 := zI_lt ha hb
  have e2 := zI_lt hb ha
  have e3 := zI_le ha hb
  have e4 := zI_le hb ha
  have e5 := zI_eq ha hb
  refine lv_icmp_ge F.1 F.2.1 hd ht (fun h => kt ?_ H locs ls hP hS hl) (fun h => kf ?_ H locs ls hP hS hl)
  · simp only [e1, e2, e3, e4, e5] at h; omega
  · simp only [e1, e2, e3, e4, e5] at h; omega
theorem j_if_ge (F : jF X G cc nL own d kc ks) {a off : Int} {t n' : Nat} (ha : -2147483648 ≤ a ∧ a ≤ 2147483647) (hd : decode cc pc = .ok (.ifCond .ge off, 3)) (ht : (pc : Int) + off = (t : Int)) (hn : pc + 3 = n') (kt : 0 ≤ a → jJ X G B0 κ n kc ks Q nL φ t lv st) (kf : a < 0 → jJ X G B0 κ n kc ks Q nL φ n' lv st) : jJ X G B0 κ n kc ks Q nL φ pc lv (iv a :: st) := by
  subst hn; intro H locs ls hP hS hl
  have hb : -2147483648 ≤ (0 : Int) ∧ (0 : Int) ≤ 2147483647 := by decide
  have e1 := zI_lt ha hb
  have e2 := zI_lt hb ha
  have e3 := zI_le ha hb
  have e4 := zI_le hb ha
  have e5 := zI_eq ha hb
  rw [zI_zero] at e1 e2 e3 e4 e5
  refine lv_if_ge F.1 F.2.1 hd ht (fun h => kt ?_ H locs ls hP hS hl) (fun h => kf ?_ H locs ls hP hS hl)
  · simp only [e1, e2, e3, e4, e5] at h; omega
  · simp only [e1, e2, e3, e4, e5] at h; omega
theorem j_icmp_gt (F : jF X G cc nL own d kc ks) {a b off : Int} {t n' : Nat} (ha : -2147483648 ≤ a ∧ a ≤ 2147483647) (hb : -2147483648 ≤ b ∧ b ≤ 2147483647) (hd : decode cc pc = .ok (.if_icmp .gt off, 3)) (ht : (pc : Int) + off = (t : Int)) (hn : pc + 3 = n') (kt : b < a → jJ X G B0 κ n kc ks Q nL φ t lv st) (kf : a ≤ b → jJ X G B0 κ n kc ks Q nL φ n' lv st) : jJ X G B0 κ n kc ks Q nL φ pc lv (iv b :: iv a :: st) := by
  subst hn; intro H locs ls hP hS hl
  have e1 := zI_lt ha hb
  have e2 := zI_lt hb ha
  have e3 := zI_le ha hb
  have e4 := zI_le hb ha
  have e5 := zI_eq ha hb
  refine lv_icmp_gt F.1 F.2.1 hd ht (fun h => kt ?_ H locs ls hP hS hl) (fun h => kf ?_ H locs ls hP hS hl)
  · simp only [e1, e2, e3, e4, e5] at h; omega
  · simp only [e1, e2, e3, e4, e5] at h; omega
theorem j_if_gt (F : jF X G cc nL own d kc ks) {a off : Int} {t n' : Nat} (ha : -2147483648 ≤ a ∧ a ≤ 2147483647) (hd : decode cc pc = .ok (.ifCond .gt off, 3)) (ht : (pc : Int) + off = (t : Int)) (hn : pc + 3 = n') (kt : 0 < a → jJ X G B0 κ n kc ks Q nL φ t lv st) (kf : a ≤ 0 → jJ X G B0 κ n kc ks Q nL φ n' lv st) : jJ X G B0 κ n kc ks Q nL φ pc lv (iv a :: st) := by
  subst hn; intro H locs ls hP hS hl
  have hb : -2147483648 ≤ (0 : Int) ∧ (0 : Int) ≤ 2147483647 := by decide
  have e1 := zI_lt ha hb
  have e2 := zI_lt hb ha
  have e3 := zI_le ha hb
  have e4 := zI_le hb ha
  have e5 := zI_eq ha hb
  rw [zI_zero] at e1 e2 e3 e4 e5
  refine lv_if_gt F.1 F.2.1 hd ht (fun h => kt ?_ H locs ls hP hS hl) (fun h => kf ?_ H locs ls hP hS hl)
  · simp only [e1, e2, e3, e4, e5] at h; omega
  · simp only [e1, e2, e3, e4, e5] at h; omega
theorem j_icmp_le (F : jF X G cc nL own d kc ks) {a b off : Int} {t n' : Nat} (ha : -2147483648 ≤ a ∧ a ≤ 2147483647) (hb : -2147483648 ≤ b ∧ b ≤ 2147483647) (hd : decode cc pc = .ok (.if_icmp .le off, 3)) (ht : (pc : Int) + off = (t : Int)) (hn : pc + 3 = n') (kt : a ≤ b → jJ X G B0 κ n kc ks Q nL φ t lv st) (kf : b < a → jJ X G B0 κ n kc ks Q nL φ n' lv st) : jJ X G B0 κ n kc ks Q nL φ pc lv (iv b :: iv a :: st) := by
  subst hn; intro H locs ls hP hS hl
  have e1 := zI_lt ha hb
  have e2 := zI_lt hb ha
  have e3 := zI_le ha hb
  have e4 := zI_le hb ha
  have e5 := zI_eq ha hb
  refine lv_icmp_le F.1 F.2.1 hd ht (fun h => kt ?_ H locs ls hP hS hl) (fun h => kf ?_ H locs ls hP hS hl)
  · simp only [e1, e2, e3, e4, e5] at h; omega
  · simp only [e1, e2, e3, e4, e5] at h; omega
theorem j_if_le (F : jF X G cc nL own d kc ks) {a off : Int} {t n' : Nat} (ha : -2147483648 ≤ a ∧ a ≤ 2147483647) (hd : decode cc pc = .ok (.ifCond .le off, 3)) (ht : (pc : Int) + off = (t : Int)) (hn : pc + 3 = n') (kt : a ≤ 0 → jJ X G B0 κ n kc ks Q nL φ t lv st) (kf : 0 < a → jJ X G B0 κ n kc ks Q nL φ n' lv st) : jJ X G B0 κ n kc ks Q nL φ pc lv (iv a :: st) := by
  subst hn; intro H locs ls hP hS hl
  have hb : -2147483648 ≤ (0 : Int) ∧ (0 : Int) ≤ 2147483647 := by decide
  have e1 := zI_lt ha hb
  have e2 := zI_lt hb ha
  have e3 := zI_le ha hb
  have e4 := zI_le hb ha
  have e5 := zI_eq ha hb
  rw [zI_zero] at e1 e2 e3 e4 e5
  refine lv_if_le F.1 F.2.1 hd ht (fun h => kt ?_ H locs ls hP hS hl) (fun h => kf ?_ H locs ls hP hS hl)
  · simp only [e1, e2, e3, e4, e5] at h; omega
  · simp only [e1, e2, e3, e4, e5] at h; omega
end JBR
end
section
theorem jcell_congr {G : jG} {B0 : Nat} {φ φ' : jPhi} {i : Int} {kd : jKd} {H H' : Heap} (hφ : ∀ b, φ' i b = φ i b) (hH : H'[B0 + i.toNat]? = H[B0 + i.toNat]?) (h : jcell G B0 φ i kd H) : jcell G B0 φ' i kd H' := by
  have e : φ' i = φ i := funext hφ
  match kd, h with
  | .inl o, h =>
    unfold jcell at h ⊢
    simp only [e] at h ⊢
    exact h.kept hH
  | .inr (.inl N), h =>
    unfold jcell at h ⊢
    simp only [e] at h ⊢
    exact hH.trans h
  | .inr (.inr q), h =>
    unfold jcell at h ⊢
    exact hH.trans h
theorem jP.put {G : jG} {B0 : Nat} {κ : Int → Option jKd} {n : Nat} {φ : jPhi} {H H' : Heap} (h : jP G B0 κ n φ H) {i k v : Int} {kd : jKd} (hκ : κ i = some kd) (hz : H'.size = H.size) (oq : ∀ q, q ≠ B0 + i.toNat → H'[q]? = H[q]?) (hc : jcell G B0 (zU φ i k v) i kd H') : jP G B0 κ n (zU φ i k v) H' := by
  refine ⟨hz.trans h.1, fun j kd' hj => ⟨(h.2 j kd' hj).1, ?_⟩⟩
  by_cases e : j = i
  · subst e
    rw [hκ] at hj
    cases hj
    exact hc
  · have h1 := (h.2 j kd' hj).1
    have h2 := (h.2 i kd hκ).1
    exact jcell_congr (fun b => zU_ne (fun q => e q.1)) (oq _ (fun q => e (by omega))) (h.2 j kd' hj).2
/-- what the tables say of a field: by the place of its class and its own -/
def jLF (own : String) (index ci N k : Nat) : Prop := ∃ (C : String) (T : u_T), jclasses[ci]? = some (C, T, N) ∧ k < N ∧ (∀ w ∈ u_ws C T N, w ∈ lw_good) ∧ Cond.fieldLink own index (T k).1 (T k).2.1 (T k).2.2.1 ∈ lw_good
def jLP (own : String) (index ci N k : Nat) (ty : FieldType) : Prop := ∃ (C : String) (T : u_T) (ty0 : Nat → FieldType), jclasses[ci]? = some (C, T, N) ∧ k < N ∧ (∀ w ∈ u_ws C T N, w ∈ lw_good) ∧ Cond.fieldLink own index (T k).1 (T k).2.1 (T k).2.2.1 ∈ lw_good ∧ (∀ k, k < N → parseFieldDescriptor (T k).2.2.1 = some (ty0 k)) ∧ (∀ a, a < N → ∀ b, b < N → a ≠ b → (T a).2.1 ≠ (T b).2.1) ∧ (T k).2.2.2 = false ∧ parseFieldDescriptor (T k).2.2.1 = some ty
section JHEAP
variable {X : jX} {G : jG} {B0 : Nat} {κ : Int → Option jKd} {n kc ks : Nat} {Q : State → Prop} {nL : Nat} {φ : jPhi} {pc : Nat} {lv : List (Option Value)} {st : List Value} {cc : ByteArray} {own : String} {d : Nat}
theorem j_getV (F : jF X G cc nL own d kc ks) {index ci N k : Nat} {i : Int} {cs : List jSl} {sl : jSl} {n' : Nat} (hf : jLF own index ci N k) (hκ : κ i = some (.inl (ci, cs))) (hcs : cs[k]? = some sl) (hd : decode cc pc = .ok (.getfield index, 3)) (hn : pc + 3 = n') (kk : jJ X G B0 κ n kc ks Q nL φ n' lv (jval B0 sl (φ i k) :: st)) : jJ X G B0 κ n kc ks Q nL φ pc lv (rf B0 i :: st) := by
  subst hn; intro H locs ls hP hS hl
  obtain ⟨C, T, hc, hk, hin, hlink⟩ := hf
  obtain ⟨cell, q1, q2, q3, q4⟩ := (hP.2 i _ hκ).2
  obtain ⟨hSl, hfc, kC, hkC, hkind⟩ := F.2.2.2.2.2.1.1.1 ci _ hc
  obtain ⟨cf, kf, fi, f, hi, hsl⟩ := hSl k hk
  have hkl : k < cs.length := (List.getElem?_eq_some_iff.mp hcs).1
  refine W.getf F.1 F.2.1 F.2.2.2.1 (F.2.2.2.2.1 _ hlink) hi (u_facts hfc hkC (u_lays F.2.2.2.2.1 hin hk) hi).1 q1 (by rw [q3]; exact fun h => by cases h) (v := jval B0 sl (φ i k)) ?_ rfl rfl hd (kk H locs ls hP hS hl)
  rw [hsl, q4 k hkl]
  simp [List.getD, hcs]
theorem j_getI (F : jF X G cc nL own d kc ks) {index ci N k : Nat} {i : Int} {cs : List jSl} {n' : Nat} (hf : jLF own index ci N k) (hκ : κ i = some (.inl (ci, cs))) (hcs : cs[k]? = some (.inr 0)) (hd : decode cc pc = .ok (.getfield index, 3)) (hn : pc + 3 = n') (kk : jJ X G B0 κ n kc ks Q nL φ n' lv (iv (φ i k) :: st)) : jJ X G B0 κ n kc ks Q nL φ pc lv (rf B0 i :: st) := j_getV F hf hκ hcs hd hn kk
theorem j_getL (F : jF X G cc nL own d kc ks) {index ci N k : Nat} {i : Int} {cs : List jSl} {n' : Nat} (hf : jLF own index ci N k) (hκ : κ i = some (.inl (ci, cs))) (hcs : cs[k]? = some (.inr 1)) (hd : decode cc pc = .ok (.getfield index, 3)) (hn : pc + 3 = n') (kk : jJ X G B0 κ n kc ks Q nL φ n' lv (lvv (φ i k) :: st)) : jJ X G B0 κ n kc ks Q nL φ pc lv (rf B0 i :: st) := j_getV F hf hκ hcs hd hn kk
theorem j_getR (F : jF X G cc nL own d kc ks) {index ci N k : Nat} {i t : Int} {cs : List jSl} {n' : Nat} (hf : jLF own index ci N k) (hκ : κ i = some (.inl (ci, cs))) (hcs : cs[k]? = some (.inl t)) (hd : decode cc pc = .ok (.getfield index, 3)) (hn : pc + 3 = n') (kk : jJ X G B0 κ n kc ks Q nL φ n' lv (rf B0 t :: st)) : jJ X G B0 κ n kc ks Q nL φ pc lv (rf B0 i :: st) := j_getV F hf hκ hcs hd hn kk
theorem j_putV (F : jF X G cc nL own d kc ks) {index ci N k : Nat} {ty : FieldType} {i z : Int} {cs : List jSl} {sl : jSl} {v : Value} {n' : Nat} (hf : jLP own index ci N k ty) (hκ : κ i = some (.inl (ci, cs))) (hlen : cs.length = N) (hcs : cs[k]? = some sl) (hv : v = jval B0 sl z) (hnar : narrow ty v = v) (hfit : fits ty v = true) (hd : decode cc pc = .ok (.putfield index, 3)) (hn : pc + 3 = n') (kk : ∀ φ' : jPhi, φ' = zU φ i k z → jJ X G B0 κ n kc ks Q nL φ' n' lv st) : jJ X G B0 κ n kc ks Q nL φ pc lv (v :: rf B0 i :: st) := by
  subst hn; intro H locs ls hP hS hl
  obtain ⟨C, T, ty0, hc, hk, hin, hlink, hty, hnm, hfin, hdty⟩ := hf
  have hap := va_apart (own := own) F.2.2.2.2.1 hin ty0 hty hnm F.2.2.2.2.2.1.1 hc
  obtain ⟨cell, q1, q2, q3, q4⟩ := (hP.2 i _ hκ).2
  obtain ⟨hSl, hfc, kC, hkC, hkind⟩ := F.2.2.2.2.2.1.1.1 ci _ hc
  obtain ⟨cf, kf, fi, f, hi, hsl⟩ := hSl k hk
  have hlay := F.2.2.2.2.1 _ (hin _ (u_in_lay hk))
  unfold u_lay at hlay
  rw [if_neg (by rw [hfin]; decide)] at hlay
  have hst := (u_facts hfc hkC (u_lays F.2.2.2.2.1 hin hk) hi).1
  have h6 := u_store hfc hkC hkind hlay hi hdty hnar hfit
  have hkl : k < cs.length := (List.getElem?_eq_some_iff.mp hcs).1
  refine W.putK F.1 F.2.1 (f := f) ⟨F.2.2.2.1, F.2.2.2.2.1 _ hlink, ⟨_, _, _, hi⟩, hst⟩ (by rw [q2]; exact h6) q1 q3 (by rw [hsl]; exact k2_hasslot (q4 k hkl)) rfl rfl hd fun H' e1 e2 e3 => ?_
  rw [hsl] at e1 ⊢
  refine kk _ rfl H' _ ls (hP.put hκ e2 e3 ?_) (hS.put e2 e3 (Nat.le_add_right _ _)) hl
  unfold jcell
  subst hlen
  refine t_OB.to (V := updV (fun k => jval B0 (cs.getD k (.inr 2)) (φ i k)) k v) ⟨_, e1, q2, q3, t_set q4 hap hkl v⟩ (fun j hj => ?_)
  by_cases e : j = k
  · subst e
    simp [updV, zU, List.getD, hcs, hv]
  · have e2 : ¬ (j : Int) = (k : Int) := fun q => e (by omega)
    simp [updV, zU, e, e2]
theorem j_putI (F : jF X G cc nL own d kc ks) {index ci N k : Nat} {i z : Int} {cs : List jSl} {n' : Nat} (hf : jLP own index ci N k .int) (hκ : κ i = some (.inl (ci, cs))) (hlen : cs.length = N) (hcs : cs[k]? = some (.inr 0)) (hd : decode cc pc = .ok (.putfield index, 3)) (hn : pc + 3 = n') (kk : ∀ φ' : jPhi, φ' = zU φ i k z → jJ X G B0 κ n kc ks Q nL φ' n' lv st) : jJ X G B0 κ n kc ks Q nL φ pc lv (iv z :: rf B0 i :: st) := j_putV F hf hκ hlen hcs rfl rfl rfl hd hn kk
theorem j_putB (F : jF X G cc nL own d kc ks) {index ci N k : Nat} {i z : Int} {cs : List jSl} {n' : Nat} (hz : z = 0 ∨ z = 1) (hf : jLP own index ci N k .boolean) (hκ : κ i = some (.inl (ci, cs))) (hlen : cs.length = N) (hcs : cs[k]? = some (.inr 0)) (hd : decode cc pc = .ok (.putfield index, 3)) (hn : pc + 3 = n') (kk : ∀ φ' : jPhi, φ' = zU φ i k z → jJ X G B0 κ n kc ks Q nL φ' n' lv st) : jJ X G B0 κ n kc ks Q nL φ pc lv (iv z :: rf B0 i :: st) :=
  j_putV F hf hκ hlen hcs rfl (by rcases hz with rfl | rfl <;> decide) (by rcases hz with rfl | rfl <;> decide) hd hn kk
theorem j_putL (F : jF X G cc nL own d kc ks) {index ci N k : Nat} {i z : Int} {cs : List jSl} {n' : Nat} (hf : jLP own index ci N k .long) (hκ : κ i = some (.inl (ci, cs))) (hlen : cs.length = N) (hcs : cs[k]? = some (.inr 1)) (hd : decode cc pc = .ok (.putfield index, 3)) (hn : pc + 3 = n') (kk : ∀ φ' : jPhi, φ' = zU φ i k z → jJ X G B0 κ n kc ks Q nL φ' n' lv st) : jJ X G B0 κ n kc ks Q nL φ pc lv (lvv z :: rf B0 i :: st) := j_putV F hf hκ hlen hcs rfl rfl rfl hd hn kk
theorem j_iald (F : jF X G cc nL own d kc ks) {N : Nat} {i z : Int} {n' : Nat} (hκ : κ i = some (.inr (.inl N))) (hN : N ≤ 2147483647) (hz : 0 ≤ z ∧ z < (N : Int)) (hd : decode cc pc = .ok (.iaload, 1)) (hn : pc + 1 = n') (kk : jJ X G B0 κ n kc ks Q nL φ n' lv (iv (φ i z) :: st)) : jJ X G B0 κ n kc ks Q nL φ pc lv (iv z :: rf B0 i :: st) := by
  subst hn; intro H locs ls hP hS hl
  have hc : H[B0 + i.toNat]? = some (arrV G.2.1 N (fun j => iv (φ i j))) := (hP.2 i _ hκ).2
  have hA : ArrOfT X.s G.2.1 .int := (F.2.2.2.2.2.1.1.2 0 _ rfl).1
  have e1 : (zI z).toNatClampNeg = z.toNat := zI_nat hz.1 (by omega)
  have e2 : ((z.toNat : Nat) : Int) = z := by omega
  refine W.iald (v := iv (φ i z)) F.1 F.2.1 hc (hA N _) (fun q => by cases q) (by rw [arrV_size]; exact zI_in hz.1 hz.2 hN) ?_ rfl rfl hd (kk H locs ls hP hS hl)
  rw [e1, arrV_read _ _ (by omega : z.toNat < N), e2]
theorem j_aald (F : jF X G cc nL own d kc ks) {N : Nat} {i z b : Int} {n' : Nat} (hκ : κ i = some (.inr (.inr (N, b)))) (hN : N ≤ 2147483647) (hz : 0 ≤ z ∧ z < (N : Int)) (hd : decode cc pc = .ok (.aaload, 1)) (hn : pc + 1 = n') (kk : jJ X G B0 κ n kc ks Q nL φ n' lv (rf B0 (b + z) :: st)) : jJ X G B0 κ n kc ks Q nL φ pc lv (iv z :: rf B0 i :: st) := by
  subst hn; intro H locs ls hP hS hl
  have hc : H[B0 + i.toNat]? = some (arrV G.2.2 N (fun j => rf B0 (b + j))) := (hP.2 i _ hκ).2
  have hA : ArrOfT X.s G.2.2 (.array .int) := (F.2.2.2.2.2.1.1.2 1 _ rfl).1
  have e1 : (zI z).toNatClampNeg = z.toNat := zI_nat hz.1 (by omega)
  have e2 : ((z.toNat : Nat) : Int) = z := by omega
  refine W.aald (v := rf B0 (b + z)) (ty := .array .int) F.1 F.2.1 hc (hA N _) rfl (fun q => by cases q) (by rw [arrV_size]; exact zI_in hz.1 hz.2 hN) ?_ rfl rfl hd (kk H locs ls hP hS hl)
  rw [e1, arrV_read _ _ (by omega : z.toNat < N), e2]
theorem j_iast (F : jF X G cc nL own d kc ks) {N : Nat} {i z x : Int} {n' : Nat} (hκ : κ i = some (.inr (.inl N))) (hN : N ≤ 2147483647) (hz : 0 ≤ z ∧ z < (N : Int)) (hd : decode cc pc = .ok (.iastore, 1)) (hn : pc + 1 = n') (kk : ∀ φ' : jPhi, φ' = zU φ i z x → jJ X G B0 κ n kc ks Q nL φ' n' lv st) : jJ X G B0 κ n kc ks Q nL φ pc lv (iv x :: iv z :: rf B0 i :: st) := by
  subst hn; intro H locs ls hP hS hl
  have hc : H[B0 + i.toNat]? = some (arrV G.2.1 N (fun j => iv (φ i j))) := (hP.2 i _ hκ).2
  have hA : ArrOfT X.s G.2.1 .int := (F.2.2.2.2.2.1.1.2 0 _ rfl).1
  have e1 : (zI z).toNatClampNeg = z.toNat := zI_nat hz.1 (by omega)
  refine W.iast F.1 F.2.1 hc (hA N _) (fun q => by cases q) (by rw [arrV_size]; exact zI_in hz.1 hz.2 hN) rfl rfl hd fun H' h1 h2 h3 => ?_
  refine kk _ rfl H' _ ls (hP.put hκ h2 h3 ?_) (hS.put h2 h3 (Nat.le_add_right _ _)) hl
  unfold jcell
  rw [h1, arrV_store, e1]
  congr 2
  funext j
  by_cases e : j = z.toNat
  · have e2 : z = (j : Int) := by omega
    subst e2
    simp [updV, zU, iv]
  · have e2 : ¬ (j : Int) = z := fun q => e (by omega)
    simp [updV, zU, e, e2]
end JHEAP
/-! ===== contracts ===== -/
abbrev jRm (d : Nat) : Room := { frames := d, cells := 0, slots := 0, locals := 40 * d }
abbrev mkI (z : Int) : Option Value := some (iv z)
abbrev mkL (z : Int) : Option Value := some (lvv z)
abbrev mkV (_ : Int) : Option Value := none
abbrev mkR (B0 : Nat) (z : Int) : Option Value := some (rf B0 z)
def jQ (G : jG) (B0 : Nat) (κ : Int → Option jKd) (n : Nat) (mk : Int → Option Value) (post : Int → jPhi → Prop) : Array Value → State → Outcome → State → Prop :=
  fun _ st o t => (∃ (z : Int) (φ' : jPhi), o = .returned (mk z) ∧ post z φ' ∧ jP G B0 κ n φ' t.heap) ∧ va_F (fun q => B0 ≤ q) st t
def jPre (G : jG) (B0 : Nat) (κ : Int → Option jKd) (n : Nat) (φ : jPhi) (U : State) : Prop := jP G B0 κ n φ U.heap ∧ jK G U
/-- method y, called with av where the cells hold φ: it returns mk z, the cells hold φ', post z φ' -/
def jC (l : Launch) (G : jG) (B0 : Nat) (κ : Int → Option jKd) (n : Nat) (y : MethodName) (cc : ByteArray) (maxL : Nat) (ret : Option FieldType) (d : Nat) (av : List Value) (φ : jPhi) (mk : Int → Option Value) (post : Int → jPhi → Prop) : Prop :=
  Met l y (Cond.code y cc maxL ret :: lw_good) (jRm d) (va_Pc av (jPre G B0 κ n φ)) (jQ G B0 κ n mk post) 0 0 (fun q => B0 ≤ q)
theorem jPc_blind {G : jG} {B0 : Nat} {κ : Int → Option jKd} {n : Nat} {φ : jPhi} {av : List Value} : FrameBlind (va_Pc av (jPre G B0 κ n φ)) := fun _ _ _ _ h => ⟨h.1, h.2.1, h.2.2.calling⟩
/-- what the tables say of a call -/
def jLV (own : String) (index : Nat) (C : String) (y : MethodName) (bytes : ByteArray) (maxL : Nat) (ret : Option FieldType) (na : Nat) : Prop :=
  Cond.methodLink own index y ∈ lw_good ∧ Cond.instanceMethod y ∈ lw_good ∧ Cond.selects C y y ∈ lw_good ∧ Cond.initialized C ∈ lw_good ∧ Cond.code y bytes maxL ret ∈ lw_good ∧ (y.cls = C ∧ y.cls ≠ "java/lang/invoke/MethodHandle" ∧ y.cls ≠ "java/lang/invoke/VarHandle" ∧ (parseMethodDescriptor y.desc).map (fun d => d.parameters.length) = some na) ∧ maxL ≤ 21
def jLS (own : String) (index : Nat) (y : MethodName) (bytes : ByteArray) (maxL : Nat) (ret : Option FieldType) (na : Nat) : Prop :=
  Cond.methodLink own index y ∈ lw_good ∧ Cond.static y ∈ lw_good ∧ Cond.initialized y.cls ∈ lw_good ∧ Cond.code y bytes maxL ret ∈ lw_good ∧ (y.cls ≠ "java/lang/invoke/MethodHandle" ∧ y.cls ≠ "java/lang/invoke/VarHandle" ∧ (parseMethodDescriptor y.desc).map (fun d => d.parameters.length) = some na) ∧ maxL ≤ 21
def jLN (own : String) (index : Nat) (y : MethodName) (bytes : ByteArray) (maxL : Nat) (ret : Option FieldType) (na : Nat) : Prop :=
  Cond.methodLinkNest own index y "PricedCopies" ∈ jnest ∧ Cond.static y ∈ lw_good ∧ Cond.initialized y.cls ∈ lw_good ∧ Cond.code y bytes maxL ret ∈ lw_good ∧ (y.cls ≠ "java/lang/invoke/MethodHandle" ∧ y.cls ≠ "java/lang/invoke/VarHandle" ∧ (parseMethodDescriptor y.desc).map (fun d => d.parameters.length) = some na) ∧ maxL ≤ 21
theorem va_S.after {B0 : Nat} {H0 H H1 : Heap} {locs L : List Loc} (hS : va_S (fun q => B0 ≤ q) H0 H locs) (hz : H.size ≤ H1.size) (hk : ∀ q : Nat, q < H.size → ¬ B0 ≤ q → H1[q]? = H[q]?) (hL : ∀ q ∈ L, B0 ≤ q.base) : va_S (fun q => B0 ≤ q) H0 H1 (locs ++ L) :=
  ⟨Nat.le_trans hS.1 hz, fun q h1 h2 => (hk q (Nat.lt_of_lt_of_le h1 hS.1) h2).trans (hS.2.1 q h1 h2), fun q hq => by
    rcases List.mem_append.mp hq with h | h
    · exact hS.2.2 q h
    · exact hL q h⟩
section JCALL
variable {X : jX} {G : jG} {B0 : Nat} {κ : Int → Option jKd} {n kc ks : Nat} {Q : State → Prop} {nL : Nat} {φ : jPhi} {pc : Nat} {lv : List (Option Value)} {st : List Value} {cc : ByteArray} {own : String} {d : Nat}
variable {index : Nat} {C : String} {y : MethodName} {bytes : ByteArray} {maxL : Nat} {ret : Option FieldType} {d' : Nat} {As : List Value} {mk : Int → Option Value} {post : Int → jPhi → Prop}
theorem j_after {av : List Value} {H : Heap} {locs : List Loc} {ls : Array Slot} {st0 : List Value} (hS : va_S (fun q => B0 ≤ q) X.s.heap H locs) (hl : jlh ls nL lv) (hr : va_Run X.p X.l X.e X.R X.s X.m X.args X.below X.meth X.c H locs kc ks 0 0 (F0 X.m pc ls st0) st (jQ G B0 κ n mk post av.toArray) (fun q => B0 ≤ q))
    (kk : ∀ (z : Int) (φ' : jPhi), post z φ' → jJ X G B0 κ n kc ks Q nL φ' (pc + 3) lv ((mk z).toList ++ st)) : jW X H locs kc ks Q (F0 X.m pc ls st0) := by
  intro T hT Xs
  obtain ⟨v, st₀, t, T', L, h0, X', hL, e1, e2, ⟨⟨z, φ', hv, hp, hPt⟩, hz, hk⟩, sg⟩ := hr T hT Xs
  have hv' : v = mk z := by cases hv; rfl
  subst hv'
  rw [h0] at hz hk
  obtain ⟨t2, a1, b1⟩ := kk z φ' hp T'.heap (locs ++ L) ls (by rw [e1]; exact hPt) (hS.after (by rw [e1]; exact hz) (fun q h1 h2 => by rw [e1]; exact hk q h1 h2) hL) hl T' rfl X'
  exact ⟨t2, sg t2 a1, b1⟩
theorem j_callV (F : jF X G cc nL own d kc ks) (hL : jLV own index C y bytes maxL ret As.length) {i : Int} (hM : jC X.l G B0 κ n y bytes maxL ret d' (rf B0 i :: As) φ mk post) {ci N : Nat} {T : u_T} {cs : List jSl} (hκ : κ i = some (.inl (ci, cs))) (hc : jclasses[ci]? = some (C, T, N)) (hdd : d' + 1 ≤ d) (hcat : (st.map fun v => v.category).sum ≤ 8) (hd : decode cc pc = .ok (.invokevirtual index, 3))
    (kk : ∀ (z : Int) (φ' : jPhi), post z φ' → jJ X G B0 κ n kc ks Q nL φ' (pc + 3) lv ((mk z).toList ++ st)) : jJ X G B0 κ n kc ks Q nL φ pc lv (As.reverse ++ rf B0 i :: st) := by
  intro H locs ls hP hS hl
  obtain ⟨w1, w2, w3, w4, w5, w6, w7⟩ := hL
  have hG : GoodIn lw_good (wsV own index C y (Cond.code y bytes maxL ret :: lw_good)) := by
    intro w hw
    unfold wsV at hw
    rcases List.mem_append.mp hw with hw | hw
    · have hw' : w ∈ lw_good := by
        simp only [List.mem_cons, List.not_mem_nil, or_false] at hw
        rcases hw with rfl | rfl | rfl | rfl
        · exact w1
        · exact w2
        · exact w3
        · exact w4
      exact ⟨hw', lw_allgood _ hw'⟩
    · exact lw_goodIn w5 w hw
  obtain ⟨cell, q1, q2, q3, q4⟩ := (hP.2 i _ hκ).2
  have hfc := (F.2.2.2.2.2.1.1.1 ci _ hc).2.1
  refine j_after hS hl (av := rf B0 i :: As) (va_runV (C := C) (As := As) (rest := st) (b := B0 + i.toNat) ⟨F.1, F.2.1, F.2.2.1, F.2.2.2.1, F.2.2.2.2.1⟩ hM (cwV As.length F.2.2.2.2.1 hG rfl rfl rfl w6 ⟨by show d' + 1 ≤ _; have := F.2.2.2.2.2.2.1.1; omega, by show 8 + (maxL + 11) + 40 * d' ≤ _; have := F.2.2.2.2.2.2.1.2; omega⟩) ⟨jPc_blind, ⟨cell, q1, by rw [q3]; rfl, by rw [q2]; exact hfc⟩, fun U hU hW => ⟨rfl, by rw [hU]; exact hP, F.2.2.2.2.2.1.warm hW⟩⟩ rfl rfl hl.1 rfl (lv_room hcat) hd F.2.2.2.2.2.2.2) kk
theorem j_callS (F : jF X G cc nL own d kc ks) (hL : jLS own index y bytes maxL ret As.length) (hM : jC X.l G B0 κ n y bytes maxL ret d' As φ mk post) (hdd : d' + 1 ≤ d) (hcat : (st.map fun v => v.category).sum ≤ 8) (hd : decode cc pc = .ok (.invokestatic index, 3))
    (kk : ∀ (z : Int) (φ' : jPhi), post z φ' → jJ X G B0 κ n kc ks Q nL φ' (pc + 3) lv ((mk z).toList ++ st)) : jJ X G B0 κ n kc ks Q nL φ pc lv (As.reverse ++ st) := by
  intro H locs ls hP hS hl
  obtain ⟨w1, w2, w4, w5, w6, w7⟩ := hL
  have hG : GoodIn lw_good (va_wsS own index y (Cond.code y bytes maxL ret :: lw_good)) := by
    intro w hw
    unfold va_wsS at hw
    rcases List.mem_append.mp hw with hw | hw
    · have hw' : w ∈ lw_good := by
        simp only [List.mem_cons, List.not_mem_nil, or_false] at hw
        rcases hw with rfl | rfl | rfl
        · exact w1
        · exact w2
        · exact w4
      exact ⟨hw', lw_allgood _ hw'⟩
    · exact lw_goodIn w5 w hw
  refine j_after hS hl (av := As) (va_runS (As := As) (rest := st) ⟨F.1, F.2.1, F.2.2.1, F.2.2.2.1, F.2.2.2.2.1⟩ hM (va_cwS As.length F.2.2.2.2.1 hG rfl rfl rfl w6 ⟨by show d' + 1 ≤ _; have := F.2.2.2.2.2.2.1.1; omega, by show 8 + (maxL + 11) + 40 * d' ≤ _; have := F.2.2.2.2.2.2.1.2; omega⟩) ⟨jPc_blind, fun U hU hW => ⟨rfl, by rw [hU]; exact hP, F.2.2.2.2.2.1.warm hW⟩⟩ rfl rfl hl.1 rfl (lv_room hcat) hd F.2.2.2.2.2.2.2) kk
theorem j_callN (F : jF X G cc nL own d kc ks) (hL : jLN own index y bytes maxL ret As.length) (hM : jC X.l G B0 κ n y bytes maxL ret d' As φ mk post) (hdd : d' + 1 ≤ d) (hcat : (st.map fun v => v.category).sum ≤ 8) (hd : decode cc pc = .ok (.invokestatic index, 3))
    (kk : ∀ (z : Int) (φ' : jPhi), post z φ' → jJ X G B0 κ n kc ks Q nL φ' (pc + 3) lv ((mk z).toList ++ st)) : jJ X G B0 κ n kc ks Q nL φ pc lv (As.reverse ++ st) := by
  intro H locs ls hP hS hl
  obtain ⟨w1, w2, w4, w5, w6, w7⟩ := hL
  refine j_after hS hl (av := As) (va_runSN (As := As) (rest := st) ⟨F.1, F.2.1, F.2.2.1, F.2.2.2.1, F.2.2.2.2.1⟩ hM ⟨va_cnB As.length F.2.2.2.2.1 (lw_goodIn w5) rfl rfl rfl (F.2.2.2.2.2.1.2 _ w1) (F.2.2.2.2.1 _ w4) w6 ⟨by show d' + 1 ≤ _; have := F.2.2.2.2.2.2.1.1; omega, by show 8 + (maxL + 11) + 40 * d' ≤ _; have := F.2.2.2.2.2.2.1.2; omega⟩, F.2.2.2.2.1 _ w2, trivial⟩ ⟨jPc_blind, fun U hU hW => ⟨rfl, by rw [hU]; exact hP, F.2.2.2.2.2.1.warm hW⟩⟩ rfl rfl hl.1 rfl (lv_room hcat) hd F.2.2.2.2.2.2.2) kk
end JCALL
end
section
/-- a method's end -/
def jE (X : jX) (G : jG) (B0 : Nat) (κ : Int → Option jKd) (n : Nat) (Q : State → Prop) (ret : Option FieldType) (mk : Int → Option Value) (post : Int → jPhi → Prop) : Prop :=
  X.meth.sig.returnType = ret ∧ X.meth.locks = false ∧ Q = MQ X.below (jQ G B0 κ n mk post) X.args X.s 0 0 (fun q => B0 ≤ q)
theorem jC_start {l : Launch} {G : jG} {B0 : Nat} {κ : Int → Option jKd} {n : Nat} {y : MethodName} {cc : ByteArray} {maxL : Nat} {ret : Option FieldType} {d : Nat} {av : List Value} {φ : jPhi} {mk : Int → Option Value} {post : Int → jPhi → Prop} (own : String) (lv0 : List (Option Value)) (hy : plainName y.cls = true) (hown : y.cls = own) (hlen : (lg_sl av).length ≤ maxL) (hl0 : jprs 0 lv0 = lv_args 0 av)
    (body : ∀ (X : jX) (Q : State → Prop), jF X G cc maxL own d 0 0 → jE X G B0 κ n Q ret mk post → jJ X G B0 κ n 0 0 Q maxL φ 0 lv0 []) : jC l G B0 κ n y cc maxL ret d av φ mk post := by
  subst hown
  refine Met.ofW (cc := cc) (maxL := maxL) (ret := ret) hy rfl ?_
  intro p e s m args below meth c s₁ B hml hv
  obtain ⟨rfl, hP, hK⟩ := hv
  have hts := atoms_spec (ws := Cond.code y cc maxL ret :: lw_good) B.pre
  have hown : s.vm.findClass y.cls = some m.cls := findClass_of_methodNamed B.named
  have hl := lv_entry av (n := maxL) hlen
  rw [lg_entry_eq]
  have h := body (p, l, e, (headSpec (Cond.code y cc maxL ret :: lw_good) (jRm d)).room, s, m, av.toArray, below, meth, c) _ ⟨B.exec, B.bytes, hml, hown, fun w hw => hts w (List.mem_cons_of_mem _ hw), hK, ⟨Nat.le_refl _, Nat.le_refl _⟩, ⟨Nat.zero_le _, Nat.zero_le _⟩⟩ ⟨B.returns, B.notSynchronized, rfl⟩
  refine h s.heap [] _ hP va_S.rf ?_
  unfold jlh
  rw [hl0]
  exact hl
section JEND
variable {X : jX} {G : jG} {B0 : Nat} {κ : Int → Option jKd} {n kc ks : Nat} {Q : State → Prop} {nL : Nat} {φ : jPhi} {pc : Nat} {lv : List (Option Value)} {st : List Value} {cc : ByteArray} {own : String} {d : Nat} {mk : Int → Option Value} {post : Int → jPhi → Prop}
theorem j_ireturn (F : jF X G cc nL own d 0 0) (E : jE X G B0 κ n Q (some .int) mkI post) {z : Int} (hd : decode cc pc = .ok (.ireturn, 1)) (hp : post z φ) : jJ X G B0 κ n 0 0 Q nL φ pc lv [iv z] := by
  obtain ⟨hr, hlk, rfl⟩ := E
  intro H locs ls hP hS hl
  exact W.iret F.1 F.2.1 hr (fun t ht hW => ⟨⟨z, φ, rfl, hp, by rw [ht]; exact hP⟩, hS.F ht⟩) hS.2.2 hd (hlocks := hlk)
theorem j_zreturn (F : jF X G cc nL own d 0 0) (E : jE X G B0 κ n Q (some .boolean) mkI post) {z : Int} (hz : z = 0 ∨ z = 1) (hd : decode cc pc = .ok (.ireturn, 1)) (hp : post z φ) : jJ X G B0 κ n 0 0 Q nL φ pc lv [iv z] := by
  obtain ⟨hr, hlk, rfl⟩ := E
  intro H locs ls hP hS hl
  exact W.zret F.1 F.2.1 hr (by rcases hz with rfl | rfl <;> decide) (fun t ht hW => ⟨⟨z, φ, rfl, hp, by rw [ht]; exact hP⟩, hS.F ht⟩) hS.2.2 hd (hlocks := hlk)
theorem j_lreturn (F : jF X G cc nL own d 0 0) (E : jE X G B0 κ n Q (some .long) mkL post) {z : Int} (hd : decode cc pc = .ok (.lreturn, 1)) (hp : post z φ) : jJ X G B0 κ n 0 0 Q nL φ pc lv [lvv z] := by
  obtain ⟨hr, hlk, rfl⟩ := E
  intro H locs ls hP hS hl
  exact W.lret F.1 F.2.1 hr (fun t ht hW => ⟨⟨z, φ, rfl, hp, by rw [ht]; exact hP⟩, hS.F ht⟩) hS.2.2 hd (hlocks := hlk)
theorem j_areturn (F : jF X G cc nL own d 0 0) {C : String} (E : jE X G B0 κ n Q (some (.object C)) (mkR B0) post) {z : Int} (hd : decode cc pc = .ok (.areturn, 1)) (hp : post z φ) : jJ X G B0 κ n 0 0 Q nL φ pc lv [rf B0 z] := by
  obtain ⟨hr, hlk, rfl⟩ := E
  intro H locs ls hP hS hl
  exact W.aret F.1 F.2.1 hr (Or.inl ⟨_, rfl⟩) (Or.inr ⟨_, rfl⟩) (fun t ht hW => ⟨⟨z, φ, rfl, hp, by rw [ht]; exact hP⟩, hS.F ht⟩) hS.2.2 hd (hlocks := hlk)
theorem j_return (F : jF X G cc nL own d 0 0) (E : jE X G B0 κ n Q none mkV post) (hd : decode cc pc = .ok (.return_, 1)) (hp : post 0 φ) : jJ X G B0 κ n 0 0 Q nL φ pc lv [] := by
  obtain ⟨hr, hlk, rfl⟩ := E
  intro H locs ls hP hS hl
  exact W.vret F.1 F.2.1 hr (fun t ht hW => ⟨⟨0, φ, rfl, hp, by rw [ht]; exact hP⟩, hS.F ht⟩) hS.2.2 hd (hlocks := hlk)
theorem j_max (F : jF X G cc nL own d kc ks) {index : Nat} {a b : Int} {n' : Nat} (hq : Cond.methodLink own index yJ9_max_7cf53 ∈ lw_good) (hd1 : 1 ≤ d) (hcat : (st.map fun v => v.category).sum ≤ 8) (ha : -2147483648 ≤ a ∧ a ≤ 2147483647) (hb : -2147483648 ≤ b ∧ b ≤ 2147483647) (hd : decode cc pc = .ok (.invokestatic index, 3)) (hn : pc + 3 = n') (kk : jJ X G B0 κ n kc ks Q nL φ n' lv (iv (max a b) :: st)) : jJ X G B0 κ n kc ks Q nL φ pc lv (iv b :: iv a :: st) := by
  subst hn; intro H locs ls hP hS hl
  have h := kk H locs ls hP hS hl
  have e : iv (max a b) = .int (if zI a < zI b then zI b else zI a) := by
    unfold iv
    by_cases q : a < b
    · rw [if_pos ((zI_lt ha hb).mpr q)]; congr 2; omega
    · rw [if_neg (fun h => q ((zI_lt ha hb).mp h))]; congr 2; omega
  rw [e] at h
  have hR := F.2.2.2.2.2.2.1
  exact va_mmax F.1 F.2.1 (F.2.2.1.trans hl.1.symm) F.2.2.2.1 (F.2.2.2.2.1 _ hq) (F.2.2.2.2.1 _ q_451) (F.2.2.2.2.1 _ q_10) (F.2.2.2.2.1 _ q_452) (by omega) (by omega) F.2.2.2.2.2.2.2.1 F.2.2.2.2.2.2.2.2 hd h
theorem j_min (F : jF X G cc nL own d kc ks) {index : Nat} {a b : Int} {n' : Nat} (hq : Cond.methodLink own index yJ9_min_7cf53 ∈ lw_good) (hd1 : 1 ≤ d) (hcat : (st.map fun v => v.category).sum ≤ 8) (ha : -2147483648 ≤ a ∧ a ≤ 2147483647) (hb : -2147483648 ≤ b ∧ b ≤ 2147483647) (hd : decode cc pc = .ok (.invokestatic index, 3)) (hn : pc + 3 = n') (kk : jJ X G B0 κ n kc ks Q nL φ n' lv (iv (min a b) :: st)) : jJ X G B0 κ n kc ks Q nL φ pc lv (iv b :: iv a :: st) := by
  subst hn; intro H locs ls hP hS hl
  have h := kk H locs ls hP hS hl
  have e : iv (min a b) = .int (if zI b < zI a then zI b else zI a) := by
    unfold iv
    by_cases q : b < a
    · rw [if_pos ((zI_lt hb ha).mpr q)]; congr 2; omega
    · rw [if_neg (fun h => q ((zI_lt hb ha).mp h))]; congr 2; omega
  rw [e] at h
  have hR := F.2.2.2.2.2.2.1
  exact va_mmin F.1 F.2.1 (F.2.2.1.trans hl.1.symm) F.2.2.2.1 (F.2.2.2.2.1 _ hq) (F.2.2.2.2.1 _ q_319) (F.2.2.2.2.1 _ q_10) (F.2.2.2.2.1 _ q_320) (by omega) (by omega) F.2.2.2.2.2.2.2.1 F.2.2.2.2.2.2.2.2 hd h
theorem j_lstore_n (F : jF X G cc nL own d kc ks) {i : Fin 4} {z : Int} {n' : Nat} {lv' : List (Option Value)} (hs : lv.set (i : Nat) (some (lvv z)) = lv') (hi : (i : Nat) + 1 < nL) (h2 : ∀ w : Value, lv[(i : Nat) + 1]? ≠ some (some w)) (hc : ∀ w : Value, 0 < (i : Nat) → lv[(i : Nat) - 1]? = some (some w) → w.category = 1) (hd : decode cc pc = .ok (.lstore_n i, 1)) (hn : pc + 1 = n') (k : jJ X G B0 κ n kc ks Q nL φ n' lv' st) : jJ X G B0 κ n kc ks Q nL φ pc lv (lvv z :: st) := by
  subst hn; subst hs; intro H locs ls hP hS hl'
  refine lv_lstore_n F.1 F.2.1 hd rfl hl' hi rfl (fun ls' h => k H locs ls' hP hS ?_)
  refine ⟨h.1, h.2.1, fun q hq => h.2.2 q ?_⟩
  obtain ⟨k, w⟩ := q
  obtain ⟨-, h3⟩ := (jprs_mem _ 0 k w).mp hq
  by_cases hk : k = (i : Nat)
  · subst hk
    rw [Nat.sub_zero, List.getElem?_set] at h3
    simp at h3
    rw [← h3.2]
    exact List.mem_cons_self
  · rw [Nat.sub_zero, List.getElem?_set_ne (Ne.symm hk)] at h3
    refine List.mem_cons_of_mem _ (List.mem_filter.mpr ⟨(jprs_mem lv 0 k w).mpr ⟨Nat.zero_le _, h3⟩, ?_⟩)
    have hk3 : ¬ k = (i : Nat) + 1 := fun q => h2 w (q ▸ h3)
    by_cases hk2 : k + 1 = (i : Nat)
    · have := hc w (by omega) (by rw [← hk2]; exact h3)
      simp [hk, hk3, this]
    · simp [hk, hk2, hk3]
end JEND
section JLOC
variable {X : jX} {G : jG} {B0 : Nat} {κ : Int → Option jKd} {n kc ks : Nat} {Q : State → Prop} {nL : Nat} {φ : jPhi} {pc : Nat} {lv : List (Option Value)} {st : List Value} {cc : ByteArray} {own : String} {d : Nat}
theorem j_iload_0 (F : jF X G cc nL own d kc ks) {r : List (Option Value)} {z : Int} {n' : Nat} (hd : decode cc pc = .ok (.iload_n 0, 1)) (hn : pc + 1 = n') (k : jJ X G B0 κ n kc ks Q nL φ n' (some (iv z) :: r) (iv z :: st)) : jJ X G B0 κ n kc ks Q nL φ pc (some (iv z) :: r) st := j_iload_n F (i := 0) rfl hd hn k
theorem j_aload_0 (F : jF X G cc nL own d kc ks) {r : List (Option Value)} {z : Int} {n' : Nat} (hd : decode cc pc = .ok (.aload_n 0, 1)) (hn : pc + 1 = n') (k : jJ X G B0 κ n kc ks Q nL φ n' (some (rf B0 z) :: r) (rf B0 z :: st)) : jJ X G B0 κ n kc ks Q nL φ pc (some (rf B0 z) :: r) st := j_aload_n F (i := 0) rfl hd hn k
theorem j_iload_1 (F : jF X G cc nL own d kc ks) {a0 : Option Value} {r : List (Option Value)} {z : Int} {n' : Nat} (hd : decode cc pc = .ok (.iload_n 1, 1)) (hn : pc + 1 = n') (k : jJ X G B0 κ n kc ks Q nL φ n' (a0 :: some (iv z) :: r) (iv z :: st)) : jJ X G B0 κ n kc ks Q nL φ pc (a0 :: some (iv z) :: r) st := j_iload_n F (i := 1) rfl hd hn k
theorem j_aload_1 (F : jF X G cc nL own d kc ks) {a0 : Option Value} {r : List (Option Value)} {z : Int} {n' : Nat} (hd : decode cc pc = .ok (.aload_n 1, 1)) (hn : pc + 1 = n') (k : jJ X G B0 κ n kc ks Q nL φ n' (a0 :: some (rf B0 z) :: r) (rf B0 z :: st)) : jJ X G B0 κ n kc ks Q nL φ pc (a0 :: some (rf B0 z) :: r) st := j_aload_n F (i := 1) rfl hd hn k
theorem j_istore_1 (F : jF X G cc nL own d kc ks) {a0 : Option Value} {a1 : Option Value} {r : List (Option Value)} {z : Int} {n' : Nat} (hi : 1 < nL) (hc : ∀ w, a0 = some w → w.category = 1) (hd : decode cc pc = .ok (.istore_n 1, 1)) (hn : pc + 1 = n') (k : jJ X G B0 κ n kc ks Q nL φ n' (a0 :: some (iv z) :: r) st) : jJ X G B0 κ n kc ks Q nL φ pc (a0 :: a1 :: r) (iv z :: st) := j_istore_n F (i := 1) rfl hi (fun w _ h => hc w (Option.some.inj (show some a0 = some (some w) from h))) hd hn k
theorem j_astore_1 (F : jF X G cc nL own d kc ks) {a0 : Option Value} {a1 : Option Value} {r : List (Option Value)} {z : Int} {n' : Nat} (hi : 1 < nL) (hc : ∀ w, a0 = some w → w.category = 1) (hd : decode cc pc = .ok (.astore_n 1, 1)) (hn : pc + 1 = n') (k : jJ X G B0 κ n kc ks Q nL φ n' (a0 :: some (rf B0 z) :: r) st) : jJ X G B0 κ n kc ks Q nL φ pc (a0 :: a1 :: r) (rf B0 z :: st) := j_astore_n F (i := 1) rfl hi (fun w _ h => hc w (Option.some.inj (show some a0 = some (some w) from h))) hd hn k
theorem j_iinc_1 (F : jF X G cc nL own d kc ks) {a0 : Option Value} {r : List (Option Value)} {z c : Int} {n' : Nat} (hi : 1 < nL) (hc : ∀ w, a0 = some w → w.category = 1) (hd : decode cc pc = .ok (.iinc 1 c, 3)) (hn : pc + 3 = n') (k : jJ X G B0 κ n kc ks Q nL φ n' (a0 :: some (iv (z + c)) :: r) st) : jJ X G B0 κ n kc ks Q nL φ pc (a0 :: some (iv z) :: r) st := j_iinc F (i := 1) rfl rfl hi (fun w _ h => hc w (Option.some.inj (show some a0 = some (some w) from h))) hd hn k
theorem j_iload_2 (F : jF X G cc nL own d kc ks) {a0 a1 : Option Value} {r : List (Option Value)} {z : Int} {n' : Nat} (hd : decode cc pc = .ok (.iload_n 2, 1)) (hn : pc + 1 = n') (k : jJ X G B0 κ n kc ks Q nL φ n' (a0 :: a1 :: some (iv z) :: r) (iv z :: st)) : jJ X G B0 κ n kc ks Q nL φ pc (a0 :: a1 :: some (iv z) :: r) st := j_iload_n F (i := 2) rfl hd hn k
theorem j_aload_2 (F : jF X G cc nL own d kc ks) {a0 a1 : Option Value} {r : List (Option Value)} {z : Int} {n' : Nat} (hd : decode cc pc = .ok (.aload_n 2, 1)) (hn : pc + 1 = n') (k : jJ X G B0 κ n kc ks Q nL φ n' (a0 :: a1 :: some (rf B0 z) :: r) (rf B0 z :: st)) : jJ X G B0 κ n kc ks Q nL φ pc (a0 :: a1 :: some (rf B0 z) :: r) st := j_aload_n F (i := 2) rfl hd hn k
theorem j_istore_2 (F : jF X G cc nL own d kc ks) {a0 a1 : Option Value} {a2 : Option Value} {r : List (Option Value)} {z : Int} {n' : Nat} (hi : 2 < nL) (hc : ∀ w, a1 = some w → w.category = 1) (hd : decode cc pc = .ok (.istore_n 2, 1)) (hn : pc + 1 = n') (k : jJ X G B0 κ n kc ks Q nL φ n' (a0 :: a1 :: some (iv z) :: r) st) : jJ X G B0 κ n kc ks Q nL φ pc (a0 :: a1 :: a2 :: r) (iv z :: st) := j_istore_n F (i := 2) rfl hi (fun w _ h => hc w (Option.some.inj (show some a1 = some (some w) from h))) hd hn k
theorem j_astore_2 (F : jF X G cc nL own d kc ks) {a0 a1 : Option Value} {a2 : Option Value} {r : List (Option Value)} {z : Int} {n' : Nat} (hi : 2 < nL) (hc : ∀ w, a1 = some w → w.category = 1) (hd : decode cc pc = .ok (.astore_n 2, 1)) (hn : pc + 1 = n') (k : jJ X G B0 κ n kc ks Q nL φ n' (a0 :: a1 :: some (rf B0 z) :: r) st) : jJ X G B0 κ n kc ks Q nL φ pc (a0 :: a1 :: a2 :: r) (rf B0 z :: st) := j_astore_n F (i := 2) rfl hi (fun w _ h => hc w (Option.some.inj (show some a1 = some (some w) from h))) hd hn k
theorem j_iinc_2 (F : jF X G cc nL own d kc ks) {a0 a1 : Option Value} {r : List (Option Value)} {z c : Int} {n' : Nat} (hi : 2 < nL) (hc : ∀ w, a1 = some w → w.category = 1) (hd : decode cc pc = .ok (.iinc 2 c, 3)) (hn : pc + 3 = n') (k : jJ X G B0 κ n kc ks Q nL φ n' (a0 :: a1 :: some (iv (z + c)) :: r) st) : jJ X G B0 κ n kc ks Q nL φ pc (a0 :: a1 :: some (iv z) :: r) st := j_iinc F (i := 2) rfl rfl hi (fun w _ h => hc w (Option.some.inj (show some a1 = some (some w) from h))) hd hn k
theorem j_iload_3 (F : jF X G cc nL own d kc ks) {a0 a1 a2 : Option Value} {r : List (Option Value)} {z : Int} {n' : Nat} (hd : decode cc pc = .ok (.iload_n 3, 1)) (hn : pc + 1 = n') (k : jJ X G B0 κ n kc ks Q nL φ n' (a0 :: a1 :: a2 :: some (iv z) :: r) (iv z :: st)) : jJ X G B0 κ n kc ks Q nL φ pc (a0 :: a1 :: a2 :: some (iv z) :: r) st := j_iload_n F (i := 3) rfl hd hn k
theorem j_aload_3 (F : jF X G cc nL own d kc ks) {a0 a1 a2 : Option Value} {r : List (Option Value)} {z : Int} {n' : Nat} (hd : decode cc pc = .ok (.aload_n 3, 1)) (hn : pc + 1 = n') (k : jJ X G B0 κ n kc ks Q nL φ n' (a0 :: a1 :: a2 :: some (rf B0 z) :: r) (rf B0 z :: st)) : jJ X G B0 κ n kc ks Q nL φ pc (a0 :: a1 :: a2 :: some (rf B0 z) :: r) st := j_aload_n F (i := 3) rfl hd hn k
theorem j_istore_3 (F : jF X G cc nL own d kc ks) {a0 a1 a2 : Option Value} {a3 : Option Value} {r : List (Option Value)} {z : Int} {n' : Nat} (hi : 3 < nL) (hc : ∀ w, a2 = some w → w.category = 1) (hd : decode cc pc = .ok (.istore_n 3, 1)) (hn : pc + 1 = n') (k : jJ X G B0 κ n kc ks Q nL φ n' (a0 :: a1 :: a2 :: some (iv z) :: r) st) : jJ X G B0 κ n kc ks Q nL φ pc (a0 :: a1 :: a2 :: a3 :: r) (iv z :: st) := j_istore_n F (i := 3) rfl hi (fun w _ h => hc w (Option.some.inj (show some a2 = some (some w) from h))) hd hn k
theorem j_astore_3 (F : jF X G cc nL own d kc ks) {a0 a1 a2 : Option Value} {a3 : Option Value} {r : List (Option Value)} {z : Int} {n' : Nat} (hi : 3 < nL) (hc : ∀ w, a2 = some w → w.category = 1) (hd : decode cc pc = .ok (.astore_n 3, 1)) (hn : pc + 1 = n') (k : jJ X G B0 κ n kc ks Q nL φ n' (a0 :: a1 :: a2 :: some (rf B0 z) :: r) st) : jJ X G B0 κ n kc ks Q nL φ pc (a0 :: a1 :: a2 :: a3 :: r) (rf B0 z :: st) := j_astore_n F (i := 3) rfl hi (fun w _ h => hc w (Option.some.inj (show some a2 = some (some w) from h))) hd hn k
theorem j_iinc_3 (F : jF X G cc nL own d kc ks) {a0 a1 a2 : Option Value} {r : List (Option Value)} {z c : Int} {n' : Nat} (hi : 3 < nL) (hc : ∀ w, a2 = some w → w.category = 1) (hd : decode cc pc = .ok (.iinc 3 c, 3)) (hn : pc + 3 = n') (k : jJ X G B0 κ n kc ks Q nL φ n' (a0 :: a1 :: a2 :: some (iv (z + c)) :: r) st) : jJ X G B0 κ n kc ks Q nL φ pc (a0 :: a1 :: a2 :: some (iv z) :: r) st := j_iinc F (i := 3) rfl rfl hi (fun w _ h => hc w (Option.some.inj (show some a2 = some (some w) from h))) hd hn k
theorem j_iload_4 (F : jF X G cc nL own d kc ks) {a0 a1 a2 a3 : Option Value} {r : List (Option Value)} {z : Int} {n' : Nat} (hd : decode cc pc = .ok (.iload 4, 2)) (hn : pc + 2 = n') (k : jJ X G B0 κ n kc ks Q nL φ n' (a0 :: a1 :: a2 :: a3 :: some (iv z) :: r) (iv z :: st)) : jJ X G B0 κ n kc ks Q nL φ pc (a0 :: a1 :: a2 :: a3 :: some (iv z) :: r) st := j_iload F (i := 4) rfl hd hn k
theorem j_aload_4 (F : jF X G cc nL own d kc ks) {a0 a1 a2 a3 : Option Value} {r : List (Option Value)} {z : Int} {n' : Nat} (hd : decode cc pc = .ok (.aload 4, 2)) (hn : pc + 2 = n') (k : jJ X G B0 κ n kc ks Q nL φ n' (a0 :: a1 :: a2 :: a3 :: some (rf B0 z) :: r) (rf B0 z :: st)) : jJ X G B0 κ n kc ks Q nL φ pc (a0 :: a1 :: a2 :: a3 :: some (rf B0 z) :: r) st := j_aload F (i := 4) rfl hd hn k
theorem j_istore_4 (F : jF X G cc nL own d kc ks) {a0 a1 a2 a3 : Option Value} {a4 : Option Value} {r : List (Option Value)} {z : Int} {n' : Nat} (hi : 4 < nL) (hc : ∀ w, a3 = some w → w.category = 1) (hd : decode cc pc = .ok (.istore 4, 2)) (hn : pc + 2 = n') (k : jJ X G B0 κ n kc ks Q nL φ n' (a0 :: a1 :: a2 :: a3 :: some (iv z) :: r) st) : jJ X G B0 κ n kc ks Q nL φ pc (a0 :: a1 :: a2 :: a3 :: a4 :: r) (iv z :: st) := j_istore F (i := 4) rfl hi (fun w _ h => hc w (Option.some.inj (show some a3 = some (some w) from h))) hd hn k
theorem j_iinc_4 (F : jF X G cc nL own d kc ks) {a0 a1 a2 a3 : Option Value} {r : List (Option Value)} {z c : Int} {n' : Nat} (hi : 4 < nL) (hc : ∀ w, a3 = some w → w.category = 1) (hd : decode cc pc = .ok (.iinc 4 c, 3)) (hn : pc + 3 = n') (k : jJ X G B0 κ n kc ks Q nL φ n' (a0 :: a1 :: a2 :: a3 :: some (iv (z + c)) :: r) st) : jJ X G B0 κ n kc ks Q nL φ pc (a0 :: a1 :: a2 :: a3 :: some (iv z) :: r) st := j_iinc F (i := 4) rfl rfl hi (fun w _ h => hc w (Option.some.inj (show some a3 = some (some w) from h))) hd hn k
theorem j_iload_5 (F : jF X G cc nL own d kc ks) {a0 a1 a2 a3 a4 : Option Value} {r : List (Option Value)} {z : Int} {n' : Nat} (hd : decode cc pc = .ok (.iload 5, 2)) (hn : pc + 2 = n') (k : jJ X G B0 κ n kc ks Q nL φ n' (a0 :: a1 :: a2 :: a3 :: a4 :: some (iv z) :: r) (iv z :: st)) : jJ X G B0 κ n kc ks Q nL φ pc (a0 :: a1 :: a2 :: a3 :: a4 :: some (iv z) :: r) st := j_iload F (i := 5) rfl hd hn k
theorem j_aload_5 (F : jF X G cc nL own d kc ks) {a0 a1 a2 a3 a4 : Option Value} {r : List (Option Value)} {z : Int} {n' : Nat} (hd : decode cc pc = .ok (.aload 5, 2)) (hn : pc + 2 = n') (k : jJ X G B0 κ n kc ks Q nL φ n' (a0 :: a1 :: a2 :: a3 :: a4 :: some (rf B0 z) :: r) (rf B0 z :: st)) : jJ X G B0 κ n kc ks Q nL φ pc (a0 :: a1 :: a2 :: a3 :: a4 :: some (rf B0 z) :: r) st := j_aload F (i := 5) rfl hd hn k
theorem j_istore_5 (F : jF X G cc nL own d kc ks) {a0 a1 a2 a3 a4 : Option Value} {a5 : Option Value} {r : List (Option Value)} {z : Int} {n' : Nat} (hi : 5 < nL) (hc : ∀ w, a4 = some w → w.category = 1) (hd : decode cc pc = .ok (.istore 5, 2)) (hn : pc + 2 = n') (k : jJ X G B0 κ n kc ks Q nL φ n' (a0 :: a1 :: a2 :: a3 :: a4 :: some (iv z) :: r) st) : jJ X G B0 κ n kc ks Q nL φ pc (a0 :: a1 :: a2 :: a3 :: a4 :: a5 :: r) (iv z :: st) := j_istore F (i := 5) rfl hi (fun w _ h => hc w (Option.some.inj (show some a4 = some (some w) from h))) hd hn k
theorem j_iinc_5 (F : jF X G cc nL own d kc ks) {a0 a1 a2 a3 a4 : Option Value} {r : List (Option Value)} {z c : Int} {n' : Nat} (hi : 5 < nL) (hc : ∀ w, a4 = some w → w.category = 1) (hd : decode cc pc = .ok (.iinc 5 c, 3)) (hn : pc + 3 = n') (k : jJ X G B0 κ n kc ks Q nL φ n' (a0 :: a1 :: a2 :: a3 :: a4 :: some (iv (z + c)) :: r) st) : jJ X G B0 κ n kc ks Q nL φ pc (a0 :: a1 :: a2 :: a3 :: a4 :: some (iv z) :: r) st := j_iinc F (i := 5) rfl rfl hi (fun w _ h => hc w (Option.some.inj (show some a4 = some (some w) from h))) hd hn k
theorem j_iload_6 (F : jF X G cc nL own d kc ks) {a0 a1 a2 a3 a4 a5 : Option Value} {r : List (Option Value)} {z : Int} {n' : Nat} (hd : decode cc pc = .ok (.iload 6, 2)) (hn : pc + 2 = n') (k : jJ X G B0 κ n kc ks Q nL φ n' (a0 :: a1 :: a2 :: a3 :: a4 :: a5 :: some (iv z) :: r) (iv z :: st)) : jJ X G B0 κ n kc ks Q nL φ pc (a0 :: a1 :: a2 :: a3 :: a4 :: a5 :: some (iv z) :: r) st := j_iload F (i := 6) rfl hd hn k
theorem j_istore_6 (F : jF X G cc nL own d kc ks) {a0 a1 a2 a3 a4 a5 : Option Value} {a6 : Option Value} {r : List (Option Value)} {z : Int} {n' : Nat} (hi : 6 < nL) (hc : ∀ w, a5 = some w → w.category = 1) (hd : decode cc pc = .ok (.istore 6, 2)) (hn : pc + 2 = n') (k : jJ X G B0 κ n kc ks Q nL φ n' (a0 :: a1 :: a2 :: a3 :: a4 :: a5 :: some (iv z) :: r) st) : jJ X G B0 κ n kc ks Q nL φ pc (a0 :: a1 :: a2 :: a3 :: a4 :: a5 :: a6 :: r) (iv z :: st) := j_istore F (i := 6) rfl hi (fun w _ h => hc w (Option.some.inj (show some a5 = some (some w) from h))) hd hn k
theorem j_iinc_6 (F : jF X G cc nL own d kc ks) {a0 a1 a2 a3 a4 a5 : Option Value} {r : List (Option Value)} {z c : Int} {n' : Nat} (hi : 6 < nL) (hc : ∀ w, a5 = some w → w.category = 1) (hd : decode cc pc = .ok (.iinc 6 c, 3)) (hn : pc + 3 = n') (k : jJ X G B0 κ n kc ks Q nL φ n' (a0 :: a1 :: a2 :: a3 :: a4 :: a5 :: some (iv (z + c)) :: r) st) : jJ X G B0 κ n kc ks Q nL φ pc (a0 :: a1 :: a2 :: a3 :: a4 :: a5 :: some (iv z) :: r) st := j_iinc F (i := 6) rfl rfl hi (fun w _ h => hc w (Option.some.inj (show some a5 = some (some w) from h))) hd hn k
theorem j_iload_7 (F : jF X G cc nL own d kc ks) {a0 a1 a2 a3 a4 a5 a6 : Option Value} {r : List (Option Value)} {z : Int} {n' : Nat} (hd : decode cc pc = .ok (.iload 7, 2)) (hn : pc + 2 = n') (k : jJ X G B0 κ n kc ks Q nL φ n' (a0 :: a1 :: a2 :: a3 :: a4 :: a5 :: a6 :: some (iv z) :: r) (iv z :: st)) : jJ X G B0 κ n kc ks Q nL φ pc (a0 :: a1 :: a2 :: a3 :: a4 :: a5 :: a6 :: some (iv z) :: r) st := j_iload F (i := 7) rfl hd hn k
theorem j_istore_7 (F : jF X G cc nL own d kc ks) {a0 a1 a2 a3 a4 a5 a6 : Option Value} {a7 : Option Value} {r : List (Option Value)} {z : Int} {n' : Nat} (hi : 7 < nL) (hc : ∀ w, a6 = some w → w.category = 1) (hd : decode cc pc = .ok (.istore 7, 2)) (hn : pc + 2 = n') (k : jJ X G B0 κ n kc ks Q nL φ n' (a0 :: a1 :: a2 :: a3 :: a4 :: a5 :: a6 :: some (iv z) :: r) st) : jJ X G B0 κ n kc ks Q nL φ pc (a0 :: a1 :: a2 :: a3 :: a4 :: a5 :: a6 :: a7 :: r) (iv z :: st) := j_istore F (i := 7) rfl hi (fun w _ h => hc w (Option.some.inj (show some a6 = some (some w) from h))) hd hn k
theorem j_iinc_7 (F : jF X G cc nL own d kc ks) {a0 a1 a2 a3 a4 a5 a6 : Option Value} {r : List (Option Value)} {z c : Int} {n' : Nat} (hi : 7 < nL) (hc : ∀ w, a6 = some w → w.category = 1) (hd : decode cc pc = .ok (.iinc 7 c, 3)) (hn : pc + 3 = n') (k : jJ X G B0 κ n kc ks Q nL φ n' (a0 :: a1 :: a2 :: a3 :: a4 :: a5 :: a6 :: some (iv (z + c)) :: r) st) : jJ X G B0 κ n kc ks Q nL φ pc (a0 :: a1 :: a2 :: a3 :: a4 :: a5 :: a6 :: some (iv z) :: r) st := j_iinc F (i := 7) rfl rfl hi (fun w _ h => hc w (Option.some.inj (show some a6 = some (some w) from h))) hd hn k
theorem j_iload_8 (F : jF X G cc nL own d kc ks) {a0 a1 a2 a3 a4 a5 a6 a7 : Option Value} {r : List (Option Value)} {z : Int} {n' : Nat} (hd : decode cc pc = .ok (.iload 8, 2)) (hn : pc + 2 = n') (k : jJ X G B0 κ n kc ks Q nL φ n' (a0 :: a1 :: a2 :: a3 :: a4 :: a5 :: a6 :: a7 :: some (iv z) :: r) (iv z :: st)) : jJ X G B0 κ n kc ks Q nL φ pc (a0 :: a1 :: a2 :: a3 :: a4 :: a5 :: a6 :: a7 :: some (iv z) :: r) st := j_iload F (i := 8) rfl hd hn k
theorem j_istore_8 (F : jF X G cc nL own d kc ks) {a0 a1 a2 a3 a4 a5 a6 a7 : Option Value} {a8 : Option Value} {r : List (Option Value)} {z : Int} {n' : Nat} (hi : 8 < nL) (hc : ∀ w, a7 = some w → w.category = 1) (hd : decode cc pc = .ok (.istore 8, 2)) (hn : pc + 2 = n') (k : jJ X G B0 κ n kc ks Q nL φ n' (a0 :: a1 :: a2 :: a3 :: a4 :: a5 :: a6 :: a7 :: some (iv z) :: r) st) : jJ X G B0 κ n kc ks Q nL φ pc (a0 :: a1 :: a2 :: a3 :: a4 :: a5 :: a6 :: a7 :: a8 :: r) (iv z :: st) := j_istore F (i := 8) rfl hi (fun w _ h => hc w (Option.some.inj (show some a7 = some (some w) from h))) hd hn k
theorem j_iinc_8 (F : jF X G cc nL own d kc ks) {a0 a1 a2 a3 a4 a5 a6 a7 : Option Value} {r : List (Option Value)} {z c : Int} {n' : Nat} (hi : 8 < nL) (hc : ∀ w, a7 = some w → w.category = 1) (hd : decode cc pc = .ok (.iinc 8 c, 3)) (hn : pc + 3 = n') (k : jJ X G B0 κ n kc ks Q nL φ n' (a0 :: a1 :: a2 :: a3 :: a4 :: a5 :: a6 :: a7 :: some (iv (z + c)) :: r) st) : jJ X G B0 κ n kc ks Q nL φ pc (a0 :: a1 :: a2 :: a3 :: a4 :: a5 :: a6 :: a7 :: some (iv z) :: r) st := j_iinc F (i := 8) rfl rfl hi (fun w _ h => hc w (Option.some.inj (show some a7 = some (some w) from h))) hd hn k
theorem j_iload_9 (F : jF X G cc nL own d kc ks) {a0 a1 a2 a3 a4 a5 a6 a7 a8 : Option Value} {r : List (Option Value)} {z : Int} {n' : Nat} (hd : decode cc pc = .ok (.iload 9, 2)) (hn : pc + 2 = n') (k : jJ X G B0 κ n kc ks Q nL φ n' (a0 :: a1 :: a2 :: a3 :: a4 :: a5 :: a6 :: a7 :: a8 :: some (iv z) :: r) (iv z :: st)) : jJ X G B0 κ n kc ks Q nL φ pc (a0 :: a1 :: a2 :: a3 :: a4 :: a5 :: a6 :: a7 :: a8 :: some (iv z) :: r) st := j_iload F (i := 9) rfl hd hn k
theorem j_istore_9 (F : jF X G cc nL own d kc ks) {a0 a1 a2 a3 a4 a5 a6 a7 a8 : Option Value} {a9 : Option Value} {r : List (Option Value)} {z : Int} {n' : Nat} (hi : 9 < nL) (hc : ∀ w, a8 = some w → w.category = 1) (hd : decode cc pc = .ok (.istore 9, 2)) (hn : pc + 2 = n') (k : jJ X G B0 κ n kc ks Q nL φ n' (a0 :: a1 :: a2 :: a3 :: a4 :: a5 :: a6 :: a7 :: a8 :: some (iv z) :: r) st) : jJ X G B0 κ n kc ks Q nL φ pc (a0 :: a1 :: a2 :: a3 :: a4 :: a5 :: a6 :: a7 :: a8 :: a9 :: r) (iv z :: st) := j_istore F (i := 9) rfl hi (fun w _ h => hc w (Option.some.inj (show some a8 = some (some w) from h))) hd hn k
theorem j_iinc_9 (F : jF X G cc nL own d kc ks) {a0 a1 a2 a3 a4 a5 a6 a7 a8 : Option Value} {r : List (Option Value)} {z c : Int} {n' : Nat} (hi : 9 < nL) (hc : ∀ w, a8 = some w → w.category = 1) (hd : decode cc pc = .ok (.iinc 9 c, 3)) (hn : pc + 3 = n') (k : jJ X G B0 κ n kc ks Q nL φ n' (a0 :: a1 :: a2 :: a3 :: a4 :: a5 :: a6 :: a7 :: a8 :: some (iv (z + c)) :: r) st) : jJ X G B0 κ n kc ks Q nL φ pc (a0 :: a1 :: a2 :: a3 :: a4 :: a5 :: a6 :: a7 :: a8 :: some (iv z) :: r) st := j_iinc F (i := 9) rfl rfl hi (fun w _ h => hc w (Option.some.inj (show some a8 = some (some w) from h))) hd hn k
theorem j_iload_10 (F : jF X G cc nL own d kc ks) {a0 a1 a2 a3 a4 a5 a6 a7 a8 a9 : Option Value} {r : List (Option Value)} {z : Int} {n' : Nat} (hd : decode cc pc = .ok (.iload 10, 2)) (hn : pc + 2 = n') (k : jJ X G B0 κ n kc ks Q nL φ n' (a0 :: a1 :: a2 :: a3 :: a4 :: a5 :: a6 :: a7 :: a8 :: a9 :: some (iv z) :: r) (iv z :: st)) : jJ X G B0 κ n kc ks Q nL φ pc (a0 :: a1 :: a2 :: a3 :: a4 :: a5 :: a6 :: a7 :: a8 :: a9 :: some (iv z) :: r) st := j_iload F (i := 10) rfl hd hn k
theorem j_istore_10 (F : jF X G cc nL own d kc ks) {a0 a1 a2 a3 a4 a5 a6 a7 a8 a9 : Option Value} {a10 : Option Value} {r : List (Option Value)} {z : Int} {n' : Nat} (hi : 10 < nL) (hc : ∀ w, a9 = some w → w.category = 1) (hd : decode cc pc = .ok (.istore 10, 2)) (hn : pc + 2 = n') (k : jJ X G B0 κ n kc ks Q nL φ n' (a0 :: a1 :: a2 :: a3 :: a4 :: a5 :: a6 :: a7 :: a8 :: a9 :: some (iv z) :: r) st) : jJ X G B0 κ n kc ks Q nL φ pc (a0 :: a1 :: a2 :: a3 :: a4 :: a5 :: a6 :: a7 :: a8 :: a9 :: a10 :: r) (iv z :: st) := j_istore F (i := 10) rfl hi (fun w _ h => hc w (Option.some.inj (show some a9 = some (some w) from h))) hd hn k
theorem j_iinc_10 (F : jF X G cc nL own d kc ks) {a0 a1 a2 a3 a4 a5 a6 a7 a8 a9 : Option Value} {r : List (Option Value)} {z c : Int} {n' : Nat} (hi : 10 < nL) (hc : ∀ w, a9 = some w → w.category = 1) (hd : decode cc pc = .ok (.iinc 10 c, 3)) (hn : pc + 3 = n') (k : jJ X G B0 κ n kc ks Q nL φ n' (a0 :: a1 :: a2 :: a3 :: a4 :: a5 :: a6 :: a7 :: a8 :: a9 :: some (iv (z + c)) :: r) st) : jJ X G B0 κ n kc ks Q nL φ pc (a0 :: a1 :: a2 :: a3 :: a4 :: a5 :: a6 :: a7 :: a8 :: a9 :: some (iv z) :: r) st := j_iinc F (i := 10) rfl rfl hi (fun w _ h => hc w (Option.some.inj (show some a9 = some (some w) from h))) hd hn k
theorem j_iload_11 (F : jF X G cc nL own d kc ks) {a0 a1 a2 a3 a4 a5 a6 a7 a8 a9 a10 : Option Value} {r : List (Option Value)} {z : Int} {n' : Nat} (hd : decode cc pc = .ok (.iload 11, 2)) (hn : pc + 2 = n') (k : jJ X G B0 κ n kc ks Q nL φ n' (a0 :: a1 :: a2 :: a3 :: a4 :: a5 :: a6 :: a7 :: a8 :: a9 :: a10 :: some (iv z) :: r) (iv z :: st)) : jJ X G B0 κ n kc ks Q nL φ pc (a0 :: a1 :: a2 :: a3 :: a4 :: a5 :: a6 :: a7 :: a8 :: a9 :: a10 :: some (iv z) :: r) st := j_iload F (i := 11) rfl hd hn k
theorem j_istore_11 (F : jF X G cc nL own d kc ks) {a0 a1 a2 a3 a4 a5 a6 a7 a8 a9 a10 : Option Value} {a11 : Option Value} {r : List (Option Value)} {z : Int} {n' : Nat} (hi : 11 < nL) (hc : ∀ w, a10 = some w → w.category = 1) (hd : decode cc pc = .ok (.istore 11, 2)) (hn : pc + 2 = n') (k : jJ X G B0 κ n kc ks Q nL φ n' (a0 :: a1 :: a2 :: a3 :: a4 :: a5 :: a6 :: a7 :: a8 :: a9 :: a10 :: some (iv z) :: r) st) : jJ X G B0 κ n kc ks Q nL φ pc (a0 :: a1 :: a2 :: a3 :: a4 :: a5 :: a6 :: a7 :: a8 :: a9 :: a10 :: a11 :: r) (iv z :: st) := j_istore F (i := 11) rfl hi (fun w _ h => hc w (Option.some.inj (show some a10 = some (some w) from h))) hd hn k
theorem j_iinc_11 (F : jF X G cc nL own d kc ks) {a0 a1 a2 a3 a4 a5 a6 a7 a8 a9 a10 : Option Value} {r : List (Option Value)} {z c : Int} {n' : Nat} (hi : 11 < nL) (hc : ∀ w, a10 = some w → w.category = 1) (hd : decode cc pc = .ok (.iinc 11 c, 3)) (hn : pc + 3 = n') (k : jJ X G B0 κ n kc ks Q nL φ n' (a0 :: a1 :: a2 :: a3 :: a4 :: a5 :: a6 :: a7 :: a8 :: a9 :: a10 :: some (iv (z + c)) :: r) st) : jJ X G B0 κ n kc ks Q nL φ pc (a0 :: a1 :: a2 :: a3 :: a4 :: a5 :: a6 :: a7 :: a8 :: a9 :: a10 :: some (iv z) :: r) st := j_iinc F (i := 11) rfl rfl hi (fun w _ h => hc w (Option.some.inj (show some a10 = some (some w) from h))) hd hn k
theorem j_iload_12 (F : jF X G cc nL own d kc ks) {a0 a1 a2 a3 a4 a5 a6 a7 a8 a9 a10 a11 : Option Value} {r : List (Option Value)} {z : Int} {n' : Nat} (hd : decode cc pc = .ok (.iload 12, 2)) (hn : pc + 2 = n') (k : jJ X G B0 κ n kc ks Q nL φ n' (a0 :: a1 :: a2 :: a3 :: a4 :: a5 :: a6 :: a7 :: a8 :: a9 :: a10 :: a11 :: some (iv z) :: r) (iv z :: st)) : jJ X G B0 κ n kc ks Q nL φ pc (a0 :: a1 :: a2 :: a3 :: a4 :: a5 :: a6 :: a7 :: a8 :: a9 :: a10 :: a11 :: some (iv z) :: r) st := j_iload F (i := 12) rfl hd hn k
theorem j_istore_12 (F : jF X G cc nL own d kc ks) {a0 a1 a2 a3 a4 a5 a6 a7 a8 a9 a10 a11 : Option Value} {a12 : Option Value} {r : List (Option Value)} {z : Int} {n' : Nat} (hi : 12 < nL) (hc : ∀ w, a11 = some w → w.category = 1) (hd : decode cc pc = .ok (.istore 12, 2)) (hn : pc + 2 = n') (k : jJ X G B0 κ n kc ks Q nL φ n' (a0 :: a1 :: a2 :: a3 :: a4 :: a5 :: a6 :: a7 :: a8 :: a9 :: a10 :: a11 :: some (iv z) :: r) st) : jJ X G B0 κ n kc ks Q nL φ pc (a0 :: a1 :: a2 :: a3 :: a4 :: a5 :: a6 :: a7 :: a8 :: a9 :: a10 :: a11 :: a12 :: r) (iv z :: st) := j_istore F (i := 12) rfl hi (fun w _ h => hc w (Option.some.inj (show some a11 = some (some w) from h))) hd hn k
theorem j_iinc_12 (F : jF X G cc nL own d kc ks) {a0 a1 a2 a3 a4 a5 a6 a7 a8 a9 a10 a11 : Option Value} {r : List (Option Value)} {z c : Int} {n' : Nat} (hi : 12 < nL) (hc : ∀ w, a11 = some w → w.category = 1) (hd : decode cc pc = .ok (.iinc 12 c, 3)) (hn : pc + 3 = n') (k : jJ X G B0 κ n kc ks Q nL φ n' (a0 :: a1 :: a2 :: a3 :: a4 :: a5 :: a6 :: a7 :: a8 :: a9 :: a10 :: a11 :: some (iv (z + c)) :: r) st) : jJ X G B0 κ n kc ks Q nL φ pc (a0 :: a1 :: a2 :: a3 :: a4 :: a5 :: a6 :: a7 :: a8 :: a9 :: a10 :: a11 :: some (iv z) :: r) st := j_iinc F (i := 12) rfl rfl hi (fun w _ h => hc w (Option.some.inj (show some a11 = some (some w) from h))) hd hn k
theorem jc_i {z : Int} : ∀ w, some (iv z) = some w → w.category = 1 := fun _ h => by cases h; rfl
theorem jc_r {B0 : Nat} {z : Int} : ∀ w, some (rf B0 z) = some w → w.category = 1 := fun _ h => by cases h; rfl
theorem jc_n : ∀ w : Value, (none : Option Value) = some w → w.category = 1 := fun _ h => by cases h
end JLOC
section JCALLS
variable {X : jX} {G : jG} {B0 : Nat} {κ : Int → Option jKd} {n kc ks : Nat} {Q : State → Prop} {nL : Nat} {φ : jPhi} {pc : Nat} {lv : List (Option Value)} {st : List Value} {cc : ByteArray} {own : String} {d : Nat}
variable {index : Nat} {C : String} {y : MethodName} {bytes : ByteArray} {maxL : Nat} {ret : Option FieldType} {d' : Nat} {post : Int → jPhi → Prop}
theorem j_cV0i (F : jF X G cc nL own d kc ks) {i : Int} {n' : Nat} (hL : jLV own index C y bytes maxL ret 0) (hM : jC X.l G B0 κ n y bytes maxL ret d' [rf B0 i] φ mkI post) {ci N : Nat} {T : u_T} {cs : List jSl} (hκ : κ i = some (.inl (ci, cs))) (hc : jclasses[ci]? = some (C, T, N)) (hdd : d' + 1 ≤ d) (hcat : (st.map fun v => v.category).sum ≤ 8) (hd : decode cc pc = .ok (.invokevirtual index, 3)) (hn : pc + 3 = n') (kk : ∀ (z : Int) (φ' : jPhi), post z φ' → jJ X G B0 κ n kc ks Q nL φ' n' lv (iv z :: st)) : jJ X G B0 κ n kc ks Q nL φ pc lv (rf B0 i :: st) := by
  subst hn
  exact j_callV (As := []) F hL hM hκ hc hdd hcat hd kk
theorem j_cV0v (F : jF X G cc nL own d kc ks) {i : Int} {n' : Nat} (hL : jLV own index C y bytes maxL ret 0) (hM : jC X.l G B0 κ n y bytes maxL ret d' [rf B0 i] φ mkV post) {ci N : Nat} {T : u_T} {cs : List jSl} (hκ : κ i = some (.inl (ci, cs))) (hc : jclasses[ci]? = some (C, T, N)) (hdd : d' + 1 ≤ d) (hcat : (st.map fun v => v.category).sum ≤ 8) (hd : decode cc pc = .ok (.invokevirtual index, 3)) (hn : pc + 3 = n') (kk : ∀ (z : Int) (φ' : jPhi), post z φ' → jJ X G B0 κ n kc ks Q nL φ' n' lv (st)) : jJ X G B0 κ n kc ks Q nL φ pc lv (rf B0 i :: st) := by
  subst hn
  exact j_callV (As := []) F hL hM hκ hc hdd hcat hd kk
theorem j_cV0l (F : jF X G cc nL own d kc ks) {i : Int} {n' : Nat} (hL : jLV own index C y bytes maxL ret 0) (hM : jC X.l G B0 κ n y bytes maxL ret d' [rf B0 i] φ mkL post) {ci N : Nat} {T : u_T} {cs : List jSl} (hκ : κ i = some (.inl (ci, cs))) (hc : jclasses[ci]? = some (C, T, N)) (hdd : d' + 1 ≤ d) (hcat : (st.map fun v => v.category).sum ≤ 8) (hd : decode cc pc = .ok (.invokevirtual index, 3)) (hn : pc + 3 = n') (kk : ∀ (z : Int) (φ' : jPhi), post z φ' → jJ X G B0 κ n kc ks Q nL φ' n' lv (lvv z :: st)) : jJ X G B0 κ n kc ks Q nL φ pc lv (rf B0 i :: st) := by
  subst hn
  exact j_callV (As := []) F hL hM hκ hc hdd hcat hd kk
theorem j_cV0r (F : jF X G cc nL own d kc ks) {i : Int} {n' : Nat} (hL : jLV own index C y bytes maxL ret 0) (hM : jC X.l G B0 κ n y bytes maxL ret d' [rf B0 i] φ (mkR B0) post) {ci N : Nat} {T : u_T} {cs : List jSl} (hκ : κ i = some (.inl (ci, cs))) (hc : jclasses[ci]? = some (C, T, N)) (hdd : d' + 1 ≤ d) (hcat : (st.map fun v => v.category).sum ≤ 8) (hd : decode cc pc = .ok (.invokevirtual index, 3)) (hn : pc + 3 = n') (kk : ∀ (z : Int) (φ' : jPhi), post z φ' → jJ X G B0 κ n kc ks Q nL φ' n' lv (rf B0 z :: st)) : jJ X G B0 κ n kc ks Q nL φ pc lv (rf B0 i :: st) := by
  subst hn
  exact j_callV (As := []) F hL hM hκ hc hdd hcat hd kk
theorem j_cV1i (F : jF X G cc nL own d kc ks) {b0 : Value} {i : Int} {n' : Nat} (hL : jLV own index C y bytes maxL ret 1) (hM : jC X.l G B0 κ n y bytes maxL ret d' [rf B0 i, b0] φ mkI post) {ci N : Nat} {T : u_T} {cs : List jSl} (hκ : κ i = some (.inl (ci, cs))) (hc : jclasses[ci]? = some (C, T, N)) (hdd : d' + 1 ≤ d) (hcat : (st.map fun v => v.category).sum ≤ 8) (hd : decode cc pc = .ok (.invokevirtual index, 3)) (hn : pc + 3 = n') (kk : ∀ (z : Int) (φ' : jPhi), post z φ' → jJ X G B0 κ n kc ks Q nL φ' n' lv (iv z :: st)) : jJ X G B0 κ n kc ks Q nL φ pc lv (b0 :: rf B0 i :: st) := by
  subst hn
  exact j_callV (As := [b0]) F hL hM hκ hc hdd hcat hd kk
theorem j_cS1i (F : jF X G cc nL own d kc ks) {b0 : Value} {n' : Nat} (hL : jLS own index y bytes maxL ret 1) (hM : jC X.l G B0 κ n y bytes maxL ret d' [b0] φ mkI post) (hdd : d' + 1 ≤ d) (hcat : (st.map fun v => v.category).sum ≤ 8) (hd : decode cc pc = .ok (.invokestatic index, 3)) (hn : pc + 3 = n') (kk : ∀ (z : Int) (φ' : jPhi), post z φ' → jJ X G B0 κ n kc ks Q nL φ' n' lv (iv z :: st)) : jJ X G B0 κ n kc ks Q nL φ pc lv (b0 :: st) := by
  subst hn
  exact j_callS (As := [b0]) F hL hM hdd hcat hd kk
theorem j_cN1i (F : jF X G cc nL own d kc ks) {b0 : Value} {n' : Nat} (hL : jLN own index y bytes maxL ret 1) (hM : jC X.l G B0 κ n y bytes maxL ret d' [b0] φ mkI post) (hdd : d' + 1 ≤ d) (hcat : (st.map fun v => v.category).sum ≤ 8) (hd : decode cc pc = .ok (.invokestatic index, 3)) (hn : pc + 3 = n') (kk : ∀ (z : Int) (φ' : jPhi), post z φ' → jJ X G B0 κ n kc ks Q nL φ' n' lv (iv z :: st)) : jJ X G B0 κ n kc ks Q nL φ pc lv (b0 :: st) := by
  subst hn
  exact j_callN (As := [b0]) F hL hM hdd hcat hd kk
theorem j_cV1v (F : jF X G cc nL own d kc ks) {b0 : Value} {i : Int} {n' : Nat} (hL : jLV own index C y bytes maxL ret 1) (hM : jC X.l G B0 κ n y bytes maxL ret d' [rf B0 i, b0] φ mkV post) {ci N : Nat} {T : u_T} {cs : List jSl} (hκ : κ i = some (.inl (ci, cs))) (hc : jclasses[ci]? = some (C, T, N)) (hdd : d' + 1 ≤ d) (hcat : (st.map fun v => v.category).sum ≤ 8) (hd : decode cc pc = .ok (.invokevirtual index, 3)) (hn : pc + 3 = n') (kk : ∀ (z : Int) (φ' : jPhi), post z φ' → jJ X G B0 κ n kc ks Q nL φ' n' lv (st)) : jJ X G B0 κ n kc ks Q nL φ pc lv (b0 :: rf B0 i :: st) := by
  subst hn
  exact j_callV (As := [b0]) F hL hM hκ hc hdd hcat hd kk
theorem j_cS1v (F : jF X G cc nL own d kc ks) {b0 : Value} {n' : Nat} (hL : jLS own index y bytes maxL ret 1) (hM : jC X.l G B0 κ n y bytes maxL ret d' [b0] φ mkV post) (hdd : d' + 1 ≤ d) (hcat : (st.map fun v => v.category).sum ≤ 8) (hd : decode cc pc = .ok (.invokestatic index, 3)) (hn : pc + 3 = n') (kk : ∀ (z : Int) (φ' : jPhi), post z φ' → jJ X G B0 κ n kc ks Q nL φ' n' lv (st)) : jJ X G B0 κ n kc ks Q nL φ pc lv (b0 :: st) := by
  subst hn
  exact j_callS (As := [b0]) F hL hM hdd hcat hd kk
theorem j_cV1l (F : jF X G cc nL own d kc ks) {b0 : Value} {i : Int} {n' : Nat} (hL : jLV own index C y bytes maxL ret 1) (hM : jC X.l G B0 κ n y bytes maxL ret d' [rf B0 i, b0] φ mkL post) {ci N : Nat} {T : u_T} {cs : List jSl} (hκ : κ i = some (.inl (ci, cs))) (hc : jclasses[ci]? = some (C, T, N)) (hdd : d' + 1 ≤ d) (hcat : (st.map fun v => v.category).sum ≤ 8) (hd : decode cc pc = .ok (.invokevirtual index, 3)) (hn : pc + 3 = n') (kk : ∀ (z : Int) (φ' : jPhi), post z φ' → jJ X G B0 κ n kc ks Q nL φ' n' lv (lvv z :: st)) : jJ X G B0 κ n kc ks Q nL φ pc lv (b0 :: rf B0 i :: st) := by
  subst hn
  exact j_callV (As := [b0]) F hL hM hκ hc hdd hcat hd kk
theorem j_cS1l (F : jF X G cc nL own d kc ks) {b0 : Value} {n' : Nat} (hL : jLS own index y bytes maxL ret 1) (hM : jC X.l G B0 κ n y bytes maxL ret d' [b0] φ mkL post) (hdd : d' + 1 ≤ d) (hcat : (st.map fun v => v.category).sum ≤ 8) (hd : decode cc pc = .ok (.invokestatic index, 3)) (hn : pc + 3 = n') (kk : ∀ (z : Int) (φ' : jPhi), post z φ' → jJ X G B0 κ n kc ks Q nL φ' n' lv (lvv z :: st)) : jJ X G B0 κ n kc ks Q nL φ pc lv (b0 :: st) := by
  subst hn
  exact j_callS (As := [b0]) F hL hM hdd hcat hd kk
theorem j_cV1r (F : jF X G cc nL own d kc ks) {b0 : Value} {i : Int} {n' : Nat} (hL : jLV own index C y bytes maxL ret 1) (hM : jC X.l G B0 κ n y bytes maxL ret d' [rf B0 i, b0] φ (mkR B0) post) {ci N : Nat} {T : u_T} {cs : List jSl} (hκ : κ i = some (.inl (ci, cs))) (hc : jclasses[ci]? = some (C, T, N)) (hdd : d' + 1 ≤ d) (hcat : (st.map fun v => v.category).sum ≤ 8) (hd : decode cc pc = .ok (.invokevirtual index, 3)) (hn : pc + 3 = n') (kk : ∀ (z : Int) (φ' : jPhi), post z φ' → jJ X G B0 κ n kc ks Q nL φ' n' lv (rf B0 z :: st)) : jJ X G B0 κ n kc ks Q nL φ pc lv (b0 :: rf B0 i :: st) := by
  subst hn
  exact j_callV (As := [b0]) F hL hM hκ hc hdd hcat hd kk
theorem j_cS1r (F : jF X G cc nL own d kc ks) {b0 : Value} {n' : Nat} (hL : jLS own index y bytes maxL ret 1) (hM : jC X.l G B0 κ n y bytes maxL ret d' [b0] φ (mkR B0) post) (hdd : d' + 1 ≤ d) (hcat : (st.map fun v => v.category).sum ≤ 8) (hd : decode cc pc = .ok (.invokestatic index, 3)) (hn : pc + 3 = n') (kk : ∀ (z : Int) (φ' : jPhi), post z φ' → jJ X G B0 κ n kc ks Q nL φ' n' lv (rf B0 z :: st)) : jJ X G B0 κ n kc ks Q nL φ pc lv (b0 :: st) := by
  subst hn
  exact j_callS (As := [b0]) F hL hM hdd hcat hd kk
theorem j_cV2i (F : jF X G cc nL own d kc ks) {b0 b1 : Value} {i : Int} {n' : Nat} (hL : jLV own index C y bytes maxL ret 2) (hM : jC X.l G B0 κ n y bytes maxL ret d' [rf B0 i, b0, b1] φ mkI post) {ci N : Nat} {T : u_T} {cs : List jSl} (hκ : κ i = some (.inl (ci, cs))) (hc : jclasses[ci]? = some (C, T, N)) (hdd : d' + 1 ≤ d) (hcat : (st.map fun v => v.category).sum ≤ 8) (hd : decode cc pc = .ok (.invokevirtual index, 3)) (hn : pc + 3 = n') (kk : ∀ (z : Int) (φ' : jPhi), post z φ' → jJ X G B0 κ n kc ks Q nL φ' n' lv (iv z :: st)) : jJ X G B0 κ n kc ks Q nL φ pc lv (b1 :: b0 :: rf B0 i :: st) := by
  subst hn
  exact j_callV (As := [b0, b1]) F hL hM hκ hc hdd hcat hd kk
theorem j_cS2i (F : jF X G cc nL own d kc ks) {b0 b1 : Value} {n' : Nat} (hL : jLS own index y bytes maxL ret 2) (hM : jC X.l G B0 κ n y bytes maxL ret d' [b0, b1] φ mkI post) (hdd : d' + 1 ≤ d) (hcat : (st.map fun v => v.category).sum ≤ 8) (hd : decode cc pc = .ok (.invokestatic index, 3)) (hn : pc + 3 = n') (kk : ∀ (z : Int) (φ' : jPhi), post z φ' → jJ X G B0 κ n kc ks Q nL φ' n' lv (iv z :: st)) : jJ X G B0 κ n kc ks Q nL φ pc lv (b1 :: b0 :: st) := by
  subst hn
  exact j_callS (As := [b0, b1]) F hL hM hdd hcat hd kk
theorem j_cV2v (F : jF X G cc nL own d kc ks) {b0 b1 : Value} {i : Int} {n' : Nat} (hL : jLV own index C y bytes maxL ret 2) (hM : jC X.l G B0 κ n y bytes maxL ret d' [rf B0 i, b0, b1] φ mkV post) {ci N : Nat} {T : u_T} {cs : List jSl} (hκ : κ i = some (.inl (ci, cs))) (hc : jclasses[ci]? = some (C, T, N)) (hdd : d' + 1 ≤ d) (hcat : (st.map fun v => v.category).sum ≤ 8) (hd : decode cc pc = .ok (.invokevirtual index, 3)) (hn : pc + 3 = n') (kk : ∀ (z : Int) (φ' : jPhi), post z φ' → jJ X G B0 κ n kc ks Q nL φ' n' lv (st)) : jJ X G B0 κ n kc ks Q nL φ pc lv (b1 :: b0 :: rf B0 i :: st) := by
  subst hn
  exact j_callV (As := [b0, b1]) F hL hM hκ hc hdd hcat hd kk
theorem j_cS2v (F : jF X G cc nL own d kc ks) {b0 b1 : Value} {n' : Nat} (hL : jLS own index y bytes maxL ret 2) (hM : jC X.l G B0 κ n y bytes maxL ret d' [b0, b1] φ mkV post) (hdd : d' + 1 ≤ d) (hcat : (st.map fun v => v.category).sum ≤ 8) (hd : decode cc pc = .ok (.invokestatic index, 3)) (hn : pc + 3 = n') (kk : ∀ (z : Int) (φ' : jPhi), post z φ' → jJ X G B0 κ n kc ks Q nL φ' n' lv (st)) : jJ X G B0 κ n kc ks Q nL φ pc lv (b1 :: b0 :: st) := by
  subst hn
  exact j_callS (As := [b0, b1]) F hL hM hdd hcat hd kk
theorem j_cV2l (F : jF X G cc nL own d kc ks) {b0 b1 : Value} {i : Int} {n' : Nat} (hL : jLV own index C y bytes maxL ret 2) (hM : jC X.l G B0 κ n y bytes maxL ret d' [rf B0 i, b0, b1] φ mkL post) {ci N : Nat} {T : u_T} {cs : List jSl} (hκ : κ i = some (.inl (ci, cs))) (hc : jclasses[ci]? = some (C, T, N)) (hdd : d' + 1 ≤ d) (hcat : (st.map fun v => v.category).sum ≤ 8) (hd : decode cc pc = .ok (.invokevirtual index, 3)) (hn : pc + 3 = n') (kk : ∀ (z : Int) (φ' : jPhi), post z φ' → jJ X G B0 κ n kc ks Q nL φ' n' lv (lvv z :: st)) : jJ X G B0 κ n kc ks Q nL φ pc lv (b1 :: b0 :: rf B0 i :: st) := by
  subst hn
  exact j_callV (As := [b0, b1]) F hL hM hκ hc hdd hcat hd kk
theorem j_cS2l (F : jF X G cc nL own d kc ks) {b0 b1 : Value} {n' : Nat} (hL : jLS own index y bytes maxL ret 2) (hM : jC X.l G B0 κ n y bytes maxL ret d' [b0, b1] φ mkL post) (hdd : d' + 1 ≤ d) (hcat : (st.map fun v => v.category).sum ≤ 8) (hd : decode cc pc = .ok (.invokestatic index, 3)) (hn : pc + 3 = n') (kk : ∀ (z : Int) (φ' : jPhi), post z φ' → jJ X G B0 κ n kc ks Q nL φ' n' lv (lvv z :: st)) : jJ X G B0 κ n kc ks Q nL φ pc lv (b1 :: b0 :: st) := by
  subst hn
  exact j_callS (As := [b0, b1]) F hL hM hdd hcat hd kk
theorem j_cV2r (F : jF X G cc nL own d kc ks) {b0 b1 : Value} {i : Int} {n' : Nat} (hL : jLV own index C y bytes maxL ret 2) (hM : jC X.l G B0 κ n y bytes maxL ret d' [rf B0 i, b0, b1] φ (mkR B0) post) {ci N : Nat} {T : u_T} {cs : List jSl} (hκ : κ i = some (.inl (ci, cs))) (hc : jclasses[ci]? = some (C, T, N)) (hdd : d' + 1 ≤ d) (hcat : (st.map fun v => v.category).sum ≤ 8) (hd : decode cc pc = .ok (.invokevirtual index, 3)) (hn : pc + 3 = n') (kk : ∀ (z : Int) (φ' : jPhi), post z φ' → jJ X G B0 κ n kc ks Q nL φ' n' lv (rf B0 z :: st)) : jJ X G B0 κ n kc ks Q nL φ pc lv (b1 :: b0 :: rf B0 i :: st) := by
  subst hn
  exact j_callV (As := [b0, b1]) F hL hM hκ hc hdd hcat hd kk
theorem j_cS2r (F : jF X G cc nL own d kc ks) {b0 b1 : Value} {n' : Nat} (hL : jLS own index y bytes maxL ret 2) (hM : jC X.l G B0 κ n y bytes maxL ret d' [b0, b1] φ (mkR B0) post) (hdd : d' + 1 ≤ d) (hcat : (st.map fun v => v.category).sum ≤ 8) (hd : decode cc pc = .ok (.invokestatic index, 3)) (hn : pc + 3 = n') (kk : ∀ (z : Int) (φ' : jPhi), post z φ' → jJ X G B0 κ n kc ks Q nL φ' n' lv (rf B0 z :: st)) : jJ X G B0 κ n kc ks Q nL φ pc lv (b1 :: b0 :: st) := by
  subst hn
  exact j_callS (As := [b0, b1]) F hL hM hdd hcat hd kk
theorem j_cV3i (F : jF X G cc nL own d kc ks) {b0 b1 b2 : Value} {i : Int} {n' : Nat} (hL : jLV own index C y bytes maxL ret 3) (hM : jC X.l G B0 κ n y bytes maxL ret d' [rf B0 i, b0, b1, b2] φ mkI post) {ci N : Nat} {T : u_T} {cs : List jSl} (hκ : κ i = some (.inl (ci, cs))) (hc : jclasses[ci]? = some (C, T, N)) (hdd : d' + 1 ≤ d) (hcat : (st.map fun v => v.category).sum ≤ 8) (hd : decode cc pc = .ok (.invokevirtual index, 3)) (hn : pc + 3 = n') (kk : ∀ (z : Int) (φ' : jPhi), post z φ' → jJ X G B0 κ n kc ks Q nL φ' n' lv (iv z :: st)) : jJ X G B0 κ n kc ks Q nL φ pc lv (b2 :: b1 :: b0 :: rf B0 i :: st) := by
  subst hn
  exact j_callV (As := [b0, b1, b2]) F hL hM hκ hc hdd hcat hd kk
theorem j_cS3i (F : jF X G cc nL own d kc ks) {b0 b1 b2 : Value} {n' : Nat} (hL : jLS own index y bytes maxL ret 3) (hM : jC X.l G B0 κ n y bytes maxL ret d' [b0, b1, b2] φ mkI post) (hdd : d' + 1 ≤ d) (hcat : (st.map fun v => v.category).sum ≤ 8) (hd : decode cc pc = .ok (.invokestatic index, 3)) (hn : pc + 3 = n') (kk : ∀ (z : Int) (φ' : jPhi), post z φ' → jJ X G B0 κ n kc ks Q nL φ' n' lv (iv z :: st)) : jJ X G B0 κ n kc ks Q nL φ pc lv (b2 :: b1 :: b0 :: st) := by
  subst hn
  exact j_callS (As := [b0, b1, b2]) F hL hM hdd hcat hd kk
theorem j_cV3v (F : jF X G cc nL own d kc ks) {b0 b1 b2 : Value} {i : Int} {n' : Nat} (hL : jLV own index C y bytes maxL ret 3) (hM : jC X.l G B0 κ n y bytes maxL ret d' [rf B0 i, b0, b1, b2] φ mkV post) {ci N : Nat} {T : u_T} {cs : List jSl} (hκ : κ i = some (.inl (ci, cs))) (hc : jclasses[ci]? = some (C, T, N)) (hdd : d' + 1 ≤ d) (hcat : (st.map fun v => v.category).sum ≤ 8) (hd : decode cc pc = .ok (.invokevirtual index, 3)) (hn : pc + 3 = n') (kk : ∀ (z : Int) (φ' : jPhi), post z φ' → jJ X G B0 κ n kc ks Q nL φ' n' lv (st)) : jJ X G B0 κ n kc ks Q nL φ pc lv (b2 :: b1 :: b0 :: rf B0 i :: st) := by
  subst hn
  exact j_callV (As := [b0, b1, b2]) F hL hM hκ hc hdd hcat hd kk
theorem j_cS3v (F : jF X G cc nL own d kc ks) {b0 b1 b2 : Value} {n' : Nat} (hL : jLS own index y bytes maxL ret 3) (hM : jC X.l G B0 κ n y bytes maxL ret d' [b0, b1, b2] φ mkV post) (hdd : d' + 1 ≤ d) (hcat : (st.map fun v => v.category).sum ≤ 8) (hd : decode cc pc = .ok (.invokestatic index, 3)) (hn : pc + 3 = n') (kk : ∀ (z : Int) (φ' : jPhi), post z φ' → jJ X G B0 κ n kc ks Q nL φ' n' lv (st)) : jJ X G B0 κ n kc ks Q nL φ pc lv (b2 :: b1 :: b0 :: st) := by
  subst hn
  exact j_callS (As := [b0, b1, b2]) F hL hM hdd hcat hd kk
theorem j_cV3l (F : jF X G cc nL own d kc ks) {b0 b1 b2 : Value} {i : Int} {n' : Nat} (hL : jLV own index C y bytes maxL ret 3) (hM : jC X.l G B0 κ n y bytes maxL ret d' [rf B0 i, b0, b1, b2] φ mkL post) {ci N : Nat} {T : u_T} {cs : List jSl} (hκ : κ i = some (.inl (ci, cs))) (hc : jclasses[ci]? = some (C, T, N)) (hdd : d' + 1 ≤ d) (hcat : (st.map fun v => v.category).sum ≤ 8) (hd : decode cc pc = .ok (.invokevirtual index, 3)) (hn : pc + 3 = n') (kk : ∀ (z : Int) (φ' : jPhi), post z φ' → jJ X G B0 κ n kc ks Q nL φ' n' lv (lvv z :: st)) : jJ X G B0 κ n kc ks Q nL φ pc lv (b2 :: b1 :: b0 :: rf B0 i :: st) := by
  subst hn
  exact j_callV (As := [b0, b1, b2]) F hL hM hκ hc hdd hcat hd kk
theorem j_cS3l (F : jF X G cc nL own d kc ks) {b0 b1 b2 : Value} {n' : Nat} (hL : jLS own index y bytes maxL ret 3) (hM : jC X.l G B0 κ n y bytes maxL ret d' [b0, b1, b2] φ mkL post) (hdd : d' + 1 ≤ d) (hcat : (st.map fun v => v.category).sum ≤ 8) (hd : decode cc pc = .ok (.invokestatic index, 3)) (hn : pc + 3 = n') (kk : ∀ (z : Int) (φ' : jPhi), post z φ' → jJ X G B0 κ n kc ks Q nL φ' n' lv (lvv z :: st)) : jJ X G B0 κ n kc ks Q nL φ pc lv (b2 :: b1 :: b0 :: st) := by
  subst hn
  exact j_callS (As := [b0, b1, b2]) F hL hM hdd hcat hd kk
theorem j_cV3r (F : jF X G cc nL own d kc ks) {b0 b1 b2 : Value} {i : Int} {n' : Nat} (hL : jLV own index C y bytes maxL ret 3) (hM : jC X.l G B0 κ n y bytes maxL ret d' [rf B0 i, b0, b1, b2] φ (mkR B0) post) {ci N : Nat} {T : u_T} {cs : List jSl} (hκ : κ i = some (.inl (ci, cs))) (hc : jclasses[ci]? = some (C, T, N)) (hdd : d' + 1 ≤ d) (hcat : (st.map fun v => v.category).sum ≤ 8) (hd : decode cc pc = .ok (.invokevirtual index, 3)) (hn : pc + 3 = n') (kk : ∀ (z : Int) (φ' : jPhi), post z φ' → jJ X G B0 κ n kc ks Q nL φ' n' lv (rf B0 z :: st)) : jJ X G B0 κ n kc ks Q nL φ pc lv (b2 :: b1 :: b0 :: rf B0 i :: st) := by
  subst hn
  exact j_callV (As := [b0, b1, b2]) F hL hM hκ hc hdd hcat hd kk
theorem j_cS3r (F : jF X G cc nL own d kc ks) {b0 b1 b2 : Value} {n' : Nat} (hL : jLS own index y bytes maxL ret 3) (hM : jC X.l G B0 κ n y bytes maxL ret d' [b0, b1, b2] φ (mkR B0) post) (hdd : d' + 1 ≤ d) (hcat : (st.map fun v => v.category).sum ≤ 8) (hd : decode cc pc = .ok (.invokestatic index, 3)) (hn : pc + 3 = n') (kk : ∀ (z : Int) (φ' : jPhi), post z φ' → jJ X G B0 κ n kc ks Q nL φ' n' lv (rf B0 z :: st)) : jJ X G B0 κ n kc ks Q nL φ pc lv (b2 :: b1 :: b0 :: st) := by
  subst hn
  exact j_callS (As := [b0, b1, b2]) F hL hM hdd hcat hd kk
theorem j_cV4i (F : jF X G cc nL own d kc ks) {b0 b1 b2 b3 : Value} {i : Int} {n' : Nat} (hL : jLV own index C y bytes maxL ret 4) (hM : jC X.l G B0 κ n y bytes maxL ret d' [rf B0 i, b0, b1, b2, b3] φ mkI post) {ci N : Nat} {T : u_T} {cs : List jSl} (hκ : κ i = some (.inl (ci, cs))) (hc : jclasses[ci]? = some (C, T, N)) (hdd : d' + 1 ≤ d) (hcat : (st.map fun v => v.category).sum ≤ 8) (hd : decode cc pc = .ok (.invokevirtual index, 3)) (hn : pc + 3 = n') (kk : ∀ (z : Int) (φ' : jPhi), post z φ' → jJ X G B0 κ n kc ks Q nL φ' n' lv (iv z :: st)) : jJ X G B0 κ n kc ks Q nL φ pc lv (b3 :: b2 :: b1 :: b0 :: rf B0 i :: st) := by
  subst hn
  exact j_callV (As := [b0, b1, b2, b3]) F hL hM hκ hc hdd hcat hd kk
theorem j_cV4v (F : jF X G cc nL own d kc ks) {b0 b1 b2 b3 : Value} {i : Int} {n' : Nat} (hL : jLV own index C y bytes maxL ret 4) (hM : jC X.l G B0 κ n y bytes maxL ret d' [rf B0 i, b0, b1, b2, b3] φ mkV post) {ci N : Nat} {T : u_T} {cs : List jSl} (hκ : κ i = some (.inl (ci, cs))) (hc : jclasses[ci]? = some (C, T, N)) (hdd : d' + 1 ≤ d) (hcat : (st.map fun v => v.category).sum ≤ 8) (hd : decode cc pc = .ok (.invokevirtual index, 3)) (hn : pc + 3 = n') (kk : ∀ (z : Int) (φ' : jPhi), post z φ' → jJ X G B0 κ n kc ks Q nL φ' n' lv (st)) : jJ X G B0 κ n kc ks Q nL φ pc lv (b3 :: b2 :: b1 :: b0 :: rf B0 i :: st) := by
  subst hn
  exact j_callV (As := [b0, b1, b2, b3]) F hL hM hκ hc hdd hcat hd kk
theorem j_cV4l (F : jF X G cc nL own d kc ks) {b0 b1 b2 b3 : Value} {i : Int} {n' : Nat} (hL : jLV own index C y bytes maxL ret 4) (hM : jC X.l G B0 κ n y bytes maxL ret d' [rf B0 i, b0, b1, b2, b3] φ mkL post) {ci N : Nat} {T : u_T} {cs : List jSl} (hκ : κ i = some (.inl (ci, cs))) (hc : jclasses[ci]? = some (C, T, N)) (hdd : d' + 1 ≤ d) (hcat : (st.map fun v => v.category).sum ≤ 8) (hd : decode cc pc = .ok (.invokevirtual index, 3)) (hn : pc + 3 = n') (kk : ∀ (z : Int) (φ' : jPhi), post z φ' → jJ X G B0 κ n kc ks Q nL φ' n' lv (lvv z :: st)) : jJ X G B0 κ n kc ks Q nL φ pc lv (b3 :: b2 :: b1 :: b0 :: rf B0 i :: st) := by
  subst hn
  exact j_callV (As := [b0, b1, b2, b3]) F hL hM hκ hc hdd hcat hd kk
theorem j_cV4r (F : jF X G cc nL own d kc ks) {b0 b1 b2 b3 : Value} {i : Int} {n' : Nat} (hL : jLV own index C y bytes maxL ret 4) (hM : jC X.l G B0 κ n y bytes maxL ret d' [rf B0 i, b0, b1, b2, b3] φ (mkR B0) post) {ci N : Nat} {T : u_T} {cs : List jSl} (hκ : κ i = some (.inl (ci, cs))) (hc : jclasses[ci]? = some (C, T, N)) (hdd : d' + 1 ≤ d) (hcat : (st.map fun v => v.category).sum ≤ 8) (hd : decode cc pc = .ok (.invokevirtual index, 3)) (hn : pc + 3 = n') (kk : ∀ (z : Int) (φ' : jPhi), post z φ' → jJ X G B0 κ n kc ks Q nL φ' n' lv (rf B0 z :: st)) : jJ X G B0 κ n kc ks Q nL φ pc lv (b3 :: b2 :: b1 :: b0 :: rf B0 i :: st) := by
  subst hn
  exact j_callV (As := [b0, b1, b2, b3]) F hL hM hκ hc hdd hcat hd kk
theorem j_cV5i (F : jF X G cc nL own d kc ks) {b0 b1 b2 b3 b4 : Value} {i : Int} {n' : Nat} (hL : jLV own index C y bytes maxL ret 5) (hM : jC X.l G B0 κ n y bytes maxL ret d' [rf B0 i, b0, b1, b2, b3, b4] φ mkI post) {ci N : Nat} {T : u_T} {cs : List jSl} (hκ : κ i = some (.inl (ci, cs))) (hc : jclasses[ci]? = some (C, T, N)) (hdd : d' + 1 ≤ d) (hcat : (st.map fun v => v.category).sum ≤ 8) (hd : decode cc pc = .ok (.invokevirtual index, 3)) (hn : pc + 3 = n') (kk : ∀ (z : Int) (φ' : jPhi), post z φ' → jJ X G B0 κ n kc ks Q nL φ' n' lv (iv z :: st)) : jJ X G B0 κ n kc ks Q nL φ pc lv (b4 :: b3 :: b2 :: b1 :: b0 :: rf B0 i :: st) := by
  subst hn
  exact j_callV (As := [b0, b1, b2, b3, b4]) F hL hM hκ hc hdd hcat hd kk
theorem j_cV5v (F : jF X G cc nL own d kc ks) {b0 b1 b2 b3 b4 : Value} {i : Int} {n' : Nat} (hL : jLV own index C y bytes maxL ret 5) (hM : jC X.l G B0 κ n y bytes maxL ret d' [rf B0 i, b0, b1, b2, b3, b4] φ mkV post) {ci N : Nat} {T : u_T} {cs : List jSl} (hκ : κ i = some (.inl (ci, cs))) (hc : jclasses[ci]? = some (C, T, N)) (hdd : d' + 1 ≤ d) (hcat : (st.map fun v => v.category).sum ≤ 8) (hd : decode cc pc = .ok (.invokevirtual index, 3)) (hn : pc + 3 = n') (kk : ∀ (z : Int) (φ' : jPhi), post z φ' → jJ X G B0 κ n kc ks Q nL φ' n' lv (st)) : jJ X G B0 κ n kc ks Q nL φ pc lv (b4 :: b3 :: b2 :: b1 :: b0 :: rf B0 i :: st) := by
  subst hn
  exact j_callV (As := [b0, b1, b2, b3, b4]) F hL hM hκ hc hdd hcat hd kk
theorem j_cV5l (F : jF X G cc nL own d kc ks) {b0 b1 b2 b3 b4 : Value} {i : Int} {n' : Nat} (hL : jLV own index C y bytes maxL ret 5) (hM : jC X.l G B0 κ n y bytes maxL ret d' [rf B0 i, b0, b1, b2, b3, b4] φ mkL post) {ci N : Nat} {T : u_T} {cs : List jSl} (hκ : κ i = some (.inl (ci, cs))) (hc : jclasses[ci]? = some (C, T, N)) (hdd : d' + 1 ≤ d) (hcat : (st.map fun v => v.category).sum ≤ 8) (hd : decode cc pc = .ok (.invokevirtual index, 3)) (hn : pc + 3 = n') (kk : ∀ (z : Int) (φ' : jPhi), post z φ' → jJ X G B0 κ n kc ks Q nL φ' n' lv (lvv z :: st)) : jJ X G B0 κ n kc ks Q nL φ pc lv (b4 :: b3 :: b2 :: b1 :: b0 :: rf B0 i :: st) := by
  subst hn
  exact j_callV (As := [b0, b1, b2, b3, b4]) F hL hM hκ hc hdd hcat hd kk
theorem j_cV5r (F : jF X G cc nL own d kc ks) {b0 b1 b2 b3 b4 : Value} {i : Int} {n' : Nat} (hL : jLV own index C y bytes maxL ret 5) (hM : jC X.l G B0 κ n y bytes maxL ret d' [rf B0 i, b0, b1, b2, b3, b4] φ (mkR B0) post) {ci N : Nat} {T : u_T} {cs : List jSl} (hκ : κ i = some (.inl (ci, cs))) (hc : jclasses[ci]? = some (C, T, N)) (hdd : d' + 1 ≤ d) (hcat : (st.map fun v => v.category).sum ≤ 8) (hd : decode cc pc = .ok (.invokevirtual index, 3)) (hn : pc + 3 = n') (kk : ∀ (z : Int) (φ' : jPhi), post z φ' → jJ X G B0 κ n kc ks Q nL φ' n' lv (rf B0 z :: st)) : jJ X G B0 κ n kc ks Q nL φ pc lv (b4 :: b3 :: b2 :: b1 :: b0 :: rf B0 i :: st) := by
  subst hn
  exact j_callV (As := [b0, b1, b2, b3, b4]) F hL hM hκ hc hdd hcat hd kk
end JCALLS
end
