section
-- ===== PART A: goes FIRST, ahead of the names: the tables' words, and 'selects' of the private methods out of them =====
/-- a private method of a class that the tables say can be made, by its rows of tables_1 -/
def lw_okq (q : MethodName × Nat) : Prop := (q.1.cls ≠ "java/lang/invoke/MethodHandle" ∧ q.1.cls ≠ "java/lang/invoke/VarHandle") ∧ Cond.instantiable q.1.cls q.2 ∈ tables_1 ∧ Cond.privateMethod q.1 ∈ tables_1 ∧ Cond.instanceMethod q.1 ∈ tables_1
theorem lw_p0 : lw_okq (⟨"PricedCopies$CodeReader", "takes", "(I)Z"⟩, 8) := ⟨⟨by decide +kernel, by decide +kernel⟩, List.mem_of_getElem? (i := 34) (by decide +kernel), List.mem_of_getElem? (i := 245) (by decide +kernel), List.mem_of_getElem? (i := 246) (by decide +kernel)⟩
theorem lw_p1 : lw_okq (⟨"PricedCopies$CodeReader", "takesFigure", "(I)Z"⟩, 8) := ⟨⟨by decide +kernel, by decide +kernel⟩, List.mem_of_getElem? (i := 34) (by decide +kernel), List.mem_of_getElem? (i := 249) (by decide +kernel), List.mem_of_getElem? (i := 250) (by decide +kernel)⟩
theorem lw_p2 : lw_okq (⟨"PricedCopies$CodeReader", "make", "(I)V"⟩, 8) := ⟨⟨by decide +kernel, by decide +kernel⟩, List.mem_of_getElem? (i := 34) (by decide +kernel), List.mem_of_getElem? (i := 273) (by decide +kernel), List.mem_of_getElem? (i := 274) (by decide +kernel)⟩
theorem lw_p3 : lw_okq (⟨"PricedCopies$CodeReader", "takesLetter", "(I)Z"⟩, 8) := ⟨⟨by decide +kernel, by decide +kernel⟩, List.mem_of_getElem? (i := 34) (by decide +kernel), List.mem_of_getElem? (i := 277) (by decide +kernel), List.mem_of_getElem? (i := 278) (by decide +kernel)⟩
theorem lw_p4 : lw_okq (⟨"PricedCopies$CodeReader", "opens", "(I)Z"⟩, 8) := ⟨⟨by decide +kernel, by decide +kernel⟩, List.mem_of_getElem? (i := 34) (by decide +kernel), List.mem_of_getElem? (i := 281) (by decide +kernel), List.mem_of_getElem? (i := 282) (by decide +kernel)⟩
theorem lw_p5 : lw_okq (⟨"PricedCopies", "takeText", "()V"⟩, 17) := ⟨⟨by decide +kernel, by decide +kernel⟩, List.mem_of_getElem? (i := 12) (by decide +kernel), List.mem_of_getElem? (i := 307) (by decide +kernel), List.mem_of_getElem? (i := 308) (by decide +kernel)⟩
theorem lw_p6 : lw_okq (⟨"PricedCopies", "forget", "()V"⟩, 17) := ⟨⟨by decide +kernel, by decide +kernel⟩, List.mem_of_getElem? (i := 12) (by decide +kernel), List.mem_of_getElem? (i := 322) (by decide +kernel), List.mem_of_getElem? (i := 323) (by decide +kernel)⟩
theorem lw_p7 : lw_okq (⟨"PricedCopies", "hasText", "()Z"⟩, 17) := ⟨⟨by decide +kernel, by decide +kernel⟩, List.mem_of_getElem? (i := 12) (by decide +kernel), List.mem_of_getElem? (i := 404) (by decide +kernel), List.mem_of_getElem? (i := 405) (by decide +kernel)⟩
theorem lw_p8 : lw_okq (⟨"PricedCopies", "chooseCheapest", "()V"⟩, 17) := ⟨⟨by decide +kernel, by decide +kernel⟩, List.mem_of_getElem? (i := 12) (by decide +kernel), List.mem_of_getElem? (i := 408) (by decide +kernel), List.mem_of_getElem? (i := 409) (by decide +kernel)⟩
theorem lw_p9 : lw_okq (⟨"PricedCopies$Chooser", "chooseCopy", "(LPricedCopies$Text;LPricedCopies$Prices;III)V"⟩, 4) := ⟨⟨by decide +kernel, by decide +kernel⟩, List.mem_of_getElem? (i := 124) (by decide +kernel), List.mem_of_getElem? (i := 418) (by decide +kernel), List.mem_of_getElem? (i := 419) (by decide +kernel)⟩
theorem lw_p10 : lw_okq (⟨"PricedCopies$Chooser", "consider", "(III)V"⟩, 4) := ⟨⟨by decide +kernel, by decide +kernel⟩, List.mem_of_getElem? (i := 124) (by decide +kernel), List.mem_of_getElem? (i := 426) (by decide +kernel), List.mem_of_getElem? (i := 427) (by decide +kernel)⟩
theorem lw_p11 : lw_okq (⟨"PricedCopies$Chooser", "chooseFirsts", "(LPricedCopies$Text;LPricedCopies$Prices;III)V"⟩, 4) := ⟨⟨by decide +kernel, by decide +kernel⟩, List.mem_of_getElem? (i := 124) (by decide +kernel), List.mem_of_getElem? (i := 430) (by decide +kernel), List.mem_of_getElem? (i := 431) (by decide +kernel)⟩
theorem lw_p12 : lw_okq (⟨"PricedCopies$Chooser", "collect", "(IILPricedCopies$TokenRow;)V"⟩, 4) := ⟨⟨by decide +kernel, by decide +kernel⟩, List.mem_of_getElem? (i := 124) (by decide +kernel), List.mem_of_getElem? (i := 443) (by decide +kernel), List.mem_of_getElem? (i := 444) (by decide +kernel)⟩
theorem lw_p13 : lw_okq (⟨"PricedCopies$Prices", "countTaken", "(LPricedCopies$TokenRow;)V"⟩, 2) := ⟨⟨by decide +kernel, by decide +kernel⟩, List.mem_of_getElem? (i := 102) (by decide +kernel), List.mem_of_getElem? (i := 458) (by decide +kernel), List.mem_of_getElem? (i := 459) (by decide +kernel)⟩
theorem lw_p14 : lw_okq (⟨"PricedCopies$Prices", "countOne", "(I)V"⟩, 2) := ⟨⟨by decide +kernel, by decide +kernel⟩, List.mem_of_getElem? (i := 102) (by decide +kernel), List.mem_of_getElem? (i := 462) (by decide +kernel), List.mem_of_getElem? (i := 463) (by decide +kernel)⟩
theorem lw_p15 : lw_okq (⟨"PricedCopies$Prices", "reprice", "(III)I"⟩, 2) := ⟨⟨by decide +kernel, by decide +kernel⟩, List.mem_of_getElem? (i := 102) (by decide +kernel), List.mem_of_getElem? (i := 470) (by decide +kernel), List.mem_of_getElem? (i := 471) (by decide +kernel)⟩
def lw_privs_1 : List (MethodName × Nat) := [(⟨"PricedCopies$CodeReader", "takes", "(I)Z"⟩, 8), (⟨"PricedCopies$CodeReader", "takesFigure", "(I)Z"⟩, 8), (⟨"PricedCopies$CodeReader", "make", "(I)V"⟩, 8), (⟨"PricedCopies$CodeReader", "takesLetter", "(I)Z"⟩, 8), (⟨"PricedCopies$CodeReader", "opens", "(I)Z"⟩, 8), (⟨"PricedCopies", "takeText", "()V"⟩, 17), (⟨"PricedCopies", "forget", "()V"⟩, 17), (⟨"PricedCopies", "hasText", "()Z"⟩, 17), (⟨"PricedCopies", "chooseCheapest", "()V"⟩, 17), (⟨"PricedCopies$Chooser", "chooseCopy", "(LPricedCopies$Text;LPricedCopies$Prices;III)V"⟩, 4), (⟨"PricedCopies$Chooser", "consider", "(III)V"⟩, 4), (⟨"PricedCopies$Chooser", "chooseFirsts", "(LPricedCopies$Text;LPricedCopies$Prices;III)V"⟩, 4), (⟨"PricedCopies$Chooser", "collect", "(IILPricedCopies$TokenRow;)V"⟩, 4), (⟨"PricedCopies$Prices", "countTaken", "(LPricedCopies$TokenRow;)V"⟩, 2), (⟨"PricedCopies$Prices", "countOne", "(I)V"⟩, 2), (⟨"PricedCopies$Prices", "reprice", "(III)I"⟩, 2)]
theorem lw_r1 : ∀ q ∈ lw_privs_1, lw_okq q := List.forall_mem_cons.mpr ⟨lw_p0, List.forall_mem_cons.mpr ⟨lw_p1, List.forall_mem_cons.mpr ⟨lw_p2, List.forall_mem_cons.mpr ⟨lw_p3, List.forall_mem_cons.mpr ⟨lw_p4, List.forall_mem_cons.mpr ⟨lw_p5, List.forall_mem_cons.mpr ⟨lw_p6, List.forall_mem_cons.mpr ⟨lw_p7, List.forall_mem_cons.mpr ⟨lw_p8, List.forall_mem_cons.mpr ⟨lw_p9, List.forall_mem_cons.mpr ⟨lw_p10, List.forall_mem_cons.mpr ⟨lw_p11, List.forall_mem_cons.mpr ⟨lw_p12, List.forall_mem_cons.mpr ⟨lw_p13, List.forall_mem_cons.mpr ⟨lw_p14, List.forall_mem_cons.mpr ⟨lw_p15, fun _ h => absurd h List.not_mem_nil⟩⟩⟩⟩⟩⟩⟩⟩⟩⟩⟩⟩⟩⟩⟩⟩
theorem lw_p16 : lw_okq (⟨"PricedCopies", "findRest", "()V"⟩, 17) := ⟨⟨by decide +kernel, by decide +kernel⟩, List.mem_of_getElem? (i := 12) (by decide +kernel), List.mem_of_getElem? (i := 487) (by decide +kernel), List.mem_of_getElem? (i := 488) (by decide +kernel)⟩
theorem lw_p17 : lw_okq (⟨"PricedCopies", "chooseGreedy", "()V"⟩, 17) := ⟨⟨by decide +kernel, by decide +kernel⟩, List.mem_of_getElem? (i := 12) (by decide +kernel), List.mem_of_getElem? (i := 551) (by decide +kernel), List.mem_of_getElem? (i := 552) (by decide +kernel)⟩
theorem lw_p18 : lw_okq (⟨"PricedCopies", "priceOfParts", "(I)I"⟩, 17) := ⟨⟨by decide +kernel, by decide +kernel⟩, List.mem_of_getElem? (i := 12) (by decide +kernel), List.mem_of_getElem? (i := 564) (by decide +kernel), List.mem_of_getElem? (i := 565) (by decide +kernel)⟩
theorem lw_p19 : lw_okq (⟨"PricedCopiesModel", "textFault", "()I"⟩, 24) := ⟨⟨by decide +kernel, by decide +kernel⟩, List.mem_of_getElem? (i := 593) (by decide +kernel), List.mem_of_getElem? (i := 687) (by decide +kernel), List.mem_of_getElem? (i := 688) (by decide +kernel)⟩
theorem lw_p20 : lw_okq (⟨"PricedCopiesModel", "readCode", "()V"⟩, 24) := ⟨⟨by decide +kernel, by decide +kernel⟩, List.mem_of_getElem? (i := 593) (by decide +kernel), List.mem_of_getElem? (i := 691) (by decide +kernel), List.mem_of_getElem? (i := 692) (by decide +kernel)⟩
theorem lw_p21 : lw_okq (⟨"PricedCopiesModel", "copy", "(II)V"⟩, 24) := ⟨⟨by decide +kernel, by decide +kernel⟩, List.mem_of_getElem? (i := 593) (by decide +kernel), List.mem_of_getElem? (i := 695) (by decide +kernel), List.mem_of_getElem? (i := 696) (by decide +kernel)⟩
theorem lw_p22 : lw_okq (⟨"PricedCopiesModel", "againPrice", "(I)I"⟩, 24) := ⟨⟨by decide +kernel, by decide +kernel⟩, List.mem_of_getElem? (i := 593) (by decide +kernel), List.mem_of_getElem? (i := 699) (by decide +kernel), List.mem_of_getElem? (i := 700) (by decide +kernel)⟩
theorem lw_p23 : lw_okq (⟨"PricedCopiesModel", "copyPrice", "(II)I"⟩, 24) := ⟨⟨by decide +kernel, by decide +kernel⟩, List.mem_of_getElem? (i := 593) (by decide +kernel), List.mem_of_getElem? (i := 703) (by decide +kernel), List.mem_of_getElem? (i := 704) (by decide +kernel)⟩
theorem lw_p24 : lw_okq (⟨"PricedCopiesModel", "isPlace", "(I)Z"⟩, 24) := ⟨⟨by decide +kernel, by decide +kernel⟩, List.mem_of_getElem? (i := 593) (by decide +kernel), List.mem_of_getElem? (i := 737) (by decide +kernel), List.mem_of_getElem? (i := 738) (by decide +kernel)⟩
theorem lw_p25 : lw_okq (⟨"PricedCopiesModel", "longestNow", "(II)I"⟩, 24) := ⟨⟨by decide +kernel, by decide +kernel⟩, List.mem_of_getElem? (i := 593) (by decide +kernel), List.mem_of_getElem? (i := 745) (by decide +kernel), List.mem_of_getElem? (i := 746) (by decide +kernel)⟩
theorem lw_p26 : lw_okq (⟨"PricedCopiesModel", "farLongest", "(I)I"⟩, 24) := ⟨⟨by decide +kernel, by decide +kernel⟩, List.mem_of_getElem? (i := 593) (by decide +kernel), List.mem_of_getElem? (i := 749) (by decide +kernel), List.mem_of_getElem? (i := 750) (by decide +kernel)⟩
theorem lw_p27 : lw_okq (⟨"PricedCopiesModel", "likeness", "(III)I"⟩, 24) := ⟨⟨by decide +kernel, by decide +kernel⟩, List.mem_of_getElem? (i := 593) (by decide +kernel), List.mem_of_getElem? (i := 753) (by decide +kernel), List.mem_of_getElem? (i := 754) (by decide +kernel)⟩
theorem lw_p28 : lw_okq (⟨"PricedCopiesModel", "chainNow", "(II)I"⟩, 24) := ⟨⟨by decide +kernel, by decide +kernel⟩, List.mem_of_getElem? (i := 593) (by decide +kernel), List.mem_of_getElem? (i := 761) (by decide +kernel), List.mem_of_getElem? (i := 762) (by decide +kernel)⟩
theorem lw_p29 : lw_okq (⟨"PricedCopiesModel", "layTokens", "()V"⟩, 24) := ⟨⟨by decide +kernel, by decide +kernel⟩, List.mem_of_getElem? (i := 593) (by decide +kernel), List.mem_of_getElem? (i := 769) (by decide +kernel), List.mem_of_getElem? (i := 770) (by decide +kernel)⟩
theorem lw_p30 : lw_okq (⟨"PricedCopiesModel", "layCheapest", "(II)I"⟩, 24) := ⟨⟨by decide +kernel, by decide +kernel⟩, List.mem_of_getElem? (i := 593) (by decide +kernel), List.mem_of_getElem? (i := 773) (by decide +kernel), List.mem_of_getElem? (i := 774) (by decide +kernel)⟩
theorem lw_p31 : lw_okq (⟨"PricedCopiesModel", "layState", "(III)V"⟩, 24) := ⟨⟨by decide +kernel, by decide +kernel⟩, List.mem_of_getElem? (i := 593) (by decide +kernel), List.mem_of_getElem? (i := 777) (by decide +kernel), List.mem_of_getElem? (i := 778) (by decide +kernel)⟩
def lw_privs_2 : List (MethodName × Nat) := [(⟨"PricedCopies", "findRest", "()V"⟩, 17), (⟨"PricedCopies", "chooseGreedy", "()V"⟩, 17), (⟨"PricedCopies", "priceOfParts", "(I)I"⟩, 17), (⟨"PricedCopiesModel", "textFault", "()I"⟩, 24), (⟨"PricedCopiesModel", "readCode", "()V"⟩, 24), (⟨"PricedCopiesModel", "copy", "(II)V"⟩, 24), (⟨"PricedCopiesModel", "againPrice", "(I)I"⟩, 24), (⟨"PricedCopiesModel", "copyPrice", "(II)I"⟩, 24), (⟨"PricedCopiesModel", "isPlace", "(I)Z"⟩, 24), (⟨"PricedCopiesModel", "longestNow", "(II)I"⟩, 24), (⟨"PricedCopiesModel", "farLongest", "(I)I"⟩, 24), (⟨"PricedCopiesModel", "likeness", "(III)I"⟩, 24), (⟨"PricedCopiesModel", "chainNow", "(II)I"⟩, 24), (⟨"PricedCopiesModel", "layTokens", "()V"⟩, 24), (⟨"PricedCopiesModel", "layCheapest", "(II)I"⟩, 24), (⟨"PricedCopiesModel", "layState", "(III)V"⟩, 24)]
theorem lw_r2 : ∀ q ∈ lw_privs_2, lw_okq q := List.forall_mem_cons.mpr ⟨lw_p16, List.forall_mem_cons.mpr ⟨lw_p17, List.forall_mem_cons.mpr ⟨lw_p18, List.forall_mem_cons.mpr ⟨lw_p19, List.forall_mem_cons.mpr ⟨lw_p20, List.forall_mem_cons.mpr ⟨lw_p21, List.forall_mem_cons.mpr ⟨lw_p22, List.forall_mem_cons.mpr ⟨lw_p23, List.forall_mem_cons.mpr ⟨lw_p24, List.forall_mem_cons.mpr ⟨lw_p25, List.forall_mem_cons.mpr ⟨lw_p26, List.forall_mem_cons.mpr ⟨lw_p27, List.forall_mem_cons.mpr ⟨lw_p28, List.forall_mem_cons.mpr ⟨lw_p29, List.forall_mem_cons.mpr ⟨lw_p30, List.forall_mem_cons.mpr ⟨lw_p31, fun _ h => absurd h List.not_mem_nil⟩⟩⟩⟩⟩⟩⟩⟩⟩⟩⟩⟩⟩⟩⟩⟩
theorem lw_p32 : lw_okq (⟨"PricedCopiesModel", "way", "(IIII)V"⟩, 24) := ⟨⟨by decide +kernel, by decide +kernel⟩, List.mem_of_getElem? (i := 593) (by decide +kernel), List.mem_of_getElem? (i := 782) (by decide +kernel), List.mem_of_getElem? (i := 783) (by decide +kernel)⟩
theorem lw_p33 : lw_okq (⟨"PricedCopiesModel", "cheapestTold", "(I)I"⟩, 24) := ⟨⟨by decide +kernel, by decide +kernel⟩, List.mem_of_getElem? (i := 593) (by decide +kernel), List.mem_of_getElem? (i := 789) (by decide +kernel), List.mem_of_getElem? (i := 790) (by decide +kernel)⟩
theorem lw_p34 : lw_okq (⟨"PricedCopiesModel", "lettersOf", "()I"⟩, 24) := ⟨⟨by decide +kernel, by decide +kernel⟩, List.mem_of_getElem? (i := 593) (by decide +kernel), List.mem_of_getElem? (i := 793) (by decide +kernel), List.mem_of_getElem? (i := 794) (by decide +kernel)⟩
theorem lw_p35 : lw_okq (⟨"PricedCopiesModel", "codeNow", "(I)I"⟩, 24) := ⟨⟨by decide +kernel, by decide +kernel⟩, List.mem_of_getElem? (i := 593) (by decide +kernel), List.mem_of_getElem? (i := 801) (by decide +kernel), List.mem_of_getElem? (i := 802) (by decide +kernel)⟩
theorem lw_p36 : lw_okq (⟨"PricedCopiesModel", "greedyNow", "(I)I"⟩, 24) := ⟨⟨by decide +kernel, by decide +kernel⟩, List.mem_of_getElem? (i := 593) (by decide +kernel), List.mem_of_getElem? (i := 809) (by decide +kernel), List.mem_of_getElem? (i := 810) (by decide +kernel)⟩
theorem lw_p37 : lw_okq (⟨"PricedCopiesModel", "partsNow", "(II)I"⟩, 24) := ⟨⟨by decide +kernel, by decide +kernel⟩, List.mem_of_getElem? (i := 593) (by decide +kernel), List.mem_of_getElem? (i := 817) (by decide +kernel), List.mem_of_getElem? (i := 818) (by decide +kernel)⟩
theorem lw_p38 : lw_okq (⟨"PricedCopiesModel", "partsPrice", "(I)I"⟩, 24) := ⟨⟨by decide +kernel, by decide +kernel⟩, List.mem_of_getElem? (i := 593) (by decide +kernel), List.mem_of_getElem? (i := 821) (by decide +kernel), List.mem_of_getElem? (i := 822) (by decide +kernel)⟩
theorem lw_p39 : lw_okq (⟨"PricedCopiesModel", "roundNow", "()I"⟩, 24) := ⟨⟨by decide +kernel, by decide +kernel⟩, List.mem_of_getElem? (i := 593) (by decide +kernel), List.mem_of_getElem? (i := 829) (by decide +kernel), List.mem_of_getElem? (i := 830) (by decide +kernel)⟩
theorem lw_p40 : lw_okq (⟨"PricedCopiesModel", "layThen", "()I"⟩, 24) := ⟨⟨by decide +kernel, by decide +kernel⟩, List.mem_of_getElem? (i := 593) (by decide +kernel), List.mem_of_getElem? (i := 833) (by decide +kernel), List.mem_of_getElem? (i := 834) (by decide +kernel)⟩
theorem lw_p41 : lw_okq (⟨"PricedCopiesModel", "layTaken", "()V"⟩, 24) := ⟨⟨by decide +kernel, by decide +kernel⟩, List.mem_of_getElem? (i := 593) (by decide +kernel), List.mem_of_getElem? (i := 837) (by decide +kernel), List.mem_of_getElem? (i := 838) (by decide +kernel)⟩
theorem lw_p42 : lw_okq (⟨"PricedCopiesModel", "sum", "(II)I"⟩, 24) := ⟨⟨by decide +kernel, by decide +kernel⟩, List.mem_of_getElem? (i := 593) (by decide +kernel), List.mem_of_getElem? (i := 841) (by decide +kernel), List.mem_of_getElem? (i := 842) (by decide +kernel)⟩
theorem lw_p43 : lw_okq (⟨"PricedCopiesModel", "become", "()V"⟩, 24) := ⟨⟨by decide +kernel, by decide +kernel⟩, List.mem_of_getElem? (i := 593) (by decide +kernel), List.mem_of_getElem? (i := 848) (by decide +kernel), List.mem_of_getElem? (i := 849) (by decide +kernel)⟩
theorem lw_p44 : lw_okq (⟨"PricedCopiesModel", "layRest", "()V"⟩, 24) := ⟨⟨by decide +kernel, by decide +kernel⟩, List.mem_of_getElem? (i := 593) (by decide +kernel), List.mem_of_getElem? (i := 856) (by decide +kernel), List.mem_of_getElem? (i := 857) (by decide +kernel)⟩
theorem lw_p45 : lw_okq (⟨"PricedCopiesModel", "howMany", "(I)I"⟩, 24) := ⟨⟨by decide +kernel, by decide +kernel⟩, List.mem_of_getElem? (i := 593) (by decide +kernel), List.mem_of_getElem? (i := 864) (by decide +kernel), List.mem_of_getElem? (i := 865) (by decide +kernel)⟩
theorem lw_p46 : lw_okq (⟨"PricedCopiesModel", "tokensOf", "(I)I"⟩, 24) := ⟨⟨by decide +kernel, by decide +kernel⟩, List.mem_of_getElem? (i := 593) (by decide +kernel), List.mem_of_getElem? (i := 868) (by decide +kernel), List.mem_of_getElem? (i := 869) (by decide +kernel)⟩
theorem lw_p47 : lw_okq (⟨"PricedCopiesModel", "mix", "(J)V"⟩, 24) := ⟨⟨by decide +kernel, by decide +kernel⟩, List.mem_of_getElem? (i := 593) (by decide +kernel), List.mem_of_getElem? (i := 877) (by decide +kernel), List.mem_of_getElem? (i := 878) (by decide +kernel)⟩
def lw_privs_3 : List (MethodName × Nat) := [(⟨"PricedCopiesModel", "way", "(IIII)V"⟩, 24), (⟨"PricedCopiesModel", "cheapestTold", "(I)I"⟩, 24), (⟨"PricedCopiesModel", "lettersOf", "()I"⟩, 24), (⟨"PricedCopiesModel", "codeNow", "(I)I"⟩, 24), (⟨"PricedCopiesModel", "greedyNow", "(I)I"⟩, 24), (⟨"PricedCopiesModel", "partsNow", "(II)I"⟩, 24), (⟨"PricedCopiesModel", "partsPrice", "(I)I"⟩, 24), (⟨"PricedCopiesModel", "roundNow", "()I"⟩, 24), (⟨"PricedCopiesModel", "layThen", "()I"⟩, 24), (⟨"PricedCopiesModel", "layTaken", "()V"⟩, 24), (⟨"PricedCopiesModel", "sum", "(II)I"⟩, 24), (⟨"PricedCopiesModel", "become", "()V"⟩, 24), (⟨"PricedCopiesModel", "layRest", "()V"⟩, 24), (⟨"PricedCopiesModel", "howMany", "(I)I"⟩, 24), (⟨"PricedCopiesModel", "tokensOf", "(I)I"⟩, 24), (⟨"PricedCopiesModel", "mix", "(J)V"⟩, 24)]
theorem lw_r3 : ∀ q ∈ lw_privs_3, lw_okq q := List.forall_mem_cons.mpr ⟨lw_p32, List.forall_mem_cons.mpr ⟨lw_p33, List.forall_mem_cons.mpr ⟨lw_p34, List.forall_mem_cons.mpr ⟨lw_p35, List.forall_mem_cons.mpr ⟨lw_p36, List.forall_mem_cons.mpr ⟨lw_p37, List.forall_mem_cons.mpr ⟨lw_p38, List.forall_mem_cons.mpr ⟨lw_p39, List.forall_mem_cons.mpr ⟨lw_p40, List.forall_mem_cons.mpr ⟨lw_p41, List.forall_mem_cons.mpr ⟨lw_p42, List.forall_mem_cons.mpr ⟨lw_p43, List.forall_mem_cons.mpr ⟨lw_p44, List.forall_mem_cons.mpr ⟨lw_p45, List.forall_mem_cons.mpr ⟨lw_p46, List.forall_mem_cons.mpr ⟨lw_p47, fun _ h => absurd h List.not_mem_nil⟩⟩⟩⟩⟩⟩⟩⟩⟩⟩⟩⟩⟩⟩⟩⟩
theorem lw_p48 : lw_okq (⟨"PricedCopiesModel", "mixText", "()V"⟩, 24) := ⟨⟨by decide +kernel, by decide +kernel⟩, List.mem_of_getElem? (i := 593) (by decide +kernel), List.mem_of_getElem? (i := 882) (by decide +kernel), List.mem_of_getElem? (i := 883) (by decide +kernel)⟩
def lw_privs_4 : List (MethodName × Nat) := [(⟨"PricedCopiesModel", "mixText", "()V"⟩, 24)]
theorem lw_r4 : ∀ q ∈ lw_privs_4, lw_okq q := List.forall_mem_cons.mpr ⟨lw_p48, fun _ h => absurd h List.not_mem_nil⟩
def lw_privs : List (MethodName × Nat) := lw_privs_1 ++ (lw_privs_2 ++ (lw_privs_3 ++ (lw_privs_4)))
def lw_tbl : List Cond := k2_sels lw_privs ++ tables_1
theorem lw_privs_ok : ∀ q ∈ lw_privs, lw_okq q := by
  show ∀ q ∈ lw_privs_1 ++ (lw_privs_2 ++ (lw_privs_3 ++ (lw_privs_4))), lw_okq q
  exact List.forall_mem_append.mpr ⟨lw_r1, List.forall_mem_append.mpr ⟨lw_r2, List.forall_mem_append.mpr ⟨lw_r3, lw_r4⟩⟩⟩

def RX0 : String := "PricedCopies$Chooser"
def TX0 : u_T := fun k => match k with
  | 0 => ("PricedCopies$Chooser", "weights", "[[I", true)
  | 1 => ("PricedCopies$Chooser", "firsts", "[[I", true)
  | 2 => ("PricedCopies$Chooser", "bestToken", "I", false)
  | _ => ("PricedCopies$Chooser", "bestWeight", "I", false)
def tyX0 : Nat → FieldType := fun k => match k with
  | 0 => .array (.array .int)
  | 1 => .array (.array .int)
  | 2 => .int
  | _ => .int
abbrev wsX00 : List Cond := u_ws RX0 TX0 4
theorem nmX0 : ∀ a, a < 4 → ∀ b, b < 4 → a ≠ b → (TX0 a).2.1 ≠ (TX0 b).2.1 := by decide +kernel
theorem tyX0_ok : ∀ k, k < 4 → parseFieldDescriptor (TX0 k).2.2.1 = some (tyX0 k) := by decide +kernel
abbrev cX0_init : ByteArray := prog_2_method_1_code
def yX0_init : MethodName := ⟨RX0, "<init>", "()V"⟩
abbrev cX0_choose : ByteArray := prog_2_method_2_code
def yX0_choose : MethodName := ⟨RX0, "choose", "(LPricedCopies$Text;LPricedCopies$Prices;IILPricedCopies$TokenRow;)V"⟩
abbrev cX0_chooseCopy : ByteArray := prog_2_method_3_code
def yX0_chooseCopy : MethodName := ⟨RX0, "chooseCopy", "(LPricedCopies$Text;LPricedCopies$Prices;III)V"⟩
abbrev cX0_chooseFirsts : ByteArray := prog_2_method_4_code
def yX0_chooseFirsts : MethodName := ⟨RX0, "chooseFirsts", "(LPricedCopies$Text;LPricedCopies$Prices;III)V"⟩
abbrev cX0_consider : ByteArray := prog_2_method_5_code
def yX0_consider : MethodName := ⟨RX0, "consider", "(III)V"⟩
abbrev cX0_collect : ByteArray := prog_2_method_6_code
def yX0_collect : MethodName := ⟨RX0, "collect", "(IILPricedCopies$TokenRow;)V"⟩
def RX1 : String := "PricedCopies$CodeReader"
def TX1 : u_T := fun k => match k with
  | 0 => ("PricedCopies$CodeReader", "made", "[I", true)
  | 1 => ("PricedCopies$CodeReader", "row", "LPricedCopies$TokenRow;", true)
  | 2 => ("PricedCopies$CodeReader", "madeCount", "I", false)
  | 3 => ("PricedCopies$CodeReader", "latestDistance", "I", false)
  | 4 => ("PricedCopies$CodeReader", "openDistance", "I", false)
  | 5 => ("PricedCopies$CodeReader", "openAgain", "Z", false)
  | 6 => ("PricedCopies$CodeReader", "place", "I", false)
  | _ => ("PricedCopies$CodeReader", "faultless", "Z", false)
def tyX1 : Nat → FieldType := fun k => match k with
  | 0 => .array .int
  | 1 => .object "PricedCopies$TokenRow"
  | 2 => .int
  | 3 => .int
  | 4 => .int
  | 5 => .boolean
  | 6 => .int
  | _ => .boolean
abbrev wsX10 : List Cond := u_ws RX1 TX1 8
theorem nmX1 : ∀ a, a < 8 → ∀ b, b < 8 → a ≠ b → (TX1 a).2.1 ≠ (TX1 b).2.1 := by decide +kernel
theorem tyX1_ok : ∀ k, k < 8 → parseFieldDescriptor (TX1 k).2.2.1 = some (tyX1 k) := by decide +kernel
abbrev cX1_init : ByteArray := prog_3_method_1_code
def yX1_init : MethodName := ⟨RX1, "<init>", "()V"⟩
abbrev cX1_read : ByteArray := prog_3_method_2_code
def yX1_read : MethodName := ⟨RX1, "read", "(LPricedCopies$Page;)V"⟩
abbrev cX1_faultPlace : ByteArray := prog_3_method_3_code
def yX1_faultPlace : MethodName := ⟨RX1, "faultPlace", "()I"⟩
abbrev cX1_isCode : ByteArray := prog_3_method_4_code
def yX1_isCode : MethodName := ⟨RX1, "isCode", "()Z"⟩
abbrev cX1_tokens : ByteArray := prog_3_method_5_code
def yX1_tokens : MethodName := ⟨RX1, "tokens", "()LPricedCopies$TokenRow;"⟩
abbrev cX1_madeSize : ByteArray := prog_3_method_6_code
def yX1_madeSize : MethodName := ⟨RX1, "madeSize", "()I"⟩
abbrev cX1_madeAt : ByteArray := prog_3_method_7_code
def yX1_madeAt : MethodName := ⟨RX1, "madeAt", "(I)I"⟩
abbrev cX1_takes : ByteArray := prog_3_method_8_code
def yX1_takes : MethodName := ⟨RX1, "takes", "(I)Z"⟩
abbrev cX1_takesLetter : ByteArray := prog_3_method_9_code
def yX1_takesLetter : MethodName := ⟨RX1, "takesLetter", "(I)Z"⟩
abbrev cX1_opens : ByteArray := prog_3_method_10_code
def yX1_opens : MethodName := ⟨RX1, "opens", "(I)Z"⟩
abbrev cX1_takesFigure : ByteArray := prog_3_method_11_code
def yX1_takesFigure : MethodName := ⟨RX1, "takesFigure", "(I)Z"⟩
abbrev cX1_make : ByteArray := prog_3_method_12_code
def yX1_make : MethodName := ⟨RX1, "make", "(I)V"⟩
def RX2 : String := "PricedCopies$Page"
def TX2 : u_T := fun k => match k with
  | 0 => ("PricedCopies$Page", "signs", "[I", true)
  | _ => ("PricedCopies$Page", "size", "I", false)
def tyX2 : Nat → FieldType := fun k => match k with
  | 0 => .array .int
  | _ => .int
abbrev wsX20 : List Cond := u_ws RX2 TX2 2
theorem nmX2 : ∀ a, a < 2 → ∀ b, b < 2 → a ≠ b → (TX2 a).2.1 ≠ (TX2 b).2.1 := by decide +kernel
theorem tyX2_ok : ∀ k, k < 2 → parseFieldDescriptor (TX2 k).2.2.1 = some (tyX2 k) := by decide +kernel
abbrev cX2_init : ByteArray := prog_4_method_1_code
def yX2_init : MethodName := ⟨RX2, "<init>", "()V"⟩
abbrev cX2_isFull : ByteArray := prog_4_method_2_code
def yX2_isFull : MethodName := ⟨RX2, "isFull", "()Z"⟩
abbrev cX2_size : ByteArray := prog_4_method_3_code
def yX2_size : MethodName := ⟨RX2, "size", "()I"⟩
abbrev cX2_clear : ByteArray := prog_4_method_4_code
def yX2_clear : MethodName := ⟨RX2, "clear", "()V"⟩
abbrev cX2_add : ByteArray := prog_4_method_5_code
def yX2_add : MethodName := ⟨RX2, "add", "(I)V"⟩
abbrev cX2_signAt : ByteArray := prog_4_method_6_code
def yX2_signAt : MethodName := ⟨RX2, "signAt", "(I)I"⟩
abbrev cX2_textFault : ByteArray := prog_4_method_7_code
def yX2_textFault : MethodName := ⟨RX2, "textFault", "()I"⟩
abbrev cX2_isText : ByteArray := prog_4_method_8_code
def yX2_isText : MethodName := ⟨RX2, "isText", "()Z"⟩
def RX3 : String := "PricedCopies$Prices"
def TX3 : u_T := fun k => match k with
  | 0 => ("PricedCopies$Prices", "values", "[I", true)
  | _ => ("PricedCopies$Prices", "taken", "[I", true)
def tyX3 : Nat → FieldType := fun k => match k with
  | 0 => .array .int
  | _ => .array .int
abbrev wsX30 : List Cond := u_ws RX3 TX3 2
theorem nmX3 : ∀ a, a < 2 → ∀ b, b < 2 → a ≠ b → (TX3 a).2.1 ≠ (TX3 b).2.1 := by decide +kernel
theorem tyX3_ok : ∀ k, k < 2 → parseFieldDescriptor (TX3 k).2.2.1 = some (tyX3 k) := by decide +kernel
abbrev cX3_init : ByteArray := prog_5_method_1_code
def yX3_init : MethodName := ⟨RX3, "<init>", "()V"⟩
abbrev cX3_get : ByteArray := prog_5_method_2_code
def yX3_get : MethodName := ⟨RX3, "get", "(I)I"⟩
abbrev cX3_set : ByteArray := prog_5_method_3_code
def yX3_set : MethodName := ⟨RX3, "set", "(II)V"⟩
abbrev cX3_take : ByteArray := prog_5_method_4_code
def yX3_take : MethodName := ⟨RX3, "take", "(LPricedCopies$Prices;)V"⟩
abbrev cX3_ofToken : ByteArray := prog_5_method_5_code
def yX3_ofToken : MethodName := ⟨RX3, "ofToken", "(I)I"⟩
abbrev cX3_ofRow : ByteArray := prog_5_method_6_code
def yX3_ofRow : MethodName := ⟨RX3, "ofRow", "(LPricedCopies$TokenRow;)I"⟩
abbrev cX3_follow : ByteArray := prog_5_method_7_code
def yX3_follow : MethodName := ⟨RX3, "follow", "(LPricedCopies$TokenRow;)I"⟩
abbrev cX3_reprice : ByteArray := prog_5_method_8_code
def yX3_reprice : MethodName := ⟨RX3, "reprice", "(III)I"⟩
abbrev cX3_countTaken : ByteArray := prog_5_method_9_code
def yX3_countTaken : MethodName := ⟨RX3, "countTaken", "(LPricedCopies$TokenRow;)V"⟩
abbrev cX3_countOne : ByteArray := prog_5_method_10_code
def yX3_countOne : MethodName := ⟨RX3, "countOne", "(I)V"⟩
def RX4 : String := "PricedCopies$Text"
def TX4 : u_T := fun k => match k with
  | 0 => ("PricedCopies$Text", "letters", "[I", true)
  | 1 => ("PricedCopies$Text", "alike", "[[I", true)
  | _ => ("PricedCopies$Text", "size", "I", false)
def tyX4 : Nat → FieldType := fun k => match k with
  | 0 => .array .int
  | 1 => .array (.array .int)
  | _ => .int
abbrev wsX40 : List Cond := u_ws RX4 TX4 3
theorem nmX4 : ∀ a, a < 3 → ∀ b, b < 3 → a ≠ b → (TX4 a).2.1 ≠ (TX4 b).2.1 := by decide +kernel
theorem tyX4_ok : ∀ k, k < 3 → parseFieldDescriptor (TX4 k).2.2.1 = some (tyX4 k) := by decide +kernel
abbrev cX4_init : ByteArray := prog_6_method_1_code
def yX4_init : MethodName := ⟨RX4, "<init>", "()V"⟩
abbrev cX4_clear : ByteArray := prog_6_method_2_code
def yX4_clear : MethodName := ⟨RX4, "clear", "()V"⟩
abbrev cX4_add : ByteArray := prog_6_method_3_code
def yX4_add : MethodName := ⟨RX4, "add", "(I)V"⟩
abbrev cX4_size : ByteArray := prog_6_method_4_code
def yX4_size : MethodName := ⟨RX4, "size", "()I"⟩
abbrev cX4_has : ByteArray := prog_6_method_5_code
def yX4_has : MethodName := ⟨RX4, "has", "(I)Z"⟩
abbrev cX4_letterAt : ByteArray := prog_6_method_6_code
def yX4_letterAt : MethodName := ⟨RX4, "letterAt", "(I)I"⟩
abbrev cX4_compare : ByteArray := prog_6_method_7_code
def yX4_compare : MethodName := ⟨RX4, "compare", "()V"⟩
abbrev cX4_likeness : ByteArray := prog_6_method_8_code
def yX4_likeness : MethodName := ⟨RX4, "likeness", "(II)I"⟩
abbrev cX4_longestDistance : ByteArray := prog_6_method_9_code
def yX4_longestDistance : MethodName := ⟨RX4, "longestDistance", "(I)I"⟩
abbrev cX4_chainPlace : ByteArray := prog_6_method_10_code
def yX4_chainPlace : MethodName := ⟨RX4, "chainPlace", "(II)I"⟩
def RX5 : String := "PricedCopies$Token"
def TX5 : u_T := fun k => match k with
  | _ => ("", "", "", false)
def tyX5 : Nat → FieldType := fun k => match k with
  | _ => .int
abbrev wsX50 : List Cond := u_ws RX5 TX5 0
theorem nmX5 : ∀ a, a < 0 → ∀ b, b < 0 → a ≠ b → (TX5 a).2.1 ≠ (TX5 b).2.1 := by decide +kernel
theorem tyX5_ok : ∀ k, k < 0 → parseFieldDescriptor (TX5 k).2.2.1 = some (tyX5 k) := by decide +kernel
abbrev cX5_again : ByteArray := prog_7_method_2_code
def yX5_again : MethodName := ⟨RX5, "again", "(I)I"⟩
abbrev cX5_copy : ByteArray := prog_7_method_3_code
def yX5_copy : MethodName := ⟨RX5, "copy", "(II)I"⟩
abbrev cX5_isPlain : ByteArray := prog_7_method_4_code
def yX5_isPlain : MethodName := ⟨RX5, "isPlain", "(I)Z"⟩
abbrev cX5_isCopy : ByteArray := prog_7_method_5_code
def yX5_isCopy : MethodName := ⟨RX5, "isCopy", "(I)Z"⟩
abbrev cX5_lengthOf : ByteArray := prog_7_method_6_code
def yX5_lengthOf : MethodName := ⟨RX5, "lengthOf", "(I)I"⟩
abbrev cX5_distanceOf : ByteArray := prog_7_method_7_code
def yX5_distanceOf : MethodName := ⟨RX5, "distanceOf", "(I)I"⟩
abbrev cX5_signsOf : ByteArray := prog_7_method_8_code
def yX5_signsOf : MethodName := ⟨RX5, "signsOf", "(I)I"⟩
abbrev cX5_signOf : ByteArray := prog_7_method_9_code
def yX5_signOf : MethodName := ⟨RX5, "signOf", "(II)I"⟩
def RX6 : String := "PricedCopies$TokenRow"
def TX6 : u_T := fun k => match k with
  | 0 => ("PricedCopies$TokenRow", "tokens", "[I", true)
  | 1 => ("PricedCopies$TokenRow", "size", "I", false)
  | 2 => ("PricedCopies$TokenRow", "plains", "I", false)
  | _ => ("PricedCopies$TokenRow", "copies", "I", false)
def tyX6 : Nat → FieldType := fun k => match k with
  | 0 => .array .int
  | 1 => .int
  | 2 => .int
  | _ => .int
abbrev wsX60 : List Cond := u_ws RX6 TX6 4
theorem nmX6 : ∀ a, a < 4 → ∀ b, b < 4 → a ≠ b → (TX6 a).2.1 ≠ (TX6 b).2.1 := by decide +kernel
theorem tyX6_ok : ∀ k, k < 4 → parseFieldDescriptor (TX6 k).2.2.1 = some (tyX6 k) := by decide +kernel
abbrev cX6_init : ByteArray := prog_8_method_1_code
def yX6_init : MethodName := ⟨RX6, "<init>", "()V"⟩
abbrev cX6_clear : ByteArray := prog_8_method_2_code
def yX6_clear : MethodName := ⟨RX6, "clear", "()V"⟩
abbrev cX6_add : ByteArray := prog_8_method_3_code
def yX6_add : MethodName := ⟨RX6, "add", "(I)V"⟩
abbrev cX6_size : ByteArray := prog_8_method_4_code
def yX6_size : MethodName := ⟨RX6, "size", "()I"⟩
abbrev cX6_plains : ByteArray := prog_8_method_5_code
def yX6_plains : MethodName := ⟨RX6, "plains", "()I"⟩
abbrev cX6_copies : ByteArray := prog_8_method_6_code
def yX6_copies : MethodName := ⟨RX6, "copies", "()I"⟩
abbrev cX6_agains : ByteArray := prog_8_method_7_code
def yX6_agains : MethodName := ⟨RX6, "agains", "()I"⟩
abbrev cX6_get : ByteArray := prog_8_method_8_code
def yX6_get : MethodName := ⟨RX6, "get", "(I)I"⟩
abbrev cX6_signs : ByteArray := prog_8_method_9_code
def yX6_signs : MethodName := ⟨RX6, "signs", "()I"⟩
abbrev cX6_signAt : ByteArray := prog_8_method_10_code
def yX6_signAt : MethodName := ⟨RX6, "signAt", "(I)I"⟩
def RX7 : String := "PricedCopies"
def TX7 : u_T := fun k => match k with
  | 0 => ("PricedCopies", "page", "LPricedCopies$Page;", true)
  | 1 => ("PricedCopies", "reader", "LPricedCopies$CodeReader;", true)
  | 2 => ("PricedCopies", "told", "LPricedCopies$Text;", true)
  | 3 => ("PricedCopies", "prices", "LPricedCopies$Prices;", true)
  | 4 => ("PricedCopies", "chooser", "LPricedCopies$Chooser;", true)
  | 5 => ("PricedCopies", "cheapestRow", "LPricedCopies$TokenRow;", true)
  | 6 => ("PricedCopies", "greedyRow", "LPricedCopies$TokenRow;", true)
  | 7 => ("PricedCopies", "trialPrices", "LPricedCopies$Prices;", true)
  | 8 => ("PricedCopies", "trialRow", "LPricedCopies$TokenRow;", true)
  | 9 => ("PricedCopies", "cheapestKnown", "Z", false)
  | 10 => ("PricedCopies", "restKnown", "Z", false)
  | 11 => ("PricedCopies", "restRounds", "I", false)
  | 12 => ("PricedCopies", "restPrice", "I", false)
  | 13 => ("PricedCopies", "restTokens", "I", false)
  | 14 => ("PricedCopies", "roundsMade", "I", false)
  | 15 => ("PricedCopies", "textsRead", "I", false)
  | _ => ("PricedCopies", "codesRead", "I", false)
def tyX7 : Nat → FieldType := fun k => match k with
  | 0 => .object "PricedCopies$Page"
  | 1 => .object "PricedCopies$CodeReader"
  | 2 => .object "PricedCopies$Text"
  | 3 => .object "PricedCopies$Prices"
  | 4 => .object "PricedCopies$Chooser"
  | 5 => .object "PricedCopies$TokenRow"
  | 6 => .object "PricedCopies$TokenRow"
  | 7 => .object "PricedCopies$Prices"
  | 8 => .object "PricedCopies$TokenRow"
  | 9 => .boolean
  | 10 => .boolean
  | 11 => .int
  | 12 => .int
  | 13 => .int
  | 14 => .int
  | 15 => .int
  | _ => .int
abbrev wsX70 : List Cond := u_ws RX7 TX7 17
theorem nmX7 : ∀ a, a < 17 → ∀ b, b < 17 → a ≠ b → (TX7 a).2.1 ≠ (TX7 b).2.1 := by decide +kernel
theorem tyX7_ok : ∀ k, k < 17 → parseFieldDescriptor (TX7 k).2.2.1 = some (tyX7 k) := by decide +kernel
abbrev cX7_init : ByteArray := prog_1_method_1_code
def yX7_init : MethodName := ⟨RX7, "<init>", "()V"⟩
abbrev cX7_letter : ByteArray := prog_1_method_2_code
def yX7_letter : MethodName := ⟨RX7, "letter", "(I)I"⟩
abbrev cX7_blank : ByteArray := prog_1_method_3_code
def yX7_blank : MethodName := ⟨RX7, "blank", "()I"⟩
abbrev cX7_fault : ByteArray := prog_1_method_4_code
def yX7_fault : MethodName := ⟨RX7, "fault", "(Z)I"⟩
abbrev cX7_text : ByteArray := prog_1_method_5_code
def yX7_text : MethodName := ⟨RX7, "text", "()I"⟩
abbrev cX7_decode : ByteArray := prog_1_method_6_code
def yX7_decode : MethodName := ⟨RX7, "decode", "()I"⟩
abbrev cX7_priced : ByteArray := prog_1_method_7_code
def yX7_priced : MethodName := ⟨RX7, "priced", "()I"⟩
abbrev cX7_price : ByteArray := prog_1_method_8_code
def yX7_price : MethodName := ⟨RX7, "price", "(II)I"⟩
abbrev cX7_priceOf : ByteArray := prog_1_method_9_code
def yX7_priceOf : MethodName := ⟨RX7, "priceOf", "(I)I"⟩
abbrev cX7_round : ByteArray := prog_1_method_10_code
def yX7_round : MethodName := ⟨RX7, "round", "()I"⟩
abbrev cX7_rest : ByteArray := prog_1_method_11_code
def yX7_rest : MethodName := ⟨RX7, "rest", "(I)I"⟩
abbrev cX7_at : ByteArray := prog_1_method_12_code
def yX7_at : MethodName := ⟨RX7, "at", "(I)I"⟩
abbrev cX7_longest : ByteArray := prog_1_method_13_code
def yX7_longest : MethodName := ⟨RX7, "longest", "(II)I"⟩
abbrev cX7_chain : ByteArray := prog_1_method_14_code
def yX7_chain : MethodName := ⟨RX7, "chain", "(II)I"⟩
abbrev cX7_cheapest : ByteArray := prog_1_method_15_code
def yX7_cheapest : MethodName := ⟨RX7, "cheapest", "(I)I"⟩
abbrev cX7_codeOf : ByteArray := prog_1_method_16_code
def yX7_codeOf : MethodName := ⟨RX7, "codeOf", "(I)I"⟩
abbrev cX7_greedy : ByteArray := prog_1_method_17_code
def yX7_greedy : MethodName := ⟨RX7, "greedy", "(I)I"⟩
abbrev cX7_parts : ByteArray := prog_1_method_18_code
def yX7_parts : MethodName := ⟨RX7, "parts", "(II)I"⟩
abbrev cX7_count : ByteArray := prog_1_method_19_code
def yX7_count : MethodName := ⟨RX7, "count", "(I)I"⟩
abbrev cX7_digest : ByteArray := prog_1_method_20_code
def yX7_digest : MethodName := ⟨RX7, "digest", "()J"⟩
abbrev cX7_hasText : ByteArray := prog_1_method_21_code
def yX7_hasText : MethodName := ⟨RX7, "hasText", "()Z"⟩
abbrev cX7_isPrice : ByteArray := prog_1_method_22_code
def yX7_isPrice : MethodName := ⟨RX7, "isPrice", "(I)Z"⟩
abbrev cX7_takeText : ByteArray := prog_1_method_23_code
def yX7_takeText : MethodName := ⟨RX7, "takeText", "()V"⟩
abbrev cX7_forget : ByteArray := prog_1_method_24_code
def yX7_forget : MethodName := ⟨RX7, "forget", "()V"⟩
abbrev cX7_chooseCheapest : ByteArray := prog_1_method_25_code
def yX7_chooseCheapest : MethodName := ⟨RX7, "chooseCheapest", "()V"⟩
abbrev cX7_chooseGreedy : ByteArray := prog_1_method_26_code
def yX7_chooseGreedy : MethodName := ⟨RX7, "chooseGreedy", "()V"⟩
abbrev cX7_priceOfParts : ByteArray := prog_1_method_27_code
def yX7_priceOfParts : MethodName := ⟨RX7, "priceOfParts", "(I)I"⟩
abbrev cX7_findRest : ByteArray := prog_1_method_28_code
def yX7_findRest : MethodName := ⟨RX7, "findRest", "()V"⟩
abbrev cX7_mix : ByteArray := prog_1_method_29_code
def yX7_mix : MethodName := ⟨RX7, "mix", "(JJ)J"⟩
abbrev cX7_log : ByteArray := prog_1_method_30_code
def yX7_log : MethodName := ⟨RX7, "log", "(I)I"⟩
def RX8 : String := "PricedCopiesModel"
def TX8 : u_T := fun k => match k with
  | 0 => ("PricedCopiesModel", "pageLength", "I", false)
  | 1 => ("PricedCopiesModel", "page", "[I", true)
  | 2 => ("PricedCopiesModel", "size", "I", false)
  | 3 => ("PricedCopiesModel", "text", "[I", true)
  | 4 => ("PricedCopiesModel", "prices", "[I", true)
  | 5 => ("PricedCopiesModel", "rounds", "I", false)
  | 6 => ("PricedCopiesModel", "texts", "I", false)
  | 7 => ("PricedCopiesModel", "codes", "I", false)
  | 8 => ("PricedCopiesModel", "made", "[I", true)
  | 9 => ("PricedCopiesModel", "madeMany", "I", false)
  | 10 => ("PricedCopiesModel", "cost", "I", false)
  | 11 => ("PricedCopiesModel", "readAt", "I", false)
  | 12 => ("PricedCopiesModel", "isCode", "Z", false)
  | 13 => ("PricedCopiesModel", "price", "[I", true)
  | 14 => ("PricedCopiesModel", "many", "[I", true)
  | 15 => ("PricedCopiesModel", "first", "[I", true)
  | 16 => ("PricedCopiesModel", "like", "[I", true)
  | 17 => ("PricedCopiesModel", "token", "[I", true)
  | 18 => ("PricedCopiesModel", "tokens", "I", false)
  | 19 => ("PricedCopiesModel", "taken", "[I", true)
  | 20 => ("PricedCopiesModel", "then", "[I", true)
  | 21 => ("PricedCopiesModel", "saved", "[I", true)
  | 22 => ("PricedCopiesModel", "rests", "[I", true)
  | _ => ("PricedCopiesModel", "h", "J", false)
def tyX8 : Nat → FieldType := fun k => match k with
  | 0 => .int
  | 1 => .array .int
  | 2 => .int
  | 3 => .array .int
  | 4 => .array .int
  | 5 => .int
  | 6 => .int
  | 7 => .int
  | 8 => .array .int
  | 9 => .int
  | 10 => .int
  | 11 => .int
  | 12 => .boolean
  | 13 => .array .int
  | 14 => .array .int
  | 15 => .array .int
  | 16 => .array .int
  | 17 => .array .int
  | 18 => .int
  | 19 => .array .int
  | 20 => .array .int
  | 21 => .array .int
  | 22 => .array .int
  | _ => .long
abbrev wsX80 : List Cond := u_ws RX8 TX8 24
theorem nmX8 : ∀ a, a < 24 → ∀ b, b < 24 → a ≠ b → (TX8 a).2.1 ≠ (TX8 b).2.1 := by decide +kernel
theorem tyX8_ok : ∀ k, k < 24 → parseFieldDescriptor (TX8 k).2.2.1 = some (tyX8 k) := by decide +kernel
abbrev cX8_init : ByteArray := prog_10_method_1_code
def yX8_init : MethodName := ⟨RX8, "<init>", "()V"⟩
abbrev cX8_within : ByteArray := prog_10_method_3_code
def yX8_within : MethodName := ⟨RX8, "within", "(III)Z"⟩
abbrev cX8_letter : ByteArray := prog_10_method_4_code
def yX8_letter : MethodName := ⟨RX8, "letter", "(I)I"⟩
abbrev cX8_blank : ByteArray := prog_10_method_5_code
def yX8_blank : MethodName := ⟨RX8, "blank", "()I"⟩
abbrev cX8_textFault : ByteArray := prog_10_method_6_code
def yX8_textFault : MethodName := ⟨RX8, "textFault", "()I"⟩
abbrev cX8_farOf : ByteArray := prog_10_method_7_code
def yX8_farOf : MethodName := ⟨RX8, "farOf", "(I)I"⟩
abbrev cX8_copyPrice : ByteArray := prog_10_method_8_code
def yX8_copyPrice : MethodName := ⟨RX8, "copyPrice", "(II)I"⟩
abbrev cX8_againPrice : ByteArray := prog_10_method_9_code
def yX8_againPrice : MethodName := ⟨RX8, "againPrice", "(I)I"⟩
abbrev cX8_copy : ByteArray := prog_10_method_10_code
def yX8_copy : MethodName := ⟨RX8, "copy", "(II)V"⟩
abbrev cX8_readCode : ByteArray := prog_10_method_11_code
def yX8_readCode : MethodName := ⟨RX8, "readCode", "()V"⟩
abbrev cX8_fault : ByteArray := prog_10_method_12_code
def yX8_fault : MethodName := ⟨RX8, "fault", "(Z)I"⟩
abbrev cX8_text : ByteArray := prog_10_method_13_code
def yX8_text : MethodName := ⟨RX8, "text", "()I"⟩
abbrev cX8_decode : ByteArray := prog_10_method_14_code
def yX8_decode : MethodName := ⟨RX8, "decode", "()I"⟩
abbrev cX8_priced : ByteArray := prog_10_method_15_code
def yX8_priced : MethodName := ⟨RX8, "priced", "()I"⟩
abbrev cX8_isPrice : ByteArray := prog_10_method_16_code
def yX8_isPrice : MethodName := ⟨RX8, "isPrice", "(I)Z"⟩
abbrev cX8_price : ByteArray := prog_10_method_17_code
def yX8_price : MethodName := ⟨RX8, "price", "(II)I"⟩
abbrev cX8_priceOf : ByteArray := prog_10_method_18_code
def yX8_priceOf : MethodName := ⟨RX8, "priceOf", "(I)I"⟩
abbrev cX8_likeness : ByteArray := prog_10_method_19_code
def yX8_likeness : MethodName := ⟨RX8, "likeness", "(III)I"⟩
abbrev cX8_isPlace : ByteArray := prog_10_method_20_code
def yX8_isPlace : MethodName := ⟨RX8, "isPlace", "(I)Z"⟩
abbrev cX8_at : ByteArray := prog_10_method_21_code
def yX8_at : MethodName := ⟨RX8, "at", "(I)I"⟩
abbrev cX8_farLongest : ByteArray := prog_10_method_22_code
def yX8_farLongest : MethodName := ⟨RX8, "farLongest", "(I)I"⟩
abbrev cX8_longestNow : ByteArray := prog_10_method_23_code
def yX8_longestNow : MethodName := ⟨RX8, "longestNow", "(II)I"⟩
abbrev cX8_longest : ByteArray := prog_10_method_24_code
def yX8_longest : MethodName := ⟨RX8, "longest", "(II)I"⟩
abbrev cX8_chainNow : ByteArray := prog_10_method_25_code
def yX8_chainNow : MethodName := ⟨RX8, "chainNow", "(II)I"⟩
abbrev cX8_chain : ByteArray := prog_10_method_26_code
def yX8_chain : MethodName := ⟨RX8, "chain", "(II)I"⟩
abbrev cX8_way : ByteArray := prog_10_method_27_code
def yX8_way : MethodName := ⟨RX8, "way", "(IIII)V"⟩
abbrev cX8_layState : ByteArray := prog_10_method_28_code
def yX8_layState : MethodName := ⟨RX8, "layState", "(III)V"⟩
abbrev cX8_layCheapest : ByteArray := prog_10_method_29_code
def yX8_layCheapest : MethodName := ⟨RX8, "layCheapest", "(II)I"⟩
abbrev cX8_lengthOf : ByteArray := prog_10_method_30_code
def yX8_lengthOf : MethodName := ⟨RX8, "lengthOf", "(I)I"⟩
abbrev cX8_layTokens : ByteArray := prog_10_method_31_code
def yX8_layTokens : MethodName := ⟨RX8, "layTokens", "()V"⟩
abbrev cX8_lettersOf : ByteArray := prog_10_method_32_code
def yX8_lettersOf : MethodName := ⟨RX8, "lettersOf", "()I"⟩
abbrev cX8_cheapestTold : ByteArray := prog_10_method_33_code
def yX8_cheapestTold : MethodName := ⟨RX8, "cheapestTold", "(I)I"⟩
abbrev cX8_cheapest : ByteArray := prog_10_method_34_code
def yX8_cheapest : MethodName := ⟨RX8, "cheapest", "(I)I"⟩
abbrev cX8_codeNow : ByteArray := prog_10_method_35_code
def yX8_codeNow : MethodName := ⟨RX8, "codeNow", "(I)I"⟩
abbrev cX8_codeOf : ByteArray := prog_10_method_36_code
def yX8_codeOf : MethodName := ⟨RX8, "codeOf", "(I)I"⟩
abbrev cX8_greedyNow : ByteArray := prog_10_method_37_code
def yX8_greedyNow : MethodName := ⟨RX8, "greedyNow", "(I)I"⟩
abbrev cX8_greedy : ByteArray := prog_10_method_38_code
def yX8_greedy : MethodName := ⟨RX8, "greedy", "(I)I"⟩
abbrev cX8_partsPrice : ByteArray := prog_10_method_39_code
def yX8_partsPrice : MethodName := ⟨RX8, "partsPrice", "(I)I"⟩
abbrev cX8_partsNow : ByteArray := prog_10_method_40_code
def yX8_partsNow : MethodName := ⟨RX8, "partsNow", "(II)I"⟩
abbrev cX8_parts : ByteArray := prog_10_method_41_code
def yX8_parts : MethodName := ⟨RX8, "parts", "(II)I"⟩
abbrev cX8_log : ByteArray := prog_10_method_42_code
def yX8_log : MethodName := ⟨RX8, "log", "(I)I"⟩
abbrev cX8_layTaken : ByteArray := prog_10_method_43_code
def yX8_layTaken : MethodName := ⟨RX8, "layTaken", "()V"⟩
abbrev cX8_sum : ByteArray := prog_10_method_44_code
def yX8_sum : MethodName := ⟨RX8, "sum", "(II)I"⟩
abbrev cX8_layThen : ByteArray := prog_10_method_45_code
def yX8_layThen : MethodName := ⟨RX8, "layThen", "()I"⟩
abbrev cX8_become : ByteArray := prog_10_method_46_code
def yX8_become : MethodName := ⟨RX8, "become", "()V"⟩
abbrev cX8_roundNow : ByteArray := prog_10_method_47_code
def yX8_roundNow : MethodName := ⟨RX8, "roundNow", "()I"⟩
abbrev cX8_round : ByteArray := prog_10_method_48_code
def yX8_round : MethodName := ⟨RX8, "round", "()I"⟩
abbrev cX8_layRest : ByteArray := prog_10_method_49_code
def yX8_layRest : MethodName := ⟨RX8, "layRest", "()V"⟩
abbrev cX8_rest : ByteArray := prog_10_method_50_code
def yX8_rest : MethodName := ⟨RX8, "rest", "(I)I"⟩
abbrev cX8_tokensOf : ByteArray := prog_10_method_51_code
def yX8_tokensOf : MethodName := ⟨RX8, "tokensOf", "(I)I"⟩
abbrev cX8_howMany : ByteArray := prog_10_method_52_code
def yX8_howMany : MethodName := ⟨RX8, "howMany", "(I)I"⟩
abbrev cX8_count : ByteArray := prog_10_method_53_code
def yX8_count : MethodName := ⟨RX8, "count", "(I)I"⟩
abbrev cX8_mix : ByteArray := prog_10_method_54_code
def yX8_mix : MethodName := ⟨RX8, "mix", "(J)V"⟩
abbrev cX8_mixText : ByteArray := prog_10_method_55_code
def yX8_mixText : MethodName := ⟨RX8, "mixText", "()V"⟩
abbrev cX8_digest : ByteArray := prog_10_method_56_code
def yX8_digest : MethodName := ⟨RX8, "digest", "()J"⟩
def RJx8e188 : String := "java/lang/Cloneable"
def TJx8e188 : u_T := fun k => match k with
  | _ => ("", "", "", false)
def tyJx8e188 : Nat → FieldType := fun k => match k with
  | _ => .int
abbrev wsJx8e1880 : List Cond := u_ws RJx8e188 TJx8e188 0
theorem nmJx8e188 : ∀ a, a < 0 → ∀ b, b < 0 → a ≠ b → (TJx8e188 a).2.1 ≠ (TJx8e188 b).2.1 := by decide +kernel
theorem tyJx8e188_ok : ∀ k, k < 0 → parseFieldDescriptor (TJx8e188 k).2.2.1 = some (tyJx8e188 k) := by decide +kernel
def RJ9 : String := "java/lang/Math"
def TJ9 : u_T := fun k => match k with
  | _ => ("", "", "", false)
def tyJ9 : Nat → FieldType := fun k => match k with
  | _ => .int
abbrev wsJ90 : List Cond := u_ws RJ9 TJ9 0
theorem nmJ9 : ∀ a, a < 0 → ∀ b, b < 0 → a ≠ b → (TJ9 a).2.1 ≠ (TJ9 b).2.1 := by decide +kernel
theorem tyJ9_ok : ∀ k, k < 0 → parseFieldDescriptor (TJ9 k).2.2.1 = some (tyJ9 k) := by decide +kernel
abbrev cJ9_max_7cf53 : ByteArray := prog_12_method_65_code
def yJ9_max_7cf53 : MethodName := ⟨RJ9, "max", "(II)I"⟩
abbrev cJ9_min_7cf53 : ByteArray := prog_12_method_69_code
def yJ9_min_7cf53 : MethodName := ⟨RJ9, "min", "(II)I"⟩
def RL : String := "PricedCopiesLaw"
abbrev cL_law : ByteArray := code
def yL_law : MethodName := ⟨RL, "law", "([I)Z"⟩
end
section
/-- the words that stay good over a call -/
def lw_good : List Cond := lw_tbl.filter goodWord
theorem lw_mem {w : Cond} (i : Nat) (h : (lw_tbl[i]? == some w && goodWord w) = true) : w ∈ lw_good := by
  simp only [Bool.and_eq_true, beq_iff_eq] at h
  exact List.mem_filter.mpr ⟨List.mem_of_getElem? h.1, h.2⟩
theorem lw_memT {w : Cond} (i : Nat) (h : (lw_tbl[i]? == some w) = true) : w ∈ lw_tbl := by
  simp only [beq_iff_eq] at h
  exact List.mem_of_getElem? h
theorem lw_allgood : ∀ w ∈ lw_good, (w.onTables && w.keeps) = true ∨ ∃ ty, w = .arrayClass ty := fun _ h => good_of_word (List.mem_filter.mp h).2
theorem lw_goodIn {y : MethodName} {cc : ByteArray} {maxL : Nat} {ret : Option FieldType} (h : Cond.code y cc maxL ret ∈ lw_good) : GoodIn lw_good (Cond.code y cc maxL ret :: lw_good) := by
  intro w hw
  rcases List.mem_cons.mp hw with rfl | hw
  · exact ⟨h, lw_allgood _ h⟩
  · exact ⟨hw, lw_allgood _ hw⟩

theorem q_0 : Cond.initialized RL ∈ lw_good := lw_mem 49 (by decide +kernel)
theorem q_1 : Cond.initialized RX7 ∈ lw_good := lw_mem 50 (by decide +kernel)
theorem q_2 : Cond.initialized RX2 ∈ lw_good := lw_mem 51 (by decide +kernel)
theorem q_3 : Cond.initialized RX1 ∈ lw_good := lw_mem 52 (by decide +kernel)
theorem q_4 : Cond.initialized RX6 ∈ lw_good := lw_mem 53 (by decide +kernel)
theorem q_5 : Cond.initialized RX4 ∈ lw_good := lw_mem 54 (by decide +kernel)
theorem q_6 : Cond.initialized RX3 ∈ lw_good := lw_mem 55 (by decide +kernel)
theorem q_7 : Cond.initialized RX0 ∈ lw_good := lw_mem 56 (by decide +kernel)
theorem q_8 : Cond.initialized RX8 ∈ lw_good := lw_mem 57 (by decide +kernel)
theorem q_9 : Cond.initialized RX5 ∈ lw_good := lw_mem 58 (by decide +kernel)
theorem q_10 : Cond.initialized "java/lang/Math" ∈ lw_good := lw_mem 59 (by decide +kernel)
theorem q_11 : Cond.classLink RL 7 RX7 ∈ lw_good := lw_mem 60 (by decide +kernel)
theorem q_12 : Cond.instantiable RX7 17 ∈ lw_good := lw_mem 61 (by decide +kernel)
theorem q_13 : Cond.methodLink RL 9 yX7_init ∈ lw_good := lw_mem 62 (by decide +kernel)
theorem q_14 : Cond.instanceMethod yX7_init ∈ lw_good := lw_mem 63 (by decide +kernel)
theorem q_15 : Cond.code yX7_init cX7_init 1 none ∈ lw_good := lw_mem 64 (by decide +kernel)
theorem q_16 : Cond.methodLink RX7 1 objectInit ∈ lw_good := lw_mem 65 (by decide +kernel)
theorem q_17 : Cond.instanceMethod objectInit ∈ lw_good := lw_mem 66 (by decide +kernel)
theorem q_19 : Cond.classLink RX7 7 RX2 ∈ lw_good := lw_mem 68 (by decide +kernel)
theorem q_20 : Cond.instantiable RX2 2 ∈ lw_good := lw_mem 69 (by decide +kernel)
theorem q_21 : Cond.methodLinkNest RX7 9 yX2_init "PricedCopies" ∈ lw_tbl := lw_memT 70 (by decide +kernel)
theorem q_22 : Cond.instanceMethod yX2_init ∈ lw_good := lw_mem 71 (by decide +kernel)
theorem q_23 : Cond.code yX2_init cX2_init 1 none ∈ lw_good := lw_mem 72 (by decide +kernel)
theorem q_24 : Cond.methodLink RX2 3 objectInit ∈ lw_good := lw_mem 73 (by decide +kernel)
theorem q_25 : Cond.fieldLink RX2 9 "PricedCopies$Page" "signs" "[I" ∈ lw_good := lw_mem 74 (by decide +kernel)
theorem q_26 : Cond.fieldLink RX2 15 "PricedCopies$Page" "size" "I" ∈ lw_good := lw_mem 75 (by decide +kernel)
theorem q_27 : Cond.laysFinal RX2 "PricedCopies$Page" "signs" "[I" ∈ lw_good := lw_mem 76 (by decide +kernel)
theorem q_29 : Cond.lays RX2 "PricedCopies$Page" "size" "I" ∈ lw_good := lw_mem 78 (by decide +kernel)
theorem q_32 : Cond.arrayClass .int ∈ lw_good := lw_mem 81 (by decide +kernel)
theorem q_33 : Cond.classLink RX7 16 RX1 ∈ lw_good := lw_mem 82 (by decide +kernel)
theorem q_34 : Cond.instantiable RX1 8 ∈ lw_good := lw_mem 83 (by decide +kernel)
theorem q_35 : Cond.methodLinkNest RX7 18 yX1_init "PricedCopies" ∈ lw_tbl := lw_memT 84 (by decide +kernel)
theorem q_36 : Cond.instanceMethod yX1_init ∈ lw_good := lw_mem 85 (by decide +kernel)
theorem q_37 : Cond.code yX1_init cX1_init 1 none ∈ lw_good := lw_mem 86 (by decide +kernel)
theorem q_38 : Cond.methodLink RX1 3 objectInit ∈ lw_good := lw_mem 87 (by decide +kernel)
theorem q_39 : Cond.classLink RX1 15 RX6 ∈ lw_good := lw_mem 88 (by decide +kernel)
theorem q_40 : Cond.instantiable RX6 4 ∈ lw_good := lw_mem 89 (by decide +kernel)
theorem q_41 : Cond.methodLinkNest RX1 17 yX6_init "PricedCopies" ∈ lw_tbl := lw_memT 90 (by decide +kernel)
theorem q_42 : Cond.instanceMethod yX6_init ∈ lw_good := lw_mem 91 (by decide +kernel)
theorem q_43 : Cond.code yX6_init cX6_init 1 none ∈ lw_good := lw_mem 92 (by decide +kernel)
theorem q_44 : Cond.methodLink RX6 3 objectInit ∈ lw_good := lw_mem 93 (by decide +kernel)
theorem q_45 : Cond.fieldLink RX6 9 "PricedCopies$TokenRow" "tokens" "[I" ∈ lw_good := lw_mem 94 (by decide +kernel)
theorem q_46 : Cond.fieldLink RX6 15 "PricedCopies$TokenRow" "size" "I" ∈ lw_good := lw_mem 95 (by decide +kernel)
theorem q_47 : Cond.fieldLink RX6 19 "PricedCopies$TokenRow" "plains" "I" ∈ lw_good := lw_mem 96 (by decide +kernel)
theorem q_48 : Cond.fieldLink RX6 22 "PricedCopies$TokenRow" "copies" "I" ∈ lw_good := lw_mem 97 (by decide +kernel)
theorem q_49 : Cond.laysFinal RX6 "PricedCopies$TokenRow" "tokens" "[I" ∈ lw_good := lw_mem 98 (by decide +kernel)
theorem q_51 : Cond.lays RX6 "PricedCopies$TokenRow" "size" "I" ∈ lw_good := lw_mem 100 (by decide +kernel)
theorem q_53 : Cond.lays RX6 "PricedCopies$TokenRow" "plains" "I" ∈ lw_good := lw_mem 102 (by decide +kernel)
theorem q_55 : Cond.lays RX6 "PricedCopies$TokenRow" "copies" "I" ∈ lw_good := lw_mem 104 (by decide +kernel)
theorem q_58 : Cond.fieldLink RX1 9 "PricedCopies$CodeReader" "made" "[I" ∈ lw_good := lw_mem 107 (by decide +kernel)
theorem q_59 : Cond.fieldLink RX1 18 "PricedCopies$CodeReader" "row" "LPricedCopies$TokenRow;" ∈ lw_good := lw_mem 108 (by decide +kernel)
theorem q_60 : Cond.fieldLink RX1 22 "PricedCopies$CodeReader" "madeCount" "I" ∈ lw_good := lw_mem 109 (by decide +kernel)
theorem q_61 : Cond.fieldLink RX1 26 "PricedCopies$CodeReader" "latestDistance" "I" ∈ lw_good := lw_mem 110 (by decide +kernel)
theorem q_62 : Cond.fieldLink RX1 29 "PricedCopies$CodeReader" "openDistance" "I" ∈ lw_good := lw_mem 111 (by decide +kernel)
theorem q_63 : Cond.fieldLink RX1 32 "PricedCopies$CodeReader" "openAgain" "Z" ∈ lw_good := lw_mem 112 (by decide +kernel)
theorem q_64 : Cond.fieldLink RX1 36 "PricedCopies$CodeReader" "place" "I" ∈ lw_good := lw_mem 113 (by decide +kernel)
theorem q_65 : Cond.fieldLink RX1 39 "PricedCopies$CodeReader" "faultless" "Z" ∈ lw_good := lw_mem 114 (by decide +kernel)
theorem q_66 : Cond.laysFinal RX1 "PricedCopies$CodeReader" "made" "[I" ∈ lw_good := lw_mem 115 (by decide +kernel)
theorem q_68 : Cond.laysFinal RX1 "PricedCopies$CodeReader" "row" "LPricedCopies$TokenRow;" ∈ lw_good := lw_mem 117 (by decide +kernel)
theorem q_70 : Cond.lays RX1 "PricedCopies$CodeReader" "madeCount" "I" ∈ lw_good := lw_mem 119 (by decide +kernel)
theorem q_72 : Cond.lays RX1 "PricedCopies$CodeReader" "latestDistance" "I" ∈ lw_good := lw_mem 121 (by decide +kernel)
theorem q_74 : Cond.lays RX1 "PricedCopies$CodeReader" "openDistance" "I" ∈ lw_good := lw_mem 123 (by decide +kernel)
theorem q_76 : Cond.lays RX1 "PricedCopies$CodeReader" "openAgain" "Z" ∈ lw_good := lw_mem 125 (by decide +kernel)
theorem q_78 : Cond.lays RX1 "PricedCopies$CodeReader" "place" "I" ∈ lw_good := lw_mem 127 (by decide +kernel)
theorem q_80 : Cond.lays RX1 "PricedCopies$CodeReader" "faultless" "Z" ∈ lw_good := lw_mem 129 (by decide +kernel)
theorem q_83 : Cond.classLink RX7 23 RX4 ∈ lw_good := lw_mem 132 (by decide +kernel)
theorem q_84 : Cond.instantiable RX4 3 ∈ lw_good := lw_mem 133 (by decide +kernel)
theorem q_85 : Cond.methodLinkNest RX7 25 yX4_init "PricedCopies" ∈ lw_tbl := lw_memT 134 (by decide +kernel)
theorem q_86 : Cond.instanceMethod yX4_init ∈ lw_good := lw_mem 135 (by decide +kernel)
theorem q_87 : Cond.code yX4_init cX4_init 1 none ∈ lw_good := lw_mem 136 (by decide +kernel)
theorem q_88 : Cond.methodLink RX4 3 objectInit ∈ lw_good := lw_mem 137 (by decide +kernel)
theorem q_89 : Cond.classLink RX4 15 "[[I" ∈ lw_good := lw_mem 138 (by decide +kernel)
theorem q_91 : Cond.fieldLink RX4 9 "PricedCopies$Text" "letters" "[I" ∈ lw_good := lw_mem 140 (by decide +kernel)
theorem q_92 : Cond.fieldLink RX4 17 "PricedCopies$Text" "alike" "[[I" ∈ lw_good := lw_mem 141 (by decide +kernel)
theorem q_93 : Cond.fieldLink RX4 20 "PricedCopies$Text" "size" "I" ∈ lw_good := lw_mem 142 (by decide +kernel)
theorem q_94 : Cond.laysFinal RX4 "PricedCopies$Text" "letters" "[I" ∈ lw_good := lw_mem 143 (by decide +kernel)
theorem q_96 : Cond.laysFinal RX4 "PricedCopies$Text" "alike" "[[I" ∈ lw_good := lw_mem 145 (by decide +kernel)
theorem q_98 : Cond.lays RX4 "PricedCopies$Text" "size" "I" ∈ lw_good := lw_mem 147 (by decide +kernel)
theorem q_101 : Cond.classLink RX7 30 RX3 ∈ lw_good := lw_mem 150 (by decide +kernel)
theorem q_102 : Cond.instantiable RX3 2 ∈ lw_good := lw_mem 151 (by decide +kernel)
theorem q_103 : Cond.methodLinkNest RX7 32 yX3_init "PricedCopies" ∈ lw_tbl := lw_memT 152 (by decide +kernel)
theorem q_104 : Cond.instanceMethod yX3_init ∈ lw_good := lw_mem 153 (by decide +kernel)
theorem q_105 : Cond.code yX3_init cX3_init 1 none ∈ lw_good := lw_mem 154 (by decide +kernel)
theorem q_106 : Cond.methodLink RX3 3 objectInit ∈ lw_good := lw_mem 155 (by decide +kernel)
theorem q_107 : Cond.fieldLinkNest RX3 9 "PricedCopies" "FIRST_PRICES" "[I" "PricedCopies" ∈ lw_tbl := lw_memT 156 (by decide +kernel)
theorem q_115 : Cond.classLink RX3 14 "[I" ∈ lw_good := lw_mem 164 (by decide +kernel)
theorem q_116 : Cond.fieldLink RX3 18 "PricedCopies$Prices" "values" "[I" ∈ lw_good := lw_mem 165 (by decide +kernel)
theorem q_117 : Cond.fieldLink RX3 23 "PricedCopies$Prices" "taken" "[I" ∈ lw_good := lw_mem 166 (by decide +kernel)
theorem q_118 : Cond.laysFinal RX3 "PricedCopies$Prices" "values" "[I" ∈ lw_good := lw_mem 167 (by decide +kernel)
theorem q_120 : Cond.laysFinal RX3 "PricedCopies$Prices" "taken" "[I" ∈ lw_good := lw_mem 169 (by decide +kernel)
theorem q_123 : Cond.classLink RX7 37 RX0 ∈ lw_good := lw_mem 172 (by decide +kernel)
theorem q_124 : Cond.instantiable RX0 4 ∈ lw_good := lw_mem 173 (by decide +kernel)
theorem q_125 : Cond.methodLinkNest RX7 39 yX0_init "PricedCopies" ∈ lw_tbl := lw_memT 174 (by decide +kernel)
theorem q_126 : Cond.instanceMethod yX0_init ∈ lw_good := lw_mem 175 (by decide +kernel)
theorem q_127 : Cond.code yX0_init cX0_init 1 none ∈ lw_good := lw_mem 176 (by decide +kernel)
theorem q_128 : Cond.methodLink RX0 3 objectInit ∈ lw_good := lw_mem 177 (by decide +kernel)
theorem q_129 : Cond.classLink RX0 9 "[[I" ∈ lw_good := lw_mem 178 (by decide +kernel)
theorem q_130 : Cond.fieldLink RX0 11 "PricedCopies$Chooser" "weights" "[[I" ∈ lw_good := lw_mem 179 (by decide +kernel)
theorem q_131 : Cond.fieldLink RX0 16 "PricedCopies$Chooser" "firsts" "[[I" ∈ lw_good := lw_mem 180 (by decide +kernel)
theorem q_132 : Cond.fieldLink RX0 19 "PricedCopies$Chooser" "bestToken" "I" ∈ lw_good := lw_mem 181 (by decide +kernel)
theorem q_133 : Cond.fieldLink RX0 23 "PricedCopies$Chooser" "bestWeight" "I" ∈ lw_good := lw_mem 182 (by decide +kernel)
theorem q_134 : Cond.laysFinal RX0 "PricedCopies$Chooser" "weights" "[[I" ∈ lw_good := lw_mem 183 (by decide +kernel)
theorem q_136 : Cond.laysFinal RX0 "PricedCopies$Chooser" "firsts" "[[I" ∈ lw_good := lw_mem 185 (by decide +kernel)
theorem q_138 : Cond.lays RX0 "PricedCopies$Chooser" "bestToken" "I" ∈ lw_good := lw_mem 187 (by decide +kernel)
theorem q_140 : Cond.lays RX0 "PricedCopies$Chooser" "bestWeight" "I" ∈ lw_good := lw_mem 189 (by decide +kernel)
theorem q_143 : Cond.classLink RX7 44 RX6 ∈ lw_good := lw_mem 192 (by decide +kernel)
theorem q_144 : Cond.methodLinkNest RX7 46 yX6_init "PricedCopies" ∈ lw_tbl := lw_memT 193 (by decide +kernel)
theorem q_145 : Cond.fieldLink RX7 10 "PricedCopies" "page" "LPricedCopies$Page;" ∈ lw_good := lw_mem 194 (by decide +kernel)
theorem q_146 : Cond.fieldLink RX7 19 "PricedCopies" "reader" "LPricedCopies$CodeReader;" ∈ lw_good := lw_mem 195 (by decide +kernel)
theorem q_147 : Cond.fieldLink RX7 26 "PricedCopies" "told" "LPricedCopies$Text;" ∈ lw_good := lw_mem 196 (by decide +kernel)
theorem q_148 : Cond.fieldLink RX7 33 "PricedCopies" "prices" "LPricedCopies$Prices;" ∈ lw_good := lw_mem 197 (by decide +kernel)
theorem q_149 : Cond.fieldLink RX7 40 "PricedCopies" "chooser" "LPricedCopies$Chooser;" ∈ lw_good := lw_mem 198 (by decide +kernel)
theorem q_150 : Cond.fieldLink RX7 47 "PricedCopies" "cheapestRow" "LPricedCopies$TokenRow;" ∈ lw_good := lw_mem 199 (by decide +kernel)
theorem q_151 : Cond.fieldLink RX7 51 "PricedCopies" "greedyRow" "LPricedCopies$TokenRow;" ∈ lw_good := lw_mem 200 (by decide +kernel)
theorem q_152 : Cond.fieldLink RX7 54 "PricedCopies" "trialPrices" "LPricedCopies$Prices;" ∈ lw_good := lw_mem 201 (by decide +kernel)
theorem q_153 : Cond.fieldLink RX7 57 "PricedCopies" "trialRow" "LPricedCopies$TokenRow;" ∈ lw_good := lw_mem 202 (by decide +kernel)
theorem q_154 : Cond.fieldLink RX7 60 "PricedCopies" "cheapestKnown" "Z" ∈ lw_good := lw_mem 203 (by decide +kernel)
theorem q_155 : Cond.fieldLink RX7 64 "PricedCopies" "restKnown" "Z" ∈ lw_good := lw_mem 204 (by decide +kernel)
theorem q_156 : Cond.fieldLink RX7 67 "PricedCopies" "restRounds" "I" ∈ lw_good := lw_mem 205 (by decide +kernel)
theorem q_157 : Cond.fieldLink RX7 71 "PricedCopies" "restPrice" "I" ∈ lw_good := lw_mem 206 (by decide +kernel)
theorem q_158 : Cond.fieldLink RX7 74 "PricedCopies" "restTokens" "I" ∈ lw_good := lw_mem 207 (by decide +kernel)
theorem q_159 : Cond.fieldLink RX7 77 "PricedCopies" "roundsMade" "I" ∈ lw_good := lw_mem 208 (by decide +kernel)
theorem q_160 : Cond.fieldLink RX7 80 "PricedCopies" "textsRead" "I" ∈ lw_good := lw_mem 209 (by decide +kernel)
theorem q_161 : Cond.fieldLink RX7 83 "PricedCopies" "codesRead" "I" ∈ lw_good := lw_mem 210 (by decide +kernel)
theorem q_162 : Cond.laysFinal RX7 "PricedCopies" "page" "LPricedCopies$Page;" ∈ lw_good := lw_mem 211 (by decide +kernel)
theorem q_164 : Cond.laysFinal RX7 "PricedCopies" "reader" "LPricedCopies$CodeReader;" ∈ lw_good := lw_mem 213 (by decide +kernel)
theorem q_166 : Cond.laysFinal RX7 "PricedCopies" "told" "LPricedCopies$Text;" ∈ lw_good := lw_mem 215 (by decide +kernel)
theorem q_168 : Cond.laysFinal RX7 "PricedCopies" "prices" "LPricedCopies$Prices;" ∈ lw_good := lw_mem 217 (by decide +kernel)
theorem q_170 : Cond.laysFinal RX7 "PricedCopies" "chooser" "LPricedCopies$Chooser;" ∈ lw_good := lw_mem 219 (by decide +kernel)
theorem q_172 : Cond.laysFinal RX7 "PricedCopies" "cheapestRow" "LPricedCopies$TokenRow;" ∈ lw_good := lw_mem 221 (by decide +kernel)
theorem q_174 : Cond.laysFinal RX7 "PricedCopies" "greedyRow" "LPricedCopies$TokenRow;" ∈ lw_good := lw_mem 223 (by decide +kernel)
theorem q_176 : Cond.laysFinal RX7 "PricedCopies" "trialPrices" "LPricedCopies$Prices;" ∈ lw_good := lw_mem 225 (by decide +kernel)
theorem q_178 : Cond.laysFinal RX7 "PricedCopies" "trialRow" "LPricedCopies$TokenRow;" ∈ lw_good := lw_mem 227 (by decide +kernel)
theorem q_180 : Cond.lays RX7 "PricedCopies" "cheapestKnown" "Z" ∈ lw_good := lw_mem 229 (by decide +kernel)
theorem q_182 : Cond.lays RX7 "PricedCopies" "restKnown" "Z" ∈ lw_good := lw_mem 231 (by decide +kernel)
theorem q_184 : Cond.lays RX7 "PricedCopies" "restRounds" "I" ∈ lw_good := lw_mem 233 (by decide +kernel)
theorem q_186 : Cond.lays RX7 "PricedCopies" "restPrice" "I" ∈ lw_good := lw_mem 235 (by decide +kernel)
theorem q_188 : Cond.lays RX7 "PricedCopies" "restTokens" "I" ∈ lw_good := lw_mem 237 (by decide +kernel)
theorem q_190 : Cond.lays RX7 "PricedCopies" "roundsMade" "I" ∈ lw_good := lw_mem 239 (by decide +kernel)
theorem q_192 : Cond.lays RX7 "PricedCopies" "textsRead" "I" ∈ lw_good := lw_mem 241 (by decide +kernel)
theorem q_194 : Cond.lays RX7 "PricedCopies" "codesRead" "I" ∈ lw_good := lw_mem 243 (by decide +kernel)
theorem q_197 : Cond.methodLink RL 13 yX7_letter ∈ lw_good := lw_mem 246 (by decide +kernel)
theorem q_198 : Cond.instanceMethod yX7_letter ∈ lw_good := lw_mem 247 (by decide +kernel)
theorem q_199 : Cond.selects RX7 yX7_letter yX7_letter ∈ lw_good := lw_mem 248 (by decide +kernel)
theorem q_200 : Cond.code yX7_letter cX7_letter 2 (some .int) ∈ lw_good := lw_mem 249 (by decide +kernel)
theorem q_201 : Cond.methodLink RX7 86 yX2_isFull ∈ lw_good := lw_mem 250 (by decide +kernel)
theorem q_202 : Cond.instanceMethod yX2_isFull ∈ lw_good := lw_mem 251 (by decide +kernel)
theorem q_203 : Cond.selects RX2 yX2_isFull yX2_isFull ∈ lw_good := lw_mem 252 (by decide +kernel)
theorem q_204 : Cond.code yX2_isFull cX2_isFull 1 (some .boolean) ∈ lw_good := lw_mem 253 (by decide +kernel)
theorem q_205 : Cond.methodLink RX7 90 yX2_add ∈ lw_good := lw_mem 254 (by decide +kernel)
theorem q_206 : Cond.instanceMethod yX2_add ∈ lw_good := lw_mem 255 (by decide +kernel)
theorem q_207 : Cond.selects RX2 yX2_add yX2_add ∈ lw_good := lw_mem 256 (by decide +kernel)
theorem q_208 : Cond.code yX2_add cX2_add 2 none ∈ lw_good := lw_mem 257 (by decide +kernel)
theorem q_209 : Cond.methodLink RX2 19 yX2_isFull ∈ lw_good := lw_mem 258 (by decide +kernel)
theorem q_210 : Cond.methodLink RX7 94 yX2_size ∈ lw_good := lw_mem 259 (by decide +kernel)
theorem q_211 : Cond.instanceMethod yX2_size ∈ lw_good := lw_mem 260 (by decide +kernel)
theorem q_212 : Cond.selects RX2 yX2_size yX2_size ∈ lw_good := lw_mem 261 (by decide +kernel)
theorem q_213 : Cond.code yX2_size cX2_size 1 (some .int) ∈ lw_good := lw_mem 262 (by decide +kernel)
theorem q_214 : Cond.methodLink RL 18 yX7_blank ∈ lw_good := lw_mem 263 (by decide +kernel)
theorem q_215 : Cond.instanceMethod yX7_blank ∈ lw_good := lw_mem 264 (by decide +kernel)
theorem q_216 : Cond.selects RX7 yX7_blank yX7_blank ∈ lw_good := lw_mem 265 (by decide +kernel)
theorem q_217 : Cond.code yX7_blank cX7_blank 2 (some .int) ∈ lw_good := lw_mem 266 (by decide +kernel)
theorem q_218 : Cond.methodLink RX7 98 yX2_clear ∈ lw_good := lw_mem 267 (by decide +kernel)
theorem q_219 : Cond.instanceMethod yX2_clear ∈ lw_good := lw_mem 268 (by decide +kernel)
theorem q_220 : Cond.selects RX2 yX2_clear yX2_clear ∈ lw_good := lw_mem 269 (by decide +kernel)
theorem q_221 : Cond.code yX2_clear cX2_clear 1 none ∈ lw_good := lw_mem 270 (by decide +kernel)
theorem q_222 : Cond.methodLink RL 23 yX7_fault ∈ lw_good := lw_mem 271 (by decide +kernel)
theorem q_223 : Cond.instanceMethod yX7_fault ∈ lw_good := lw_mem 272 (by decide +kernel)
theorem q_224 : Cond.selects RX7 yX7_fault yX7_fault ∈ lw_good := lw_mem 273 (by decide +kernel)
theorem q_225 : Cond.code yX7_fault cX7_fault 2 (some .int) ∈ lw_good := lw_mem 274 (by decide +kernel)
theorem q_226 : Cond.methodLink RX7 101 yX2_textFault ∈ lw_good := lw_mem 275 (by decide +kernel)
theorem q_227 : Cond.instanceMethod yX2_textFault ∈ lw_good := lw_mem 276 (by decide +kernel)
theorem q_228 : Cond.selects RX2 yX2_textFault yX2_textFault ∈ lw_good := lw_mem 277 (by decide +kernel)
theorem q_229 : Cond.code yX2_textFault cX2_textFault 3 (some .int) ∈ lw_good := lw_mem 278 (by decide +kernel)
theorem q_230 : Cond.methodLink RX2 23 yX2_signAt ∈ lw_good := lw_mem 279 (by decide +kernel)
theorem q_231 : Cond.instanceMethod yX2_signAt ∈ lw_good := lw_mem 280 (by decide +kernel)
theorem q_232 : Cond.selects RX2 yX2_signAt yX2_signAt ∈ lw_good := lw_mem 281 (by decide +kernel)
theorem q_233 : Cond.code yX2_signAt cX2_signAt 2 (some .int) ∈ lw_good := lw_mem 282 (by decide +kernel)
theorem q_234 : Cond.methodLink RX7 104 yX1_read ∈ lw_good := lw_mem 283 (by decide +kernel)
theorem q_235 : Cond.instanceMethod yX1_read ∈ lw_good := lw_mem 284 (by decide +kernel)
theorem q_236 : Cond.selects RX1 yX1_read yX1_read ∈ lw_good := lw_mem 285 (by decide +kernel)
theorem q_237 : Cond.code yX1_read cX1_read 2 none ∈ lw_good := lw_mem 286 (by decide +kernel)
theorem q_238 : Cond.methodLink RX1 42 yX6_clear ∈ lw_good := lw_mem 287 (by decide +kernel)
theorem q_239 : Cond.instanceMethod yX6_clear ∈ lw_good := lw_mem 288 (by decide +kernel)
theorem q_240 : Cond.selects RX6 yX6_clear yX6_clear ∈ lw_good := lw_mem 289 (by decide +kernel)
theorem q_241 : Cond.code yX6_clear cX6_clear 1 none ∈ lw_good := lw_mem 290 (by decide +kernel)
theorem q_242 : Cond.methodLink RX1 45 yX2_size ∈ lw_good := lw_mem 291 (by decide +kernel)
theorem q_243 : Cond.methodLink RX1 51 yX2_signAt ∈ lw_good := lw_mem 292 (by decide +kernel)
theorem q_244 : Cond.methodLink RX1 55 yX1_takes ∈ lw_good := lw_mem 293 (by decide +kernel)
theorem q_246 : Cond.instanceMethod yX1_takes ∈ lw_good := lw_mem 295 (by decide +kernel)
theorem q_247 : Cond.code yX1_takes cX1_takes 3 (some .boolean) ∈ lw_good := lw_mem 296 (by decide +kernel)
theorem q_248 : Cond.methodLink RX1 60 yX1_takesFigure ∈ lw_good := lw_mem 297 (by decide +kernel)
theorem q_250 : Cond.instanceMethod yX1_takesFigure ∈ lw_good := lw_mem 299 (by decide +kernel)
theorem q_251 : Cond.code yX1_takesFigure cX1_takesFigure 3 (some .boolean) ∈ lw_good := lw_mem 300 (by decide +kernel)
theorem q_252 : Cond.methodLink RX1 76 yX5_again ∈ lw_good := lw_mem 301 (by decide +kernel)
theorem q_253 : Cond.static yX5_again ∈ lw_good := lw_mem 302 (by decide +kernel)
theorem q_254 : Cond.code yX5_again cX5_again 1 (some .int) ∈ lw_good := lw_mem 303 (by decide +kernel)
theorem q_255 : Cond.methodLink RX1 81 yX5_copy ∈ lw_good := lw_mem 304 (by decide +kernel)
theorem q_256 : Cond.static yX5_copy ∈ lw_good := lw_mem 305 (by decide +kernel)
theorem q_257 : Cond.code yX5_copy cX5_copy 2 (some .int) ∈ lw_good := lw_mem 306 (by decide +kernel)
theorem q_258 : Cond.methodLink RX1 73 yX6_add ∈ lw_good := lw_mem 307 (by decide +kernel)
theorem q_259 : Cond.instanceMethod yX6_add ∈ lw_good := lw_mem 308 (by decide +kernel)
theorem q_260 : Cond.selects RX6 yX6_add yX6_add ∈ lw_good := lw_mem 309 (by decide +kernel)
theorem q_261 : Cond.code yX6_add cX6_add 2 none ∈ lw_good := lw_mem 310 (by decide +kernel)
theorem q_262 : Cond.methodLink RX6 25 yX5_isPlain ∈ lw_good := lw_mem 311 (by decide +kernel)
theorem q_263 : Cond.static yX5_isPlain ∈ lw_good := lw_mem 312 (by decide +kernel)
theorem q_264 : Cond.code yX5_isPlain cX5_isPlain 1 (some .boolean) ∈ lw_good := lw_mem 313 (by decide +kernel)
theorem q_265 : Cond.methodLink RX6 31 yX5_isCopy ∈ lw_good := lw_mem 314 (by decide +kernel)
theorem q_266 : Cond.static yX5_isCopy ∈ lw_good := lw_mem 315 (by decide +kernel)
theorem q_267 : Cond.code yX5_isCopy cX5_isCopy 1 (some .boolean) ∈ lw_good := lw_mem 316 (by decide +kernel)
theorem q_268 : Cond.methodLink RX1 85 yX1_madeAt ∈ lw_good := lw_mem 317 (by decide +kernel)
theorem q_269 : Cond.instanceMethod yX1_madeAt ∈ lw_good := lw_mem 318 (by decide +kernel)
theorem q_270 : Cond.selects RX1 yX1_madeAt yX1_madeAt ∈ lw_good := lw_mem 319 (by decide +kernel)
theorem q_271 : Cond.code yX1_madeAt cX1_madeAt 2 (some .int) ∈ lw_good := lw_mem 320 (by decide +kernel)
theorem q_272 : Cond.methodLink RX1 69 yX1_make ∈ lw_good := lw_mem 321 (by decide +kernel)
theorem q_274 : Cond.instanceMethod yX1_make ∈ lw_good := lw_mem 323 (by decide +kernel)
theorem q_275 : Cond.code yX1_make cX1_make 2 none ∈ lw_good := lw_mem 324 (by decide +kernel)
theorem q_276 : Cond.methodLink RX1 63 yX1_takesLetter ∈ lw_good := lw_mem 325 (by decide +kernel)
theorem q_278 : Cond.instanceMethod yX1_takesLetter ∈ lw_good := lw_mem 327 (by decide +kernel)
theorem q_279 : Cond.code yX1_takesLetter cX1_takesLetter 2 (some .boolean) ∈ lw_good := lw_mem 328 (by decide +kernel)
theorem q_280 : Cond.methodLink RX1 66 yX1_opens ∈ lw_good := lw_mem 329 (by decide +kernel)
theorem q_282 : Cond.instanceMethod yX1_opens ∈ lw_good := lw_mem 331 (by decide +kernel)
theorem q_283 : Cond.code yX1_opens cX1_opens 2 (some .boolean) ∈ lw_good := lw_mem 332 (by decide +kernel)
theorem q_284 : Cond.methodLink RX7 108 yX1_faultPlace ∈ lw_good := lw_mem 333 (by decide +kernel)
theorem q_285 : Cond.instanceMethod yX1_faultPlace ∈ lw_good := lw_mem 334 (by decide +kernel)
theorem q_286 : Cond.selects RX1 yX1_faultPlace yX1_faultPlace ∈ lw_good := lw_mem 335 (by decide +kernel)
theorem q_287 : Cond.code yX1_faultPlace cX1_faultPlace 1 (some .int) ∈ lw_good := lw_mem 336 (by decide +kernel)
theorem q_288 : Cond.methodLink RL 28 yX7_text ∈ lw_good := lw_mem 337 (by decide +kernel)
theorem q_289 : Cond.instanceMethod yX7_text ∈ lw_good := lw_mem 338 (by decide +kernel)
theorem q_290 : Cond.selects RX7 yX7_text yX7_text ∈ lw_good := lw_mem 339 (by decide +kernel)
theorem q_291 : Cond.code yX7_text cX7_text 2 (some .int) ∈ lw_good := lw_mem 340 (by decide +kernel)
theorem q_292 : Cond.methodLink RX7 111 yX2_isText ∈ lw_good := lw_mem 341 (by decide +kernel)
theorem q_293 : Cond.instanceMethod yX2_isText ∈ lw_good := lw_mem 342 (by decide +kernel)
theorem q_294 : Cond.selects RX2 yX2_isText yX2_isText ∈ lw_good := lw_mem 343 (by decide +kernel)
theorem q_295 : Cond.code yX2_isText cX2_isText 1 (some .boolean) ∈ lw_good := lw_mem 344 (by decide +kernel)
theorem q_296 : Cond.methodLink RX2 27 yX2_textFault ∈ lw_good := lw_mem 345 (by decide +kernel)
theorem q_297 : Cond.methodLink RX7 114 yX4_clear ∈ lw_good := lw_mem 346 (by decide +kernel)
theorem q_298 : Cond.instanceMethod yX4_clear ∈ lw_good := lw_mem 347 (by decide +kernel)
theorem q_299 : Cond.selects RX4 yX4_clear yX4_clear ∈ lw_good := lw_mem 348 (by decide +kernel)
theorem q_300 : Cond.code yX4_clear cX4_clear 1 none ∈ lw_good := lw_mem 349 (by decide +kernel)
theorem q_301 : Cond.methodLink RX7 115 yX2_signAt ∈ lw_good := lw_mem 350 (by decide +kernel)
theorem q_302 : Cond.methodLink RX7 119 yX4_add ∈ lw_good := lw_mem 351 (by decide +kernel)
theorem q_303 : Cond.instanceMethod yX4_add ∈ lw_good := lw_mem 352 (by decide +kernel)
theorem q_304 : Cond.selects RX4 yX4_add yX4_add ∈ lw_good := lw_mem 353 (by decide +kernel)
theorem q_305 : Cond.code yX4_add cX4_add 2 none ∈ lw_good := lw_mem 354 (by decide +kernel)
theorem q_306 : Cond.methodLink RX7 120 yX7_takeText ∈ lw_good := lw_mem 355 (by decide +kernel)
theorem q_308 : Cond.instanceMethod yX7_takeText ∈ lw_good := lw_mem 357 (by decide +kernel)
theorem q_309 : Cond.code yX7_takeText cX7_takeText 1 none ∈ lw_good := lw_mem 358 (by decide +kernel)
theorem q_310 : Cond.methodLink RX7 234 yX4_compare ∈ lw_good := lw_mem 359 (by decide +kernel)
theorem q_311 : Cond.instanceMethod yX4_compare ∈ lw_good := lw_mem 360 (by decide +kernel)
theorem q_312 : Cond.selects RX4 yX4_compare yX4_compare ∈ lw_good := lw_mem 361 (by decide +kernel)
theorem q_313 : Cond.code yX4_compare cX4_compare 4 none ∈ lw_good := lw_mem 362 (by decide +kernel)
theorem q_314 : Cond.methodLink RX4 28 yX4_likeness ∈ lw_good := lw_mem 363 (by decide +kernel)
theorem q_315 : Cond.instanceMethod yX4_likeness ∈ lw_good := lw_mem 364 (by decide +kernel)
theorem q_316 : Cond.selects RX4 yX4_likeness yX4_likeness ∈ lw_good := lw_mem 365 (by decide +kernel)
theorem q_317 : Cond.code yX4_likeness cX4_likeness 3 (some .int) ∈ lw_good := lw_mem 366 (by decide +kernel)
theorem q_318 : Cond.methodLink RX4 32 yJ9_min_7cf53 ∈ lw_good := lw_mem 367 (by decide +kernel)
theorem q_319 : Cond.static yJ9_min_7cf53 ∈ lw_good := lw_mem 368 (by decide +kernel)
theorem q_320 : Cond.code yJ9_min_7cf53 cJ9_min_7cf53 2 (some .int) ∈ lw_good := lw_mem 369 (by decide +kernel)
theorem q_321 : Cond.methodLink RX7 152 yX7_forget ∈ lw_good := lw_mem 370 (by decide +kernel)
theorem q_323 : Cond.instanceMethod yX7_forget ∈ lw_good := lw_mem 372 (by decide +kernel)
theorem q_324 : Cond.code yX7_forget cX7_forget 1 none ∈ lw_good := lw_mem 373 (by decide +kernel)
theorem q_325 : Cond.methodLink RX7 123 yX4_size ∈ lw_good := lw_mem 374 (by decide +kernel)
theorem q_326 : Cond.instanceMethod yX4_size ∈ lw_good := lw_mem 375 (by decide +kernel)
theorem q_327 : Cond.selects RX4 yX4_size yX4_size ∈ lw_good := lw_mem 376 (by decide +kernel)
theorem q_328 : Cond.code yX4_size cX4_size 1 (some .int) ∈ lw_good := lw_mem 377 (by decide +kernel)
theorem q_329 : Cond.methodLink RL 32 yX7_decode ∈ lw_good := lw_mem 378 (by decide +kernel)
theorem q_330 : Cond.instanceMethod yX7_decode ∈ lw_good := lw_mem 379 (by decide +kernel)
theorem q_331 : Cond.selects RX7 yX7_decode yX7_decode ∈ lw_good := lw_mem 380 (by decide +kernel)
theorem q_332 : Cond.code yX7_decode cX7_decode 2 (some .int) ∈ lw_good := lw_mem 381 (by decide +kernel)
theorem q_333 : Cond.methodLink RX7 124 yX1_isCode ∈ lw_good := lw_mem 382 (by decide +kernel)
theorem q_334 : Cond.instanceMethod yX1_isCode ∈ lw_good := lw_mem 383 (by decide +kernel)
theorem q_335 : Cond.selects RX1 yX1_isCode yX1_isCode ∈ lw_good := lw_mem 384 (by decide +kernel)
theorem q_336 : Cond.code yX1_isCode cX1_isCode 1 (some .boolean) ∈ lw_good := lw_mem 385 (by decide +kernel)
theorem q_337 : Cond.methodLink RX1 59 yX6_size ∈ lw_good := lw_mem 386 (by decide +kernel)
theorem q_338 : Cond.instanceMethod yX6_size ∈ lw_good := lw_mem 387 (by decide +kernel)
theorem q_339 : Cond.selects RX6 yX6_size yX6_size ∈ lw_good := lw_mem 388 (by decide +kernel)
theorem q_340 : Cond.code yX6_size cX6_size 1 (some .int) ∈ lw_good := lw_mem 389 (by decide +kernel)
theorem q_341 : Cond.methodLink RX7 127 yX1_madeSize ∈ lw_good := lw_mem 390 (by decide +kernel)
theorem q_342 : Cond.instanceMethod yX1_madeSize ∈ lw_good := lw_mem 391 (by decide +kernel)
theorem q_343 : Cond.selects RX1 yX1_madeSize yX1_madeSize ∈ lw_good := lw_mem 392 (by decide +kernel)
theorem q_344 : Cond.code yX1_madeSize cX1_madeSize 1 (some .int) ∈ lw_good := lw_mem 393 (by decide +kernel)
theorem q_345 : Cond.methodLink RX7 130 yX1_madeAt ∈ lw_good := lw_mem 394 (by decide +kernel)
theorem q_346 : Cond.methodLink RL 36 yX7_priced ∈ lw_good := lw_mem 395 (by decide +kernel)
theorem q_347 : Cond.instanceMethod yX7_priced ∈ lw_good := lw_mem 396 (by decide +kernel)
theorem q_348 : Cond.selects RX7 yX7_priced yX7_priced ∈ lw_good := lw_mem 397 (by decide +kernel)
theorem q_349 : Cond.code yX7_priced cX7_priced 1 (some .int) ∈ lw_good := lw_mem 398 (by decide +kernel)
theorem q_350 : Cond.methodLink RX7 133 yX1_tokens ∈ lw_good := lw_mem 399 (by decide +kernel)
theorem q_351 : Cond.instanceMethod yX1_tokens ∈ lw_good := lw_mem 400 (by decide +kernel)
theorem q_352 : Cond.selects RX1 yX1_tokens yX1_tokens ∈ lw_good := lw_mem 401 (by decide +kernel)
theorem q_353 : Cond.code yX1_tokens cX1_tokens 1 (some (.object "PricedCopies$TokenRow")) ∈ lw_good := lw_mem 402 (by decide +kernel)
theorem q_354 : Cond.methodLink RX7 137 yX3_ofRow ∈ lw_good := lw_mem 403 (by decide +kernel)
theorem q_355 : Cond.instanceMethod yX3_ofRow ∈ lw_good := lw_mem 404 (by decide +kernel)
theorem q_356 : Cond.selects RX3 yX3_ofRow yX3_ofRow ∈ lw_good := lw_mem 405 (by decide +kernel)
theorem q_357 : Cond.code yX3_ofRow cX3_ofRow 4 (some .int) ∈ lw_good := lw_mem 406 (by decide +kernel)
theorem q_358 : Cond.methodLink RX3 51 yX6_size ∈ lw_good := lw_mem 407 (by decide +kernel)
theorem q_359 : Cond.methodLink RX3 57 yX6_get ∈ lw_good := lw_mem 408 (by decide +kernel)
theorem q_360 : Cond.instanceMethod yX6_get ∈ lw_good := lw_mem 409 (by decide +kernel)
theorem q_361 : Cond.selects RX6 yX6_get yX6_get ∈ lw_good := lw_mem 410 (by decide +kernel)
theorem q_362 : Cond.code yX6_get cX6_get 2 (some .int) ∈ lw_good := lw_mem 411 (by decide +kernel)
theorem q_363 : Cond.methodLink RX3 58 yX3_ofToken ∈ lw_good := lw_mem 412 (by decide +kernel)
theorem q_364 : Cond.instanceMethod yX3_ofToken ∈ lw_good := lw_mem 413 (by decide +kernel)
theorem q_365 : Cond.selects RX3 yX3_ofToken yX3_ofToken ∈ lw_good := lw_mem 414 (by decide +kernel)
theorem q_366 : Cond.code yX3_ofToken cX3_ofToken 3 (some .int) ∈ lw_good := lw_mem 415 (by decide +kernel)
theorem q_367 : Cond.methodLink RX3 34 yX5_isPlain ∈ lw_good := lw_mem 416 (by decide +kernel)
theorem q_368 : Cond.methodLink RX3 30 yX3_get ∈ lw_good := lw_mem 417 (by decide +kernel)
theorem q_369 : Cond.instanceMethod yX3_get ∈ lw_good := lw_mem 418 (by decide +kernel)
theorem q_370 : Cond.selects RX3 yX3_get yX3_get ∈ lw_good := lw_mem 419 (by decide +kernel)
theorem q_371 : Cond.code yX3_get cX3_get 2 (some .int) ∈ lw_good := lw_mem 420 (by decide +kernel)
theorem q_372 : Cond.methodLink RX3 39 yX5_lengthOf ∈ lw_good := lw_mem 421 (by decide +kernel)
theorem q_373 : Cond.static yX5_lengthOf ∈ lw_good := lw_mem 422 (by decide +kernel)
theorem q_374 : Cond.code yX5_lengthOf cX5_lengthOf 1 (some .int) ∈ lw_good := lw_mem 423 (by decide +kernel)
theorem q_375 : Cond.methodLink RX3 42 yX5_isCopy ∈ lw_good := lw_mem 424 (by decide +kernel)
theorem q_376 : Cond.methodLink RX3 45 yX5_distanceOf ∈ lw_good := lw_mem 425 (by decide +kernel)
theorem q_377 : Cond.static yX5_distanceOf ∈ lw_good := lw_mem 426 (by decide +kernel)
theorem q_378 : Cond.code yX5_distanceOf cX5_distanceOf 1 (some .int) ∈ lw_good := lw_mem 427 (by decide +kernel)
theorem q_379 : Cond.methodLinkNest RX3 48 yX7_log "PricedCopies" ∈ lw_tbl := lw_memT 428 (by decide +kernel)
theorem q_380 : Cond.static yX7_log ∈ lw_good := lw_mem 429 (by decide +kernel)
theorem q_381 : Cond.code yX7_log cX7_log 3 (some .int) ∈ lw_good := lw_mem 430 (by decide +kernel)
theorem q_382 : Cond.methodLink RL 40 yX7_price ∈ lw_good := lw_mem 431 (by decide +kernel)
theorem q_383 : Cond.instanceMethod yX7_price ∈ lw_good := lw_mem 432 (by decide +kernel)
theorem q_384 : Cond.selects RX7 yX7_price yX7_price ∈ lw_good := lw_mem 433 (by decide +kernel)
theorem q_385 : Cond.code yX7_price cX7_price 4 (some .int) ∈ lw_good := lw_mem 434 (by decide +kernel)
theorem q_386 : Cond.methodLink RX7 141 yX7_isPrice ∈ lw_good := lw_mem 435 (by decide +kernel)
theorem q_387 : Cond.static yX7_isPrice ∈ lw_good := lw_mem 436 (by decide +kernel)
theorem q_388 : Cond.code yX7_isPrice cX7_isPrice 1 (some .boolean) ∈ lw_good := lw_mem 437 (by decide +kernel)
theorem q_389 : Cond.methodLink RX7 145 yX3_get ∈ lw_good := lw_mem 438 (by decide +kernel)
theorem q_390 : Cond.methodLink RX7 148 yX3_set ∈ lw_good := lw_mem 439 (by decide +kernel)
theorem q_391 : Cond.instanceMethod yX3_set ∈ lw_good := lw_mem 440 (by decide +kernel)
theorem q_392 : Cond.selects RX3 yX3_set yX3_set ∈ lw_good := lw_mem 441 (by decide +kernel)
theorem q_393 : Cond.code yX3_set cX3_set 3 none ∈ lw_good := lw_mem 442 (by decide +kernel)
theorem q_394 : Cond.methodLinkNest RX3 26 yX7_isPrice "PricedCopies" ∈ lw_tbl := lw_memT 443 (by decide +kernel)
theorem q_395 : Cond.methodLink RL 45 yX7_priceOf ∈ lw_good := lw_mem 444 (by decide +kernel)
theorem q_396 : Cond.instanceMethod yX7_priceOf ∈ lw_good := lw_mem 445 (by decide +kernel)
theorem q_397 : Cond.selects RX7 yX7_priceOf yX7_priceOf ∈ lw_good := lw_mem 446 (by decide +kernel)
theorem q_398 : Cond.code yX7_priceOf cX7_priceOf 2 (some .int) ∈ lw_good := lw_mem 447 (by decide +kernel)
theorem q_399 : Cond.methodLink RL 49 yX7_round ∈ lw_good := lw_mem 448 (by decide +kernel)
theorem q_400 : Cond.instanceMethod yX7_round ∈ lw_good := lw_mem 449 (by decide +kernel)
theorem q_401 : Cond.selects RX7 yX7_round yX7_round ∈ lw_good := lw_mem 450 (by decide +kernel)
theorem q_402 : Cond.code yX7_round cX7_round 2 (some .int) ∈ lw_good := lw_mem 451 (by decide +kernel)
theorem q_403 : Cond.methodLink RX7 155 yX7_hasText ∈ lw_good := lw_mem 452 (by decide +kernel)
theorem q_405 : Cond.instanceMethod yX7_hasText ∈ lw_good := lw_mem 454 (by decide +kernel)
theorem q_406 : Cond.code yX7_hasText cX7_hasText 1 (some .boolean) ∈ lw_good := lw_mem 455 (by decide +kernel)
theorem q_407 : Cond.methodLink RX7 158 yX7_chooseCheapest ∈ lw_good := lw_mem 456 (by decide +kernel)
theorem q_409 : Cond.instanceMethod yX7_chooseCheapest ∈ lw_good := lw_mem 458 (by decide +kernel)
theorem q_410 : Cond.code yX7_chooseCheapest cX7_chooseCheapest 1 none ∈ lw_good := lw_mem 459 (by decide +kernel)
theorem q_411 : Cond.methodLink RX7 237 yX0_choose ∈ lw_good := lw_mem 460 (by decide +kernel)
theorem q_412 : Cond.instanceMethod yX0_choose ∈ lw_good := lw_mem 461 (by decide +kernel)
theorem q_413 : Cond.selects RX0 yX0_choose yX0_choose ∈ lw_good := lw_mem 462 (by decide +kernel)
theorem q_414 : Cond.code yX0_choose cX0_choose 7 none ∈ lw_good := lw_mem 463 (by decide +kernel)
theorem q_415 : Cond.methodLink RX0 26 yX6_clear ∈ lw_good := lw_mem 464 (by decide +kernel)
theorem q_416 : Cond.methodLink RX0 31 yX4_size ∈ lw_good := lw_mem 465 (by decide +kernel)
theorem q_417 : Cond.methodLink RX0 37 yX0_chooseCopy ∈ lw_good := lw_mem 466 (by decide +kernel)
theorem q_419 : Cond.instanceMethod yX0_chooseCopy ∈ lw_good := lw_mem 468 (by decide +kernel)
theorem q_420 : Cond.code yX0_chooseCopy cX0_chooseCopy 10 none ∈ lw_good := lw_mem 469 (by decide +kernel)
theorem q_421 : Cond.methodLink RX0 48 yX4_likeness ∈ lw_good := lw_mem 470 (by decide +kernel)
theorem q_422 : Cond.methodLink RX0 52 yJ9_min_7cf53 ∈ lw_good := lw_mem 471 (by decide +kernel)
theorem q_423 : Cond.methodLink RX0 57 yX5_copy ∈ lw_good := lw_mem 472 (by decide +kernel)
theorem q_424 : Cond.methodLink RX0 62 yX3_ofToken ∈ lw_good := lw_mem 473 (by decide +kernel)
theorem q_425 : Cond.methodLink RX0 68 yX0_consider ∈ lw_good := lw_mem 474 (by decide +kernel)
theorem q_427 : Cond.instanceMethod yX0_consider ∈ lw_good := lw_mem 476 (by decide +kernel)
theorem q_428 : Cond.code yX0_consider cX0_consider 5 none ∈ lw_good := lw_mem 477 (by decide +kernel)
theorem q_429 : Cond.methodLink RX0 41 yX0_chooseFirsts ∈ lw_good := lw_mem 478 (by decide +kernel)
theorem q_431 : Cond.instanceMethod yX0_chooseFirsts ∈ lw_good := lw_mem 480 (by decide +kernel)
theorem q_432 : Cond.code yX0_chooseFirsts cX0_chooseFirsts 13 none ∈ lw_good := lw_mem 481 (by decide +kernel)
theorem q_433 : Cond.methodLink RX0 72 yX4_letterAt ∈ lw_good := lw_mem 482 (by decide +kernel)
theorem q_434 : Cond.instanceMethod yX4_letterAt ∈ lw_good := lw_mem 483 (by decide +kernel)
theorem q_435 : Cond.selects RX4 yX4_letterAt yX4_letterAt ∈ lw_good := lw_mem 484 (by decide +kernel)
theorem q_436 : Cond.code yX4_letterAt cX4_letterAt 2 (some .int) ∈ lw_good := lw_mem 485 (by decide +kernel)
theorem q_437 : Cond.methodLink RX4 24 yX4_has ∈ lw_good := lw_mem 486 (by decide +kernel)
theorem q_438 : Cond.instanceMethod yX4_has ∈ lw_good := lw_mem 487 (by decide +kernel)
theorem q_439 : Cond.selects RX4 yX4_has yX4_has ∈ lw_good := lw_mem 488 (by decide +kernel)
theorem q_440 : Cond.code yX4_has cX4_has 2 (some .boolean) ∈ lw_good := lw_mem 489 (by decide +kernel)
theorem q_441 : Cond.methodLink RX0 75 yX5_again ∈ lw_good := lw_mem 490 (by decide +kernel)
theorem q_442 : Cond.methodLink RX0 44 yX0_collect ∈ lw_good := lw_mem 491 (by decide +kernel)
theorem q_444 : Cond.instanceMethod yX0_collect ∈ lw_good := lw_mem 493 (by decide +kernel)
theorem q_445 : Cond.code yX0_collect cX0_collect 7 none ∈ lw_good := lw_mem 494 (by decide +kernel)
theorem q_446 : Cond.methodLink RX0 78 yX6_add ∈ lw_good := lw_mem 495 (by decide +kernel)
theorem q_447 : Cond.methodLink RX0 82 yX5_isCopy ∈ lw_good := lw_mem 496 (by decide +kernel)
theorem q_448 : Cond.methodLink RX0 86 yX5_distanceOf ∈ lw_good := lw_mem 497 (by decide +kernel)
theorem q_449 : Cond.methodLink RX0 89 yX5_lengthOf ∈ lw_good := lw_mem 498 (by decide +kernel)
theorem q_450 : Cond.methodLink RX0 92 yJ9_max_7cf53 ∈ lw_good := lw_mem 499 (by decide +kernel)
theorem q_451 : Cond.static yJ9_max_7cf53 ∈ lw_good := lw_mem 500 (by decide +kernel)
theorem q_452 : Cond.code yJ9_max_7cf53 cJ9_max_7cf53 2 (some .int) ∈ lw_good := lw_mem 501 (by decide +kernel)
theorem q_453 : Cond.methodLink RX7 161 yX3_follow ∈ lw_good := lw_mem 502 (by decide +kernel)
theorem q_454 : Cond.instanceMethod yX3_follow ∈ lw_good := lw_mem 503 (by decide +kernel)
theorem q_455 : Cond.selects RX3 yX3_follow yX3_follow ∈ lw_good := lw_mem 504 (by decide +kernel)
theorem q_456 : Cond.code yX3_follow cX3_follow 4 (some .int) ∈ lw_good := lw_mem 505 (by decide +kernel)
theorem q_457 : Cond.methodLink RX3 61 yX3_countTaken ∈ lw_good := lw_mem 506 (by decide +kernel)
theorem q_459 : Cond.instanceMethod yX3_countTaken ∈ lw_good := lw_mem 508 (by decide +kernel)
theorem q_460 : Cond.code yX3_countTaken cX3_countTaken 4 none ∈ lw_good := lw_mem 509 (by decide +kernel)
theorem q_461 : Cond.methodLink RX3 84 yX3_countOne ∈ lw_good := lw_mem 510 (by decide +kernel)
theorem q_463 : Cond.instanceMethod yX3_countOne ∈ lw_good := lw_mem 512 (by decide +kernel)
theorem q_464 : Cond.code yX3_countOne cX3_countOne 2 none ∈ lw_good := lw_mem 513 (by decide +kernel)
theorem q_465 : Cond.methodLink RX3 65 yX6_plains ∈ lw_good := lw_mem 514 (by decide +kernel)
theorem q_466 : Cond.instanceMethod yX6_plains ∈ lw_good := lw_mem 515 (by decide +kernel)
theorem q_467 : Cond.selects RX6 yX6_plains yX6_plains ∈ lw_good := lw_mem 516 (by decide +kernel)
theorem q_468 : Cond.code yX6_plains cX6_plains 1 (some .int) ∈ lw_good := lw_mem 517 (by decide +kernel)
theorem q_469 : Cond.methodLink RX3 68 yX3_reprice ∈ lw_good := lw_mem 518 (by decide +kernel)
theorem q_471 : Cond.instanceMethod yX3_reprice ∈ lw_good := lw_mem 520 (by decide +kernel)
theorem q_472 : Cond.code yX3_reprice cX3_reprice 7 (some .int) ∈ lw_good := lw_mem 521 (by decide +kernel)
theorem q_473 : Cond.methodLink RX3 78 yJ9_max_7cf53 ∈ lw_good := lw_mem 522 (by decide +kernel)
theorem q_474 : Cond.methodLink RX3 72 yX6_copies ∈ lw_good := lw_mem 523 (by decide +kernel)
theorem q_475 : Cond.instanceMethod yX6_copies ∈ lw_good := lw_mem 524 (by decide +kernel)
theorem q_476 : Cond.selects RX6 yX6_copies yX6_copies ∈ lw_good := lw_mem 525 (by decide +kernel)
theorem q_477 : Cond.code yX6_copies cX6_copies 1 (some .int) ∈ lw_good := lw_mem 526 (by decide +kernel)
theorem q_478 : Cond.methodLink RX3 75 yX6_agains ∈ lw_good := lw_mem 527 (by decide +kernel)
theorem q_479 : Cond.instanceMethod yX6_agains ∈ lw_good := lw_mem 528 (by decide +kernel)
theorem q_480 : Cond.selects RX6 yX6_agains yX6_agains ∈ lw_good := lw_mem 529 (by decide +kernel)
theorem q_481 : Cond.code yX6_agains cX6_agains 1 (some .int) ∈ lw_good := lw_mem 530 (by decide +kernel)
theorem q_482 : Cond.methodLink RL 53 yX7_rest ∈ lw_good := lw_mem 531 (by decide +kernel)
theorem q_483 : Cond.instanceMethod yX7_rest ∈ lw_good := lw_mem 532 (by decide +kernel)
theorem q_484 : Cond.selects RX7 yX7_rest yX7_rest ∈ lw_good := lw_mem 533 (by decide +kernel)
theorem q_485 : Cond.code yX7_rest cX7_rest 2 (some .int) ∈ lw_good := lw_mem 534 (by decide +kernel)
theorem q_486 : Cond.methodLink RX7 164 yX7_findRest ∈ lw_good := lw_mem 535 (by decide +kernel)
theorem q_488 : Cond.instanceMethod yX7_findRest ∈ lw_good := lw_mem 537 (by decide +kernel)
theorem q_489 : Cond.code yX7_findRest cX7_findRest 2 none ∈ lw_good := lw_mem 538 (by decide +kernel)
theorem q_490 : Cond.methodLink RX7 259 yX3_take ∈ lw_good := lw_mem 539 (by decide +kernel)
theorem q_491 : Cond.instanceMethod yX3_take ∈ lw_good := lw_mem 540 (by decide +kernel)
theorem q_492 : Cond.selects RX3 yX3_take yX3_take ∈ lw_good := lw_mem 541 (by decide +kernel)
theorem q_493 : Cond.code yX3_take cX3_take 3 none ∈ lw_good := lw_mem 542 (by decide +kernel)
theorem q_494 : Cond.methodLink RX7 184 yX6_size ∈ lw_good := lw_mem 543 (by decide +kernel)
theorem q_495 : Cond.methodLink RL 57 yX7_at ∈ lw_good := lw_mem 544 (by decide +kernel)
theorem q_496 : Cond.instanceMethod yX7_at ∈ lw_good := lw_mem 545 (by decide +kernel)
theorem q_497 : Cond.selects RX7 yX7_at yX7_at ∈ lw_good := lw_mem 546 (by decide +kernel)
theorem q_498 : Cond.code yX7_at cX7_at 2 (some .int) ∈ lw_good := lw_mem 547 (by decide +kernel)
theorem q_499 : Cond.methodLink RX7 167 yX4_has ∈ lw_good := lw_mem 548 (by decide +kernel)
theorem q_500 : Cond.methodLink RX7 170 yX4_letterAt ∈ lw_good := lw_mem 549 (by decide +kernel)
theorem q_501 : Cond.methodLink RL 61 yX7_longest ∈ lw_good := lw_mem 550 (by decide +kernel)
theorem q_502 : Cond.instanceMethod yX7_longest ∈ lw_good := lw_mem 551 (by decide +kernel)
theorem q_503 : Cond.selects RX7 yX7_longest yX7_longest ∈ lw_good := lw_mem 552 (by decide +kernel)
theorem q_504 : Cond.code yX7_longest cX7_longest 4 (some .int) ∈ lw_good := lw_mem 553 (by decide +kernel)
theorem q_505 : Cond.methodLink RX7 173 yX4_longestDistance ∈ lw_good := lw_mem 554 (by decide +kernel)
theorem q_506 : Cond.instanceMethod yX4_longestDistance ∈ lw_good := lw_mem 555 (by decide +kernel)
theorem q_507 : Cond.selects RX4 yX4_longestDistance yX4_longestDistance ∈ lw_good := lw_mem 556 (by decide +kernel)
theorem q_508 : Cond.code yX4_longestDistance cX4_longestDistance 6 (some .int) ∈ lw_good := lw_mem 557 (by decide +kernel)
theorem q_509 : Cond.methodLink RX7 176 yX4_likeness ∈ lw_good := lw_mem 558 (by decide +kernel)
theorem q_510 : Cond.methodLink RL 65 yX7_chain ∈ lw_good := lw_mem 559 (by decide +kernel)
theorem q_511 : Cond.instanceMethod yX7_chain ∈ lw_good := lw_mem 560 (by decide +kernel)
theorem q_512 : Cond.selects RX7 yX7_chain yX7_chain ∈ lw_good := lw_mem 561 (by decide +kernel)
theorem q_513 : Cond.code yX7_chain cX7_chain 3 (some .int) ∈ lw_good := lw_mem 562 (by decide +kernel)
theorem q_514 : Cond.methodLink RX7 180 yX4_chainPlace ∈ lw_good := lw_mem 563 (by decide +kernel)
theorem q_515 : Cond.instanceMethod yX4_chainPlace ∈ lw_good := lw_mem 564 (by decide +kernel)
theorem q_516 : Cond.selects RX4 yX4_chainPlace yX4_chainPlace ∈ lw_good := lw_mem 565 (by decide +kernel)
theorem q_517 : Cond.code yX4_chainPlace cX4_chainPlace 5 (some .int) ∈ lw_good := lw_mem 566 (by decide +kernel)
theorem q_518 : Cond.methodLink RL 69 yX7_cheapest ∈ lw_good := lw_mem 567 (by decide +kernel)
theorem q_519 : Cond.instanceMethod yX7_cheapest ∈ lw_good := lw_mem 568 (by decide +kernel)
theorem q_520 : Cond.selects RX7 yX7_cheapest yX7_cheapest ∈ lw_good := lw_mem 569 (by decide +kernel)
theorem q_521 : Cond.code yX7_cheapest cX7_cheapest 3 (some .int) ∈ lw_good := lw_mem 570 (by decide +kernel)
theorem q_522 : Cond.methodLink RX7 183 yX6_get ∈ lw_good := lw_mem 571 (by decide +kernel)
theorem q_523 : Cond.methodLink RX7 185 yX6_signs ∈ lw_good := lw_mem 572 (by decide +kernel)
theorem q_524 : Cond.instanceMethod yX6_signs ∈ lw_good := lw_mem 573 (by decide +kernel)
theorem q_525 : Cond.selects RX6 yX6_signs yX6_signs ∈ lw_good := lw_mem 574 (by decide +kernel)
theorem q_526 : Cond.code yX6_signs cX6_signs 3 (some .int) ∈ lw_good := lw_mem 575 (by decide +kernel)
theorem q_527 : Cond.methodLink RX6 34 yX6_get ∈ lw_good := lw_mem 576 (by decide +kernel)
theorem q_528 : Cond.methodLink RX6 38 yX5_signsOf ∈ lw_good := lw_mem 577 (by decide +kernel)
theorem q_529 : Cond.static yX5_signsOf ∈ lw_good := lw_mem 578 (by decide +kernel)
theorem q_530 : Cond.code yX5_signsOf cX5_signsOf 1 (some .int) ∈ lw_good := lw_mem 579 (by decide +kernel)
theorem q_531 : Cond.methodLink RX5 9 yX5_isPlain ∈ lw_good := lw_mem 580 (by decide +kernel)
theorem q_532 : Cond.methodLink RL 73 yX7_codeOf ∈ lw_good := lw_mem 581 (by decide +kernel)
theorem q_533 : Cond.instanceMethod yX7_codeOf ∈ lw_good := lw_mem 582 (by decide +kernel)
theorem q_534 : Cond.selects RX7 yX7_codeOf yX7_codeOf ∈ lw_good := lw_mem 583 (by decide +kernel)
theorem q_535 : Cond.code yX7_codeOf cX7_codeOf 2 (some .int) ∈ lw_good := lw_mem 584 (by decide +kernel)
theorem q_536 : Cond.methodLink RX7 188 yX6_signAt ∈ lw_good := lw_mem 585 (by decide +kernel)
theorem q_537 : Cond.instanceMethod yX6_signAt ∈ lw_good := lw_mem 586 (by decide +kernel)
theorem q_538 : Cond.selects RX6 yX6_signAt yX6_signAt ∈ lw_good := lw_mem 587 (by decide +kernel)
theorem q_539 : Cond.code yX6_signAt cX6_signAt 5 (some .int) ∈ lw_good := lw_mem 588 (by decide +kernel)
theorem q_540 : Cond.methodLink RX6 41 yX5_signOf ∈ lw_good := lw_mem 589 (by decide +kernel)
theorem q_541 : Cond.static yX5_signOf ∈ lw_good := lw_mem 590 (by decide +kernel)
theorem q_542 : Cond.code yX5_signOf cX5_signOf 2 (some .int) ∈ lw_good := lw_mem 591 (by decide +kernel)
theorem q_543 : Cond.methodLink RX5 15 yX5_lengthOf ∈ lw_good := lw_mem 592 (by decide +kernel)
theorem q_544 : Cond.methodLink RX5 19 yX5_isCopy ∈ lw_good := lw_mem 593 (by decide +kernel)
theorem q_545 : Cond.methodLink RX5 22 yX5_distanceOf ∈ lw_good := lw_mem 594 (by decide +kernel)
theorem q_546 : Cond.methodLink RL 77 yX7_greedy ∈ lw_good := lw_mem 595 (by decide +kernel)
theorem q_547 : Cond.instanceMethod yX7_greedy ∈ lw_good := lw_mem 596 (by decide +kernel)
theorem q_548 : Cond.selects RX7 yX7_greedy yX7_greedy ∈ lw_good := lw_mem 597 (by decide +kernel)
theorem q_549 : Cond.code yX7_greedy cX7_greedy 2 (some .int) ∈ lw_good := lw_mem 598 (by decide +kernel)
theorem q_550 : Cond.methodLink RX7 189 yX7_chooseGreedy ∈ lw_good := lw_mem 599 (by decide +kernel)
theorem q_552 : Cond.instanceMethod yX7_chooseGreedy ∈ lw_good := lw_mem 601 (by decide +kernel)
theorem q_553 : Cond.code yX7_chooseGreedy cX7_chooseGreedy 5 none ∈ lw_good := lw_mem 602 (by decide +kernel)
theorem q_554 : Cond.methodLink RX7 241 yX6_clear ∈ lw_good := lw_mem 603 (by decide +kernel)
theorem q_555 : Cond.methodLink RX7 242 yX6_add ∈ lw_good := lw_mem 604 (by decide +kernel)
theorem q_556 : Cond.methodLink RX7 243 yX5_again ∈ lw_good := lw_mem 605 (by decide +kernel)
theorem q_557 : Cond.methodLink RX7 248 yX5_copy ∈ lw_good := lw_mem 606 (by decide +kernel)
theorem q_558 : Cond.methodLink RX7 251 yJ9_max_7cf53 ∈ lw_good := lw_mem 607 (by decide +kernel)
theorem q_559 : Cond.methodLink RL 81 yX7_parts ∈ lw_good := lw_mem 608 (by decide +kernel)
theorem q_560 : Cond.instanceMethod yX7_parts ∈ lw_good := lw_mem 609 (by decide +kernel)
theorem q_561 : Cond.selects RX7 yX7_parts yX7_parts ∈ lw_good := lw_mem 610 (by decide +kernel)
theorem q_562 : Cond.code yX7_parts cX7_parts 4 (some .int) ∈ lw_good := lw_mem 611 (by decide +kernel)
theorem q_563 : Cond.methodLink RX7 192 yX7_priceOfParts ∈ lw_good := lw_mem 612 (by decide +kernel)
theorem q_565 : Cond.instanceMethod yX7_priceOfParts ∈ lw_good := lw_mem 614 (by decide +kernel)
theorem q_566 : Cond.code yX7_priceOfParts cX7_priceOfParts 5 (some .int) ∈ lw_good := lw_mem 615 (by decide +kernel)
theorem q_567 : Cond.methodLink RX7 256 yJ9_min_7cf53 ∈ lw_good := lw_mem 616 (by decide +kernel)
theorem q_568 : Cond.methodLink RL 85 yX7_count ∈ lw_good := lw_mem 617 (by decide +kernel)
theorem q_569 : Cond.instanceMethod yX7_count ∈ lw_good := lw_mem 618 (by decide +kernel)
theorem q_570 : Cond.selects RX7 yX7_count yX7_count ∈ lw_good := lw_mem 619 (by decide +kernel)
theorem q_571 : Cond.code yX7_count cX7_count 2 (some .int) ∈ lw_good := lw_mem 620 (by decide +kernel)
theorem q_572 : Cond.methodLink RX7 195 yX6_plains ∈ lw_good := lw_mem 621 (by decide +kernel)
theorem q_573 : Cond.methodLink RX7 198 yX6_agains ∈ lw_good := lw_mem 622 (by decide +kernel)
theorem q_574 : Cond.methodLink RX7 201 yX6_copies ∈ lw_good := lw_mem 623 (by decide +kernel)
theorem q_575 : Cond.methodLink RL 89 yX7_digest ∈ lw_good := lw_mem 624 (by decide +kernel)
theorem q_576 : Cond.instanceMethod yX7_digest ∈ lw_good := lw_mem 625 (by decide +kernel)
theorem q_577 : Cond.selects RX7 yX7_digest yX7_digest ∈ lw_good := lw_mem 626 (by decide +kernel)
theorem q_578 : Cond.code yX7_digest cX7_digest 5 (some .long) ∈ lw_good := lw_mem 627 (by decide +kernel)
theorem q_579 : Cond.constantLong RX7 204 1747 ∈ lw_good := lw_mem 628 (by decide +kernel)
theorem q_580 : Cond.methodLink RX7 206 yX7_mix ∈ lw_good := lw_mem 629 (by decide +kernel)
theorem q_581 : Cond.static yX7_mix ∈ lw_good := lw_mem 630 (by decide +kernel)
theorem q_582 : Cond.code yX7_mix cX7_mix 4 (some .long) ∈ lw_good := lw_mem 631 (by decide +kernel)
theorem q_583 : Cond.constantLong RX7 263 31 ∈ lw_good := lw_mem 632 (by decide +kernel)
theorem q_584 : Cond.methodLink RX7 210 yX7_at ∈ lw_good := lw_mem 633 (by decide +kernel)
theorem q_585 : Cond.methodLink RX7 213 yX7_longest ∈ lw_good := lw_mem 634 (by decide +kernel)
theorem q_586 : Cond.methodLink RX7 216 yX7_chain ∈ lw_good := lw_mem 635 (by decide +kernel)
theorem q_587 : Cond.methodLink RX7 219 yX7_cheapest ∈ lw_good := lw_mem 636 (by decide +kernel)
theorem q_588 : Cond.methodLink RX7 222 yX7_greedy ∈ lw_good := lw_mem 637 (by decide +kernel)
theorem q_589 : Cond.methodLink RX7 225 yX7_rest ∈ lw_good := lw_mem 638 (by decide +kernel)
theorem q_590 : Cond.methodLink RX7 228 yX7_parts ∈ lw_good := lw_mem 639 (by decide +kernel)
theorem q_591 : Cond.methodLink RX7 231 yX7_count ∈ lw_good := lw_mem 640 (by decide +kernel)
theorem q_592 : Cond.classLink RL 10 RX8 ∈ lw_good := lw_mem 641 (by decide +kernel)
theorem q_593 : Cond.instantiable RX8 24 ∈ lw_good := lw_mem 642 (by decide +kernel)
theorem q_594 : Cond.methodLink RL 12 yX8_init ∈ lw_good := lw_mem 643 (by decide +kernel)
theorem q_595 : Cond.instanceMethod yX8_init ∈ lw_good := lw_mem 644 (by decide +kernel)
theorem q_596 : Cond.code yX8_init cX8_init 2 none ∈ lw_good := lw_mem 645 (by decide +kernel)
theorem q_597 : Cond.methodLink RX8 1 objectInit ∈ lw_good := lw_mem 646 (by decide +kernel)
theorem q_598 : Cond.fieldLink RX8 53 "PricedCopiesModel" "pageLength" "I" ∈ lw_good := lw_mem 647 (by decide +kernel)
theorem q_599 : Cond.fieldLink RX8 7 "PricedCopiesModel" "page" "[I" ∈ lw_good := lw_mem 648 (by decide +kernel)
theorem q_600 : Cond.fieldLink RX8 92 "PricedCopiesModel" "size" "I" ∈ lw_good := lw_mem 649 (by decide +kernel)
theorem q_601 : Cond.fieldLink RX8 13 "PricedCopiesModel" "text" "[I" ∈ lw_good := lw_mem 650 (by decide +kernel)
theorem q_602 : Cond.fieldLink RX8 16 "PricedCopiesModel" "prices" "[I" ∈ lw_good := lw_mem 651 (by decide +kernel)
theorem q_603 : Cond.fieldLink RX8 175 "PricedCopiesModel" "rounds" "I" ∈ lw_good := lw_mem 652 (by decide +kernel)
theorem q_604 : Cond.fieldLink RX8 95 "PricedCopiesModel" "texts" "I" ∈ lw_good := lw_mem 653 (by decide +kernel)
theorem q_605 : Cond.fieldLink RX8 98 "PricedCopiesModel" "codes" "I" ∈ lw_good := lw_mem 654 (by decide +kernel)
theorem q_606 : Cond.fieldLink RX8 19 "PricedCopiesModel" "made" "[I" ∈ lw_good := lw_mem 655 (by decide +kernel)
theorem q_607 : Cond.fieldLink RX8 61 "PricedCopiesModel" "madeMany" "I" ∈ lw_good := lw_mem 656 (by decide +kernel)
theorem q_608 : Cond.fieldLink RX8 64 "PricedCopiesModel" "cost" "I" ∈ lw_good := lw_mem 657 (by decide +kernel)
theorem q_609 : Cond.fieldLink RX8 67 "PricedCopiesModel" "readAt" "I" ∈ lw_good := lw_mem 658 (by decide +kernel)
theorem q_610 : Cond.fieldLink RX8 70 "PricedCopiesModel" "isCode" "Z" ∈ lw_good := lw_mem 659 (by decide +kernel)
theorem q_611 : Cond.fieldLink RX8 22 "PricedCopiesModel" "price" "[I" ∈ lw_good := lw_mem 660 (by decide +kernel)
theorem q_612 : Cond.fieldLink RX8 25 "PricedCopiesModel" "many" "[I" ∈ lw_good := lw_mem 661 (by decide +kernel)
theorem q_613 : Cond.fieldLink RX8 28 "PricedCopiesModel" "first" "[I" ∈ lw_good := lw_mem 662 (by decide +kernel)
theorem q_614 : Cond.fieldLink RX8 31 "PricedCopiesModel" "like" "[I" ∈ lw_good := lw_mem 663 (by decide +kernel)
theorem q_615 : Cond.fieldLink RX8 34 "PricedCopiesModel" "token" "[I" ∈ lw_good := lw_mem 664 (by decide +kernel)
theorem q_616 : Cond.fieldLink RX8 133 "PricedCopiesModel" "tokens" "I" ∈ lw_good := lw_mem 665 (by decide +kernel)
theorem q_617 : Cond.fieldLink RX8 37 "PricedCopiesModel" "taken" "[I" ∈ lw_good := lw_mem 666 (by decide +kernel)
theorem q_618 : Cond.fieldLink RX8 40 "PricedCopiesModel" "then" "[I" ∈ lw_good := lw_mem 667 (by decide +kernel)
theorem q_619 : Cond.fieldLink RX8 43 "PricedCopiesModel" "saved" "[I" ∈ lw_good := lw_mem 668 (by decide +kernel)
theorem q_620 : Cond.fieldLink RX8 46 "PricedCopiesModel" "rests" "[I" ∈ lw_good := lw_mem 669 (by decide +kernel)
theorem q_621 : Cond.fieldLink RX8 192 "PricedCopiesModel" "h" "J" ∈ lw_good := lw_mem 670 (by decide +kernel)
theorem q_622 : Cond.lays RX8 "PricedCopiesModel" "pageLength" "I" ∈ lw_good := lw_mem 671 (by decide +kernel)
theorem q_624 : Cond.laysFinal RX8 "PricedCopiesModel" "page" "[I" ∈ lw_good := lw_mem 673 (by decide +kernel)
theorem q_626 : Cond.lays RX8 "PricedCopiesModel" "size" "I" ∈ lw_good := lw_mem 675 (by decide +kernel)
theorem q_628 : Cond.laysFinal RX8 "PricedCopiesModel" "text" "[I" ∈ lw_good := lw_mem 677 (by decide +kernel)
theorem q_630 : Cond.laysFinal RX8 "PricedCopiesModel" "prices" "[I" ∈ lw_good := lw_mem 679 (by decide +kernel)
theorem q_632 : Cond.lays RX8 "PricedCopiesModel" "rounds" "I" ∈ lw_good := lw_mem 681 (by decide +kernel)
theorem q_634 : Cond.lays RX8 "PricedCopiesModel" "texts" "I" ∈ lw_good := lw_mem 683 (by decide +kernel)
theorem q_636 : Cond.lays RX8 "PricedCopiesModel" "codes" "I" ∈ lw_good := lw_mem 685 (by decide +kernel)
theorem q_638 : Cond.laysFinal RX8 "PricedCopiesModel" "made" "[I" ∈ lw_good := lw_mem 687 (by decide +kernel)
theorem q_640 : Cond.lays RX8 "PricedCopiesModel" "madeMany" "I" ∈ lw_good := lw_mem 689 (by decide +kernel)
theorem q_642 : Cond.lays RX8 "PricedCopiesModel" "cost" "I" ∈ lw_good := lw_mem 691 (by decide +kernel)
theorem q_644 : Cond.lays RX8 "PricedCopiesModel" "readAt" "I" ∈ lw_good := lw_mem 693 (by decide +kernel)
theorem q_646 : Cond.lays RX8 "PricedCopiesModel" "isCode" "Z" ∈ lw_good := lw_mem 695 (by decide +kernel)
theorem q_648 : Cond.laysFinal RX8 "PricedCopiesModel" "price" "[I" ∈ lw_good := lw_mem 697 (by decide +kernel)
theorem q_650 : Cond.laysFinal RX8 "PricedCopiesModel" "many" "[I" ∈ lw_good := lw_mem 699 (by decide +kernel)
theorem q_652 : Cond.laysFinal RX8 "PricedCopiesModel" "first" "[I" ∈ lw_good := lw_mem 701 (by decide +kernel)
theorem q_654 : Cond.laysFinal RX8 "PricedCopiesModel" "like" "[I" ∈ lw_good := lw_mem 703 (by decide +kernel)
theorem q_656 : Cond.laysFinal RX8 "PricedCopiesModel" "token" "[I" ∈ lw_good := lw_mem 705 (by decide +kernel)
theorem q_658 : Cond.lays RX8 "PricedCopiesModel" "tokens" "I" ∈ lw_good := lw_mem 707 (by decide +kernel)
theorem q_660 : Cond.laysFinal RX8 "PricedCopiesModel" "taken" "[I" ∈ lw_good := lw_mem 709 (by decide +kernel)
theorem q_662 : Cond.laysFinal RX8 "PricedCopiesModel" "then" "[I" ∈ lw_good := lw_mem 711 (by decide +kernel)
theorem q_664 : Cond.laysFinal RX8 "PricedCopiesModel" "saved" "[I" ∈ lw_good := lw_mem 713 (by decide +kernel)
theorem q_666 : Cond.laysFinal RX8 "PricedCopiesModel" "rests" "[I" ∈ lw_good := lw_mem 715 (by decide +kernel)
theorem q_668 : Cond.lays RX8 "PricedCopiesModel" "h" "J" ∈ lw_good := lw_mem 717 (by decide +kernel)
theorem q_671 : Cond.methodLink RL 17 yX8_letter ∈ lw_good := lw_mem 720 (by decide +kernel)
theorem q_672 : Cond.instanceMethod yX8_letter ∈ lw_good := lw_mem 721 (by decide +kernel)
theorem q_673 : Cond.selects RX8 yX8_letter yX8_letter ∈ lw_good := lw_mem 722 (by decide +kernel)
theorem q_674 : Cond.code yX8_letter cX8_letter 2 (some .int) ∈ lw_good := lw_mem 723 (by decide +kernel)
theorem q_675 : Cond.methodLink RX8 49 yX8_within ∈ lw_good := lw_mem 724 (by decide +kernel)
theorem q_676 : Cond.static yX8_within ∈ lw_good := lw_mem 725 (by decide +kernel)
theorem q_677 : Cond.code yX8_within cX8_within 3 (some .boolean) ∈ lw_good := lw_mem 726 (by decide +kernel)
theorem q_678 : Cond.methodLink RL 22 yX8_blank ∈ lw_good := lw_mem 727 (by decide +kernel)
theorem q_679 : Cond.instanceMethod yX8_blank ∈ lw_good := lw_mem 728 (by decide +kernel)
theorem q_680 : Cond.selects RX8 yX8_blank yX8_blank ∈ lw_good := lw_mem 729 (by decide +kernel)
theorem q_681 : Cond.code yX8_blank cX8_blank 2 (some .int) ∈ lw_good := lw_mem 730 (by decide +kernel)
theorem q_682 : Cond.methodLink RL 27 yX8_fault ∈ lw_good := lw_mem 731 (by decide +kernel)
theorem q_683 : Cond.instanceMethod yX8_fault ∈ lw_good := lw_mem 732 (by decide +kernel)
theorem q_684 : Cond.selects RX8 yX8_fault yX8_fault ∈ lw_good := lw_mem 733 (by decide +kernel)
theorem q_685 : Cond.code yX8_fault cX8_fault 2 (some .int) ∈ lw_good := lw_mem 734 (by decide +kernel)
theorem q_686 : Cond.methodLink RX8 85 yX8_textFault ∈ lw_good := lw_mem 735 (by decide +kernel)
theorem q_688 : Cond.instanceMethod yX8_textFault ∈ lw_good := lw_mem 737 (by decide +kernel)
theorem q_689 : Cond.code yX8_textFault cX8_textFault 2 (some .int) ∈ lw_good := lw_mem 738 (by decide +kernel)
theorem q_690 : Cond.methodLink RX8 89 yX8_readCode ∈ lw_good := lw_mem 739 (by decide +kernel)
theorem q_692 : Cond.instanceMethod yX8_readCode ∈ lw_good := lw_mem 741 (by decide +kernel)
theorem q_693 : Cond.code yX8_readCode cX8_readCode 9 none ∈ lw_good := lw_mem 742 (by decide +kernel)
theorem q_694 : Cond.methodLink RX8 74 yX8_copy ∈ lw_good := lw_mem 743 (by decide +kernel)
theorem q_696 : Cond.instanceMethod yX8_copy ∈ lw_good := lw_mem 745 (by decide +kernel)
theorem q_697 : Cond.code yX8_copy cX8_copy 4 none ∈ lw_good := lw_mem 746 (by decide +kernel)
theorem q_698 : Cond.methodLink RX8 78 yX8_againPrice ∈ lw_good := lw_mem 747 (by decide +kernel)
theorem q_700 : Cond.instanceMethod yX8_againPrice ∈ lw_good := lw_mem 749 (by decide +kernel)
theorem q_701 : Cond.code yX8_againPrice cX8_againPrice 2 (some .int) ∈ lw_good := lw_mem 750 (by decide +kernel)
theorem q_702 : Cond.methodLink RX8 81 yX8_copyPrice ∈ lw_good := lw_mem 751 (by decide +kernel)
theorem q_704 : Cond.instanceMethod yX8_copyPrice ∈ lw_good := lw_mem 753 (by decide +kernel)
theorem q_705 : Cond.code yX8_copyPrice cX8_copyPrice 3 (some .int) ∈ lw_good := lw_mem 754 (by decide +kernel)
theorem q_706 : Cond.methodLink RX8 57 yX8_farOf ∈ lw_good := lw_mem 755 (by decide +kernel)
theorem q_707 : Cond.static yX8_farOf ∈ lw_good := lw_mem 756 (by decide +kernel)
theorem q_708 : Cond.code yX8_farOf cX8_farOf 1 (some .int) ∈ lw_good := lw_mem 757 (by decide +kernel)
theorem q_709 : Cond.methodLink RL 31 yX8_text ∈ lw_good := lw_mem 758 (by decide +kernel)
theorem q_710 : Cond.instanceMethod yX8_text ∈ lw_good := lw_mem 759 (by decide +kernel)
theorem q_711 : Cond.selects RX8 yX8_text yX8_text ∈ lw_good := lw_mem 760 (by decide +kernel)
theorem q_712 : Cond.code yX8_text cX8_text 2 (some .int) ∈ lw_good := lw_mem 761 (by decide +kernel)
theorem q_713 : Cond.methodLink RL 35 yX8_decode ∈ lw_good := lw_mem 762 (by decide +kernel)
theorem q_714 : Cond.instanceMethod yX8_decode ∈ lw_good := lw_mem 763 (by decide +kernel)
theorem q_715 : Cond.selects RX8 yX8_decode yX8_decode ∈ lw_good := lw_mem 764 (by decide +kernel)
theorem q_716 : Cond.code yX8_decode cX8_decode 2 (some .int) ∈ lw_good := lw_mem 765 (by decide +kernel)
theorem q_717 : Cond.methodLink RL 39 yX8_priced ∈ lw_good := lw_mem 766 (by decide +kernel)
theorem q_718 : Cond.instanceMethod yX8_priced ∈ lw_good := lw_mem 767 (by decide +kernel)
theorem q_719 : Cond.selects RX8 yX8_priced yX8_priced ∈ lw_good := lw_mem 768 (by decide +kernel)
theorem q_720 : Cond.code yX8_priced cX8_priced 1 (some .int) ∈ lw_good := lw_mem 769 (by decide +kernel)
theorem q_721 : Cond.methodLink RL 44 yX8_price ∈ lw_good := lw_mem 770 (by decide +kernel)
theorem q_722 : Cond.instanceMethod yX8_price ∈ lw_good := lw_mem 771 (by decide +kernel)
theorem q_723 : Cond.selects RX8 yX8_price yX8_price ∈ lw_good := lw_mem 772 (by decide +kernel)
theorem q_724 : Cond.code yX8_price cX8_price 4 (some .int) ∈ lw_good := lw_mem 773 (by decide +kernel)
theorem q_725 : Cond.methodLink RX8 101 yX8_isPrice ∈ lw_good := lw_mem 774 (by decide +kernel)
theorem q_726 : Cond.static yX8_isPrice ∈ lw_good := lw_mem 775 (by decide +kernel)
theorem q_727 : Cond.code yX8_isPrice cX8_isPrice 1 (some .boolean) ∈ lw_good := lw_mem 776 (by decide +kernel)
theorem q_728 : Cond.methodLink RL 48 yX8_priceOf ∈ lw_good := lw_mem 777 (by decide +kernel)
theorem q_729 : Cond.instanceMethod yX8_priceOf ∈ lw_good := lw_mem 778 (by decide +kernel)
theorem q_730 : Cond.selects RX8 yX8_priceOf yX8_priceOf ∈ lw_good := lw_mem 779 (by decide +kernel)
theorem q_731 : Cond.code yX8_priceOf cX8_priceOf 2 (some .int) ∈ lw_good := lw_mem 780 (by decide +kernel)
theorem q_732 : Cond.methodLink RL 60 yX8_at ∈ lw_good := lw_mem 781 (by decide +kernel)
theorem q_733 : Cond.instanceMethod yX8_at ∈ lw_good := lw_mem 782 (by decide +kernel)
theorem q_734 : Cond.selects RX8 yX8_at yX8_at ∈ lw_good := lw_mem 783 (by decide +kernel)
theorem q_735 : Cond.code yX8_at cX8_at 2 (some .int) ∈ lw_good := lw_mem 784 (by decide +kernel)
theorem q_736 : Cond.methodLink RX8 105 yX8_isPlace ∈ lw_good := lw_mem 785 (by decide +kernel)
theorem q_738 : Cond.instanceMethod yX8_isPlace ∈ lw_good := lw_mem 787 (by decide +kernel)
theorem q_739 : Cond.code yX8_isPlace cX8_isPlace 2 (some .boolean) ∈ lw_good := lw_mem 788 (by decide +kernel)
theorem q_740 : Cond.methodLink RL 64 yX8_longest ∈ lw_good := lw_mem 789 (by decide +kernel)
theorem q_741 : Cond.instanceMethod yX8_longest ∈ lw_good := lw_mem 790 (by decide +kernel)
theorem q_742 : Cond.selects RX8 yX8_longest yX8_longest ∈ lw_good := lw_mem 791 (by decide +kernel)
theorem q_743 : Cond.code yX8_longest cX8_longest 3 (some .int) ∈ lw_good := lw_mem 792 (by decide +kernel)
theorem q_744 : Cond.methodLink RX8 115 yX8_longestNow ∈ lw_good := lw_mem 793 (by decide +kernel)
theorem q_746 : Cond.instanceMethod yX8_longestNow ∈ lw_good := lw_mem 795 (by decide +kernel)
theorem q_747 : Cond.code yX8_longestNow cX8_longestNow 4 (some .int) ∈ lw_good := lw_mem 796 (by decide +kernel)
theorem q_748 : Cond.methodLink RX8 112 yX8_farLongest ∈ lw_good := lw_mem 797 (by decide +kernel)
theorem q_750 : Cond.instanceMethod yX8_farLongest ∈ lw_good := lw_mem 799 (by decide +kernel)
theorem q_751 : Cond.code yX8_farLongest cX8_farLongest 6 (some .int) ∈ lw_good := lw_mem 800 (by decide +kernel)
theorem q_752 : Cond.methodLink RX8 108 yX8_likeness ∈ lw_good := lw_mem 801 (by decide +kernel)
theorem q_754 : Cond.instanceMethod yX8_likeness ∈ lw_good := lw_mem 803 (by decide +kernel)
theorem q_755 : Cond.code yX8_likeness cX8_likeness 5 (some .int) ∈ lw_good := lw_mem 804 (by decide +kernel)
theorem q_756 : Cond.methodLink RL 68 yX8_chain ∈ lw_good := lw_mem 805 (by decide +kernel)
theorem q_757 : Cond.instanceMethod yX8_chain ∈ lw_good := lw_mem 806 (by decide +kernel)
theorem q_758 : Cond.selects RX8 yX8_chain yX8_chain ∈ lw_good := lw_mem 807 (by decide +kernel)
theorem q_759 : Cond.code yX8_chain cX8_chain 3 (some .int) ∈ lw_good := lw_mem 808 (by decide +kernel)
theorem q_760 : Cond.methodLink RX8 118 yX8_chainNow ∈ lw_good := lw_mem 809 (by decide +kernel)
theorem q_762 : Cond.instanceMethod yX8_chainNow ∈ lw_good := lw_mem 811 (by decide +kernel)
theorem q_763 : Cond.code yX8_chainNow cX8_chainNow 5 (some .int) ∈ lw_good := lw_mem 812 (by decide +kernel)
theorem q_764 : Cond.methodLink RL 72 yX8_cheapest ∈ lw_good := lw_mem 813 (by decide +kernel)
theorem q_765 : Cond.instanceMethod yX8_cheapest ∈ lw_good := lw_mem 814 (by decide +kernel)
theorem q_766 : Cond.selects RX8 yX8_cheapest yX8_cheapest ∈ lw_good := lw_mem 815 (by decide +kernel)
theorem q_767 : Cond.code yX8_cheapest cX8_cheapest 2 (some .int) ∈ lw_good := lw_mem 816 (by decide +kernel)
theorem q_768 : Cond.methodLink RX8 142 yX8_layTokens ∈ lw_good := lw_mem 817 (by decide +kernel)
theorem q_770 : Cond.instanceMethod yX8_layTokens ∈ lw_good := lw_mem 819 (by decide +kernel)
theorem q_771 : Cond.code yX8_layTokens cX8_layTokens 4 none ∈ lw_good := lw_mem 820 (by decide +kernel)
theorem q_772 : Cond.methodLink RX8 130 yX8_layCheapest ∈ lw_good := lw_mem 821 (by decide +kernel)
theorem q_774 : Cond.instanceMethod yX8_layCheapest ∈ lw_good := lw_mem 823 (by decide +kernel)
theorem q_775 : Cond.code yX8_layCheapest cX8_layCheapest 5 (some .int) ∈ lw_good := lw_mem 824 (by decide +kernel)
theorem q_776 : Cond.methodLink RX8 126 yX8_layState ∈ lw_good := lw_mem 825 (by decide +kernel)
theorem q_778 : Cond.instanceMethod yX8_layState ∈ lw_good := lw_mem 827 (by decide +kernel)
theorem q_779 : Cond.code yX8_layState cX8_layState 9 none ∈ lw_good := lw_mem 828 (by decide +kernel)
theorem q_780 : Cond.constant RX8 121 268435456 ∈ lw_good := lw_mem 829 (by decide +kernel)
theorem q_781 : Cond.methodLink RX8 122 yX8_way ∈ lw_good := lw_mem 830 (by decide +kernel)
theorem q_783 : Cond.instanceMethod yX8_way ∈ lw_good := lw_mem 832 (by decide +kernel)
theorem q_784 : Cond.code yX8_way cX8_way 8 none ∈ lw_good := lw_mem 833 (by decide +kernel)
theorem q_785 : Cond.methodLink RX8 136 yX8_lengthOf ∈ lw_good := lw_mem 834 (by decide +kernel)
theorem q_786 : Cond.static yX8_lengthOf ∈ lw_good := lw_mem 835 (by decide +kernel)
theorem q_787 : Cond.code yX8_lengthOf cX8_lengthOf 1 (some .int) ∈ lw_good := lw_mem 836 (by decide +kernel)
theorem q_788 : Cond.methodLink RX8 145 yX8_cheapestTold ∈ lw_good := lw_mem 837 (by decide +kernel)
theorem q_790 : Cond.instanceMethod yX8_cheapestTold ∈ lw_good := lw_mem 839 (by decide +kernel)
theorem q_791 : Cond.code yX8_cheapestTold cX8_cheapestTold 2 (some .int) ∈ lw_good := lw_mem 840 (by decide +kernel)
theorem q_792 : Cond.methodLink RX8 139 yX8_lettersOf ∈ lw_good := lw_mem 841 (by decide +kernel)
theorem q_794 : Cond.instanceMethod yX8_lettersOf ∈ lw_good := lw_mem 843 (by decide +kernel)
theorem q_795 : Cond.code yX8_lettersOf cX8_lettersOf 3 (some .int) ∈ lw_good := lw_mem 844 (by decide +kernel)
theorem q_796 : Cond.methodLink RL 76 yX8_codeOf ∈ lw_good := lw_mem 845 (by decide +kernel)
theorem q_797 : Cond.instanceMethod yX8_codeOf ∈ lw_good := lw_mem 846 (by decide +kernel)
theorem q_798 : Cond.selects RX8 yX8_codeOf yX8_codeOf ∈ lw_good := lw_mem 847 (by decide +kernel)
theorem q_799 : Cond.code yX8_codeOf cX8_codeOf 2 (some .int) ∈ lw_good := lw_mem 848 (by decide +kernel)
theorem q_800 : Cond.methodLink RX8 148 yX8_codeNow ∈ lw_good := lw_mem 849 (by decide +kernel)
theorem q_802 : Cond.instanceMethod yX8_codeNow ∈ lw_good := lw_mem 851 (by decide +kernel)
theorem q_803 : Cond.code yX8_codeNow cX8_codeNow 5 (some .int) ∈ lw_good := lw_mem 852 (by decide +kernel)
theorem q_804 : Cond.methodLink RL 80 yX8_greedy ∈ lw_good := lw_mem 853 (by decide +kernel)
theorem q_805 : Cond.instanceMethod yX8_greedy ∈ lw_good := lw_mem 854 (by decide +kernel)
theorem q_806 : Cond.selects RX8 yX8_greedy yX8_greedy ∈ lw_good := lw_mem 855 (by decide +kernel)
theorem q_807 : Cond.code yX8_greedy cX8_greedy 2 (some .int) ∈ lw_good := lw_mem 856 (by decide +kernel)
theorem q_808 : Cond.methodLink RX8 151 yX8_greedyNow ∈ lw_good := lw_mem 857 (by decide +kernel)
theorem q_810 : Cond.instanceMethod yX8_greedyNow ∈ lw_good := lw_mem 859 (by decide +kernel)
theorem q_811 : Cond.code yX8_greedyNow cX8_greedyNow 8 (some .int) ∈ lw_good := lw_mem 860 (by decide +kernel)
theorem q_812 : Cond.methodLink RL 84 yX8_parts ∈ lw_good := lw_mem 861 (by decide +kernel)
theorem q_813 : Cond.instanceMethod yX8_parts ∈ lw_good := lw_mem 862 (by decide +kernel)
theorem q_814 : Cond.selects RX8 yX8_parts yX8_parts ∈ lw_good := lw_mem 863 (by decide +kernel)
theorem q_815 : Cond.code yX8_parts cX8_parts 3 (some .int) ∈ lw_good := lw_mem 864 (by decide +kernel)
theorem q_816 : Cond.methodLink RX8 157 yX8_partsNow ∈ lw_good := lw_mem 865 (by decide +kernel)
theorem q_818 : Cond.instanceMethod yX8_partsNow ∈ lw_good := lw_mem 867 (by decide +kernel)
theorem q_819 : Cond.code yX8_partsNow cX8_partsNow 4 (some .int) ∈ lw_good := lw_mem 868 (by decide +kernel)
theorem q_820 : Cond.methodLink RX8 154 yX8_partsPrice ∈ lw_good := lw_mem 869 (by decide +kernel)
theorem q_822 : Cond.instanceMethod yX8_partsPrice ∈ lw_good := lw_mem 871 (by decide +kernel)
theorem q_823 : Cond.code yX8_partsPrice cX8_partsPrice 4 (some .int) ∈ lw_good := lw_mem 872 (by decide +kernel)
theorem q_824 : Cond.methodLink RL 52 yX8_round ∈ lw_good := lw_mem 873 (by decide +kernel)
theorem q_825 : Cond.instanceMethod yX8_round ∈ lw_good := lw_mem 874 (by decide +kernel)
theorem q_826 : Cond.selects RX8 yX8_round yX8_round ∈ lw_good := lw_mem 875 (by decide +kernel)
theorem q_827 : Cond.code yX8_round cX8_round 1 (some .int) ∈ lw_good := lw_mem 876 (by decide +kernel)
theorem q_828 : Cond.methodLink RX8 178 yX8_roundNow ∈ lw_good := lw_mem 877 (by decide +kernel)
theorem q_830 : Cond.instanceMethod yX8_roundNow ∈ lw_good := lw_mem 879 (by decide +kernel)
theorem q_831 : Cond.code yX8_roundNow cX8_roundNow 2 (some .int) ∈ lw_good := lw_mem 880 (by decide +kernel)
theorem q_832 : Cond.methodLink RX8 169 yX8_layThen ∈ lw_good := lw_mem 881 (by decide +kernel)
theorem q_834 : Cond.instanceMethod yX8_layThen ∈ lw_good := lw_mem 883 (by decide +kernel)
theorem q_835 : Cond.code yX8_layThen cX8_layThen 4 (some .int) ∈ lw_good := lw_mem 884 (by decide +kernel)
theorem q_836 : Cond.methodLink RX8 160 yX8_layTaken ∈ lw_good := lw_mem 885 (by decide +kernel)
theorem q_838 : Cond.instanceMethod yX8_layTaken ∈ lw_good := lw_mem 887 (by decide +kernel)
theorem q_839 : Cond.code yX8_layTaken cX8_layTaken 3 none ∈ lw_good := lw_mem 888 (by decide +kernel)
theorem q_840 : Cond.methodLink RX8 163 yX8_sum ∈ lw_good := lw_mem 889 (by decide +kernel)
theorem q_842 : Cond.instanceMethod yX8_sum ∈ lw_good := lw_mem 891 (by decide +kernel)
theorem q_843 : Cond.code yX8_sum cX8_sum 5 (some .int) ∈ lw_good := lw_mem 892 (by decide +kernel)
theorem q_844 : Cond.methodLink RX8 166 yX8_log ∈ lw_good := lw_mem 893 (by decide +kernel)
theorem q_845 : Cond.static yX8_log ∈ lw_good := lw_mem 894 (by decide +kernel)
theorem q_846 : Cond.code yX8_log cX8_log 3 (some .int) ∈ lw_good := lw_mem 895 (by decide +kernel)
theorem q_847 : Cond.methodLink RX8 172 yX8_become ∈ lw_good := lw_mem 896 (by decide +kernel)
theorem q_849 : Cond.instanceMethod yX8_become ∈ lw_good := lw_mem 898 (by decide +kernel)
theorem q_850 : Cond.code yX8_become cX8_become 2 none ∈ lw_good := lw_mem 899 (by decide +kernel)
theorem q_851 : Cond.methodLink RL 56 yX8_rest ∈ lw_good := lw_mem 900 (by decide +kernel)
theorem q_852 : Cond.instanceMethod yX8_rest ∈ lw_good := lw_mem 901 (by decide +kernel)
theorem q_853 : Cond.selects RX8 yX8_rest yX8_rest ∈ lw_good := lw_mem 902 (by decide +kernel)
theorem q_854 : Cond.code yX8_rest cX8_rest 2 (some .int) ∈ lw_good := lw_mem 903 (by decide +kernel)
theorem q_855 : Cond.methodLink RX8 181 yX8_layRest ∈ lw_good := lw_mem 904 (by decide +kernel)
theorem q_857 : Cond.instanceMethod yX8_layRest ∈ lw_good := lw_mem 906 (by decide +kernel)
theorem q_858 : Cond.code yX8_layRest cX8_layRest 4 none ∈ lw_good := lw_mem 907 (by decide +kernel)
theorem q_859 : Cond.methodLink RL 88 yX8_count ∈ lw_good := lw_mem 908 (by decide +kernel)
theorem q_860 : Cond.instanceMethod yX8_count ∈ lw_good := lw_mem 909 (by decide +kernel)
theorem q_861 : Cond.selects RX8 yX8_count yX8_count ∈ lw_good := lw_mem 910 (by decide +kernel)
theorem q_862 : Cond.code yX8_count cX8_count 2 (some .int) ∈ lw_good := lw_mem 911 (by decide +kernel)
theorem q_863 : Cond.methodLink RX8 187 yX8_howMany ∈ lw_good := lw_mem 912 (by decide +kernel)
theorem q_865 : Cond.instanceMethod yX8_howMany ∈ lw_good := lw_mem 914 (by decide +kernel)
theorem q_866 : Cond.code yX8_howMany cX8_howMany 2 (some .int) ∈ lw_good := lw_mem 915 (by decide +kernel)
theorem q_867 : Cond.methodLink RX8 184 yX8_tokensOf ∈ lw_good := lw_mem 916 (by decide +kernel)
theorem q_869 : Cond.instanceMethod yX8_tokensOf ∈ lw_good := lw_mem 918 (by decide +kernel)
theorem q_870 : Cond.code yX8_tokensOf cX8_tokensOf 5 (some .int) ∈ lw_good := lw_mem 919 (by decide +kernel)
theorem q_871 : Cond.methodLink RL 93 yX8_digest ∈ lw_good := lw_mem 920 (by decide +kernel)
theorem q_872 : Cond.instanceMethod yX8_digest ∈ lw_good := lw_mem 921 (by decide +kernel)
theorem q_873 : Cond.selects RX8 yX8_digest yX8_digest ∈ lw_good := lw_mem 922 (by decide +kernel)
theorem q_874 : Cond.code yX8_digest cX8_digest 2 (some .long) ∈ lw_good := lw_mem 923 (by decide +kernel)
theorem q_875 : Cond.constantLong RX8 200 1747 ∈ lw_good := lw_mem 924 (by decide +kernel)
theorem q_876 : Cond.methodLink RX8 196 yX8_mix ∈ lw_good := lw_mem 925 (by decide +kernel)
theorem q_878 : Cond.instanceMethod yX8_mix ∈ lw_good := lw_mem 927 (by decide +kernel)
theorem q_879 : Cond.code yX8_mix cX8_mix 3 none ∈ lw_good := lw_mem 928 (by decide +kernel)
theorem q_880 : Cond.constantLong RX8 190 31 ∈ lw_good := lw_mem 929 (by decide +kernel)
theorem q_881 : Cond.methodLink RX8 202 yX8_mixText ∈ lw_good := lw_mem 930 (by decide +kernel)
theorem q_883 : Cond.instanceMethod yX8_mixText ∈ lw_good := lw_mem 932 (by decide +kernel)
theorem q_884 : Cond.code yX8_mixText cX8_mixText 2 none ∈ lw_good := lw_mem 933 (by decide +kernel)
theorem in_X0 : ∀ w ∈ u_ws RX0 TX0 4, w ∈ lw_good := by
  intro w hw
  have hw : w ∈ [u_lay RX0 TX0 0, u_lay RX0 TX0 1, u_lay RX0 TX0 2, u_lay RX0 TX0 3] := hw
  simp only [List.mem_cons, List.not_mem_nil, or_false] at hw
  rcases hw with rfl | rfl | rfl | rfl
  · exact q_134
  · exact q_136
  · exact q_138
  · exact q_140
theorem in_X1 : ∀ w ∈ u_ws RX1 TX1 8, w ∈ lw_good := by
  intro w hw
  have hw : w ∈ [u_lay RX1 TX1 0, u_lay RX1 TX1 1, u_lay RX1 TX1 2, u_lay RX1 TX1 3, u_lay RX1 TX1 4, u_lay RX1 TX1 5, u_lay RX1 TX1 6, u_lay RX1 TX1 7] := hw
  simp only [List.mem_cons, List.not_mem_nil, or_false] at hw
  rcases hw with rfl | rfl | rfl | rfl | rfl | rfl | rfl | rfl
  · exact q_66
  · exact q_68
  · exact q_70
  · exact q_72
  · exact q_74
  · exact q_76
  · exact q_78
  · exact q_80
theorem in_X2 : ∀ w ∈ u_ws RX2 TX2 2, w ∈ lw_good := by
  intro w hw
  have hw : w ∈ [u_lay RX2 TX2 0, u_lay RX2 TX2 1] := hw
  simp only [List.mem_cons, List.not_mem_nil, or_false] at hw
  rcases hw with rfl | rfl
  · exact q_27
  · exact q_29
theorem in_X3 : ∀ w ∈ u_ws RX3 TX3 2, w ∈ lw_good := by
  intro w hw
  have hw : w ∈ [u_lay RX3 TX3 0, u_lay RX3 TX3 1] := hw
  simp only [List.mem_cons, List.not_mem_nil, or_false] at hw
  rcases hw with rfl | rfl
  · exact q_118
  · exact q_120
theorem in_X4 : ∀ w ∈ u_ws RX4 TX4 3, w ∈ lw_good := by
  intro w hw
  have hw : w ∈ [u_lay RX4 TX4 0, u_lay RX4 TX4 1, u_lay RX4 TX4 2] := hw
  simp only [List.mem_cons, List.not_mem_nil, or_false] at hw
  rcases hw with rfl | rfl | rfl
  · exact q_94
  · exact q_96
  · exact q_98
theorem in_X6 : ∀ w ∈ u_ws RX6 TX6 4, w ∈ lw_good := by
  intro w hw
  have hw : w ∈ [u_lay RX6 TX6 0, u_lay RX6 TX6 1, u_lay RX6 TX6 2, u_lay RX6 TX6 3] := hw
  simp only [List.mem_cons, List.not_mem_nil, or_false] at hw
  rcases hw with rfl | rfl | rfl | rfl
  · exact q_49
  · exact q_51
  · exact q_53
  · exact q_55
theorem in_X7 : ∀ w ∈ u_ws RX7 TX7 17, w ∈ lw_good := by
  intro w hw
  have hw : w ∈ [u_lay RX7 TX7 0, u_lay RX7 TX7 1, u_lay RX7 TX7 2, u_lay RX7 TX7 3, u_lay RX7 TX7 4, u_lay RX7 TX7 5, u_lay RX7 TX7 6, u_lay RX7 TX7 7, u_lay RX7 TX7 8, u_lay RX7 TX7 9, u_lay RX7 TX7 10, u_lay RX7 TX7 11, u_lay RX7 TX7 12, u_lay RX7 TX7 13, u_lay RX7 TX7 14, u_lay RX7 TX7 15, u_lay RX7 TX7 16] := hw
  simp only [List.mem_cons, List.not_mem_nil, or_false] at hw
  rcases hw with rfl | rfl | rfl | rfl | rfl | rfl | rfl | rfl | rfl | rfl | rfl | rfl | rfl | rfl | rfl | rfl | rfl
  · exact q_162
  · exact q_164
  · exact q_166
  · exact q_168
  · exact q_170
  · exact q_172
  · exact q_174
  · exact q_176
  · exact q_178
  · exact q_180
  · exact q_182
  · exact q_184
  · exact q_186
  · exact q_188
  · exact q_190
  · exact q_192
  · exact q_194
theorem in_X8 : ∀ w ∈ u_ws RX8 TX8 24, w ∈ lw_good := by
  intro w hw
  have hw : w ∈ [u_lay RX8 TX8 0, u_lay RX8 TX8 1, u_lay RX8 TX8 2, u_lay RX8 TX8 3, u_lay RX8 TX8 4, u_lay RX8 TX8 5, u_lay RX8 TX8 6, u_lay RX8 TX8 7, u_lay RX8 TX8 8, u_lay RX8 TX8 9, u_lay RX8 TX8 10, u_lay RX8 TX8 11, u_lay RX8 TX8 12, u_lay RX8 TX8 13, u_lay RX8 TX8 14, u_lay RX8 TX8 15, u_lay RX8 TX8 16, u_lay RX8 TX8 17, u_lay RX8 TX8 18, u_lay RX8 TX8 19, u_lay RX8 TX8 20, u_lay RX8 TX8 21, u_lay RX8 TX8 22, u_lay RX8 TX8 23] := hw
  simp only [List.mem_cons, List.not_mem_nil, or_false] at hw
  rcases hw with rfl | rfl | rfl | rfl | rfl | rfl | rfl | rfl | rfl | rfl | rfl | rfl | rfl | rfl | rfl | rfl | rfl | rfl | rfl | rfl | rfl | rfl | rfl | rfl
  · exact q_622
  · exact q_624
  · exact q_626
  · exact q_628
  · exact q_630
  · exact q_632
  · exact q_634
  · exact q_636
  · exact q_638
  · exact q_640
  · exact q_642
  · exact q_644
  · exact q_646
  · exact q_648
  · exact q_650
  · exact q_652
  · exact q_654
  · exact q_656
  · exact q_658
  · exact q_660
  · exact q_662
  · exact q_664
  · exact q_666
  · exact q_668
end
section
theorem dX0_init_0 : decode cX0_init 0 = .ok (.aload_n 0, 1) := by decide +kernel
theorem dX0_init_1 : decode cX0_init 1 = .ok (.invokespecial 3, 3) := by decide +kernel
theorem dX0_init_4 : decode cX0_init 4 = .ok (.aload_n 0, 1) := by decide +kernel
theorem dX0_init_5 : decode cX0_init 5 = .ok (.bipush 25, 2) := by decide +kernel
theorem dX0_init_7 : decode cX0_init 7 = .ok (.bipush 25, 2) := by decide +kernel
theorem dX0_init_9 : decode cX0_init 9 = .ok (.multianewarray 9 2, 4) := by decide +kernel
theorem dX0_init_13 : decode cX0_init 13 = .ok (.putfield 11, 3) := by decide +kernel
theorem dX0_init_16 : decode cX0_init 16 = .ok (.aload_n 0, 1) := by decide +kernel
theorem dX0_init_17 : decode cX0_init 17 = .ok (.bipush 25, 2) := by decide +kernel
theorem dX0_init_19 : decode cX0_init 19 = .ok (.bipush 25, 2) := by decide +kernel
theorem dX0_init_21 : decode cX0_init 21 = .ok (.multianewarray 9 2, 4) := by decide +kernel
theorem dX0_init_25 : decode cX0_init 25 = .ok (.putfield 16, 3) := by decide +kernel
theorem dX0_init_28 : decode cX0_init 28 = .ok (.aload_n 0, 1) := by decide +kernel
theorem dX0_init_29 : decode cX0_init 29 = .ok (.iconst (-1), 1) := by decide +kernel
theorem dX0_init_30 : decode cX0_init 30 = .ok (.putfield 19, 3) := by decide +kernel
theorem dX0_init_33 : decode cX0_init 33 = .ok (.aload_n 0, 1) := by decide +kernel
theorem dX0_init_34 : decode cX0_init 34 = .ok (.iconst 0, 1) := by decide +kernel
theorem dX0_init_35 : decode cX0_init 35 = .ok (.putfield 23, 3) := by decide +kernel
theorem dX0_init_38 : decode cX0_init 38 = .ok (.return_, 1) := by decide +kernel
theorem dX0_choose_0 : decode cX0_choose 0 = .ok (.aload 5, 2) := by decide +kernel
theorem dX0_choose_2 : decode cX0_choose 2 = .ok (.invokevirtual 26, 3) := by decide +kernel
theorem dX0_choose_5 : decode cX0_choose 5 = .ok (.iload_n 3, 1) := by decide +kernel
theorem dX0_choose_6 : decode cX0_choose 6 = .ok (.ifCond .lt 25, 3) := by decide +kernel
theorem dX0_choose_9 : decode cX0_choose 9 = .ok (.iload_n 3, 1) := by decide +kernel
theorem dX0_choose_10 : decode cX0_choose 10 = .ok (.iload 4, 2) := by decide +kernel
theorem dX0_choose_12 : decode cX0_choose 12 = .ok (.if_icmp .ge 19, 3) := by decide +kernel
theorem dX0_choose_15 : decode cX0_choose 15 = .ok (.iload 4, 2) := by decide +kernel
theorem dX0_choose_17 : decode cX0_choose 17 = .ok (.aload_n 1, 1) := by decide +kernel
theorem dX0_choose_18 : decode cX0_choose 18 = .ok (.invokevirtual 31, 3) := by decide +kernel
theorem dX0_choose_21 : decode cX0_choose 21 = .ok (.if_icmp .gt 10, 3) := by decide +kernel
theorem dX0_choose_24 : decode cX0_choose 24 = .ok (.iload 4, 2) := by decide +kernel
theorem dX0_choose_26 : decode cX0_choose 26 = .ok (.bipush 24, 2) := by decide +kernel
theorem dX0_choose_28 : decode cX0_choose 28 = .ok (.if_icmp .le 4, 3) := by decide +kernel
theorem dX0_choose_31 : decode cX0_choose 31 = .ok (.return_, 1) := by decide +kernel
theorem dX0_choose_32 : decode cX0_choose 32 = .ok (.iconst 0, 1) := by decide +kernel
theorem dX0_choose_33 : decode cX0_choose 33 = .ok (.istore 6, 2) := by decide +kernel
theorem dX0_choose_35 : decode cX0_choose 35 = .ok (.iload 6, 2) := by decide +kernel
theorem dX0_choose_37 : decode cX0_choose 37 = .ok (.iload 4, 2) := by decide +kernel
theorem dX0_choose_39 : decode cX0_choose 39 = .ok (.iload_n 3, 1) := by decide +kernel
theorem dX0_choose_40 : decode cX0_choose 40 = .ok (.isub, 1) := by decide +kernel
theorem dX0_choose_41 : decode cX0_choose 41 = .ok (.if_icmp .gt 20, 3) := by decide +kernel
theorem dX0_choose_44 : decode cX0_choose 44 = .ok (.aload_n 0, 1) := by decide +kernel
theorem dX0_choose_45 : decode cX0_choose 45 = .ok (.getfield 11, 3) := by decide +kernel
theorem dX0_choose_48 : decode cX0_choose 48 = .ok (.iload 4, 2) := by decide +kernel
theorem dX0_choose_50 : decode cX0_choose 50 = .ok (.aaload, 1) := by decide +kernel
theorem dX0_choose_51 : decode cX0_choose 51 = .ok (.iload 6, 2) := by decide +kernel
theorem dX0_choose_53 : decode cX0_choose 53 = .ok (.iconst 0, 1) := by decide +kernel
theorem dX0_choose_54 : decode cX0_choose 54 = .ok (.iastore, 1) := by decide +kernel
theorem dX0_choose_55 : decode cX0_choose 55 = .ok (.iinc 6 1, 3) := by decide +kernel
theorem dX0_choose_58 : decode cX0_choose 58 = .ok (.goto (-23), 3) := by decide +kernel
theorem dX0_choose_61 : decode cX0_choose 61 = .ok (.iload 4, 2) := by decide +kernel
theorem dX0_choose_63 : decode cX0_choose 63 = .ok (.iconst 1, 1) := by decide +kernel
theorem dX0_choose_64 : decode cX0_choose 64 = .ok (.isub, 1) := by decide +kernel
theorem dX0_choose_65 : decode cX0_choose 65 = .ok (.istore 6, 2) := by decide +kernel
theorem dX0_choose_67 : decode cX0_choose 67 = .ok (.iload 6, 2) := by decide +kernel
theorem dX0_choose_69 : decode cX0_choose 69 = .ok (.iload_n 3, 1) := by decide +kernel
theorem dX0_choose_70 : decode cX0_choose 70 = .ok (.if_icmp .lt 31, 3) := by decide +kernel
theorem dX0_choose_73 : decode cX0_choose 73 = .ok (.aload_n 0, 1) := by decide +kernel
theorem dX0_choose_74 : decode cX0_choose 74 = .ok (.aload_n 1, 1) := by decide +kernel
theorem dX0_choose_75 : decode cX0_choose 75 = .ok (.aload_n 2, 1) := by decide +kernel
theorem dX0_choose_76 : decode cX0_choose 76 = .ok (.iload_n 3, 1) := by decide +kernel
theorem dX0_choose_77 : decode cX0_choose 77 = .ok (.iload 4, 2) := by decide +kernel
theorem dX0_choose_79 : decode cX0_choose 79 = .ok (.iload 6, 2) := by decide +kernel
theorem dX0_choose_81 : decode cX0_choose 81 = .ok (.invokevirtual 37, 3) := by decide +kernel
theorem dX0_choose_84 : decode cX0_choose 84 = .ok (.aload_n 0, 1) := by decide +kernel
theorem dX0_choose_85 : decode cX0_choose 85 = .ok (.aload_n 1, 1) := by decide +kernel
theorem dX0_choose_86 : decode cX0_choose 86 = .ok (.aload_n 2, 1) := by decide +kernel
theorem dX0_choose_87 : decode cX0_choose 87 = .ok (.iload_n 3, 1) := by decide +kernel
theorem dX0_choose_88 : decode cX0_choose 88 = .ok (.iload 4, 2) := by decide +kernel
theorem dX0_choose_90 : decode cX0_choose 90 = .ok (.iload 6, 2) := by decide +kernel
theorem dX0_choose_92 : decode cX0_choose 92 = .ok (.invokevirtual 41, 3) := by decide +kernel
theorem dX0_choose_95 : decode cX0_choose 95 = .ok (.iinc 6 (-1), 3) := by decide +kernel
theorem dX0_choose_98 : decode cX0_choose 98 = .ok (.goto (-31), 3) := by decide +kernel
theorem dX0_choose_101 : decode cX0_choose 101 = .ok (.aload_n 0, 1) := by decide +kernel
theorem dX0_choose_102 : decode cX0_choose 102 = .ok (.iload_n 3, 1) := by decide +kernel
theorem dX0_choose_103 : decode cX0_choose 103 = .ok (.iload 4, 2) := by decide +kernel
theorem dX0_choose_105 : decode cX0_choose 105 = .ok (.aload 5, 2) := by decide +kernel
theorem dX0_choose_107 : decode cX0_choose 107 = .ok (.invokevirtual 44, 3) := by decide +kernel
theorem dX0_choose_110 : decode cX0_choose 110 = .ok (.return_, 1) := by decide +kernel
theorem dX0_chooseCopy_0 : decode cX0_chooseCopy 0 = .ok (.aload_n 0, 1) := by decide +kernel
theorem dX0_chooseCopy_1 : decode cX0_chooseCopy 1 = .ok (.iconst (-1), 1) := by decide +kernel
theorem dX0_chooseCopy_2 : decode cX0_chooseCopy 2 = .ok (.putfield 19, 3) := by decide +kernel
theorem dX0_chooseCopy_5 : decode cX0_chooseCopy 5 = .ok (.iconst 1, 1) := by decide +kernel
theorem dX0_chooseCopy_6 : decode cX0_chooseCopy 6 = .ok (.istore 6, 2) := by decide +kernel
theorem dX0_chooseCopy_8 : decode cX0_chooseCopy 8 = .ok (.iload 6, 2) := by decide +kernel
theorem dX0_chooseCopy_10 : decode cX0_chooseCopy 10 = .ok (.iload 5, 2) := by decide +kernel
theorem dX0_chooseCopy_12 : decode cX0_chooseCopy 12 = .ok (.iload_n 3, 1) := by decide +kernel
theorem dX0_chooseCopy_13 : decode cX0_chooseCopy 13 = .ok (.isub, 1) := by decide +kernel
theorem dX0_chooseCopy_14 : decode cX0_chooseCopy 14 = .ok (.if_icmp .gt 77, 3) := by decide +kernel
theorem dX0_chooseCopy_17 : decode cX0_chooseCopy 17 = .ok (.aload_n 1, 1) := by decide +kernel
theorem dX0_chooseCopy_18 : decode cX0_chooseCopy 18 = .ok (.iload 5, 2) := by decide +kernel
theorem dX0_chooseCopy_20 : decode cX0_chooseCopy 20 = .ok (.iload 6, 2) := by decide +kernel
theorem dX0_chooseCopy_22 : decode cX0_chooseCopy 22 = .ok (.invokevirtual 48, 3) := by decide +kernel
theorem dX0_chooseCopy_25 : decode cX0_chooseCopy 25 = .ok (.iload 4, 2) := by decide +kernel
theorem dX0_chooseCopy_27 : decode cX0_chooseCopy 27 = .ok (.iload 5, 2) := by decide +kernel
theorem dX0_chooseCopy_29 : decode cX0_chooseCopy 29 = .ok (.isub, 1) := by decide +kernel
theorem dX0_chooseCopy_30 : decode cX0_chooseCopy 30 = .ok (.invokestatic 52, 3) := by decide +kernel
theorem dX0_chooseCopy_33 : decode cX0_chooseCopy 33 = .ok (.istore 7, 2) := by decide +kernel
theorem dX0_chooseCopy_35 : decode cX0_chooseCopy 35 = .ok (.iconst 2, 1) := by decide +kernel
theorem dX0_chooseCopy_36 : decode cX0_chooseCopy 36 = .ok (.istore 8, 2) := by decide +kernel
theorem dX0_chooseCopy_38 : decode cX0_chooseCopy 38 = .ok (.iload 8, 2) := by decide +kernel
theorem dX0_chooseCopy_40 : decode cX0_chooseCopy 40 = .ok (.iload 7, 2) := by decide +kernel
theorem dX0_chooseCopy_42 : decode cX0_chooseCopy 42 = .ok (.if_icmp .gt 43, 3) := by decide +kernel
theorem dX0_chooseCopy_45 : decode cX0_chooseCopy 45 = .ok (.iload 6, 2) := by decide +kernel
theorem dX0_chooseCopy_47 : decode cX0_chooseCopy 47 = .ok (.iload 8, 2) := by decide +kernel
theorem dX0_chooseCopy_49 : decode cX0_chooseCopy 49 = .ok (.invokestatic 57, 3) := by decide +kernel
theorem dX0_chooseCopy_52 : decode cX0_chooseCopy 52 = .ok (.istore 9, 2) := by decide +kernel
theorem dX0_chooseCopy_54 : decode cX0_chooseCopy 54 = .ok (.aload_n 0, 1) := by decide +kernel
theorem dX0_chooseCopy_55 : decode cX0_chooseCopy 55 = .ok (.iload 9, 2) := by decide +kernel
theorem dX0_chooseCopy_57 : decode cX0_chooseCopy 57 = .ok (.aload_n 2, 1) := by decide +kernel
theorem dX0_chooseCopy_58 : decode cX0_chooseCopy 58 = .ok (.iload 9, 2) := by decide +kernel
theorem dX0_chooseCopy_60 : decode cX0_chooseCopy 60 = .ok (.invokevirtual 62, 3) := by decide +kernel
theorem dX0_chooseCopy_63 : decode cX0_chooseCopy 63 = .ok (.aload_n 0, 1) := by decide +kernel
theorem dX0_chooseCopy_64 : decode cX0_chooseCopy 64 = .ok (.getfield 11, 3) := by decide +kernel
theorem dX0_chooseCopy_67 : decode cX0_chooseCopy 67 = .ok (.iload 5, 2) := by decide +kernel
theorem dX0_chooseCopy_69 : decode cX0_chooseCopy 69 = .ok (.iload 8, 2) := by decide +kernel
theorem dX0_chooseCopy_71 : decode cX0_chooseCopy 71 = .ok (.iadd, 1) := by decide +kernel
theorem dX0_chooseCopy_72 : decode cX0_chooseCopy 72 = .ok (.aaload, 1) := by decide +kernel
theorem dX0_chooseCopy_73 : decode cX0_chooseCopy 73 = .ok (.iload 6, 2) := by decide +kernel
theorem dX0_chooseCopy_75 : decode cX0_chooseCopy 75 = .ok (.iaload, 1) := by decide +kernel
theorem dX0_chooseCopy_76 : decode cX0_chooseCopy 76 = .ok (.invokevirtual 68, 3) := by decide +kernel
theorem dX0_chooseCopy_79 : decode cX0_chooseCopy 79 = .ok (.iinc 8 1, 3) := by decide +kernel
theorem dX0_chooseCopy_82 : decode cX0_chooseCopy 82 = .ok (.goto (-44), 3) := by decide +kernel
theorem dX0_chooseCopy_85 : decode cX0_chooseCopy 85 = .ok (.iinc 6 1, 3) := by decide +kernel
theorem dX0_chooseCopy_88 : decode cX0_chooseCopy 88 = .ok (.goto (-80), 3) := by decide +kernel
theorem dX0_chooseCopy_91 : decode cX0_chooseCopy 91 = .ok (.return_, 1) := by decide +kernel
theorem dX0_chooseFirsts_0 : decode cX0_chooseFirsts 0 = .ok (.aload_n 0, 1) := by decide +kernel
theorem dX0_chooseFirsts_1 : decode cX0_chooseFirsts 1 = .ok (.getfield 19, 3) := by decide +kernel
theorem dX0_chooseFirsts_4 : decode cX0_chooseFirsts 4 = .ok (.istore 6, 2) := by decide +kernel
theorem dX0_chooseFirsts_6 : decode cX0_chooseFirsts 6 = .ok (.aload_n 0, 1) := by decide +kernel
theorem dX0_chooseFirsts_7 : decode cX0_chooseFirsts 7 = .ok (.getfield 23, 3) := by decide +kernel
theorem dX0_chooseFirsts_10 : decode cX0_chooseFirsts 10 = .ok (.istore 7, 2) := by decide +kernel
theorem dX0_chooseFirsts_12 : decode cX0_chooseFirsts 12 = .ok (.aload_n 1, 1) := by decide +kernel
theorem dX0_chooseFirsts_13 : decode cX0_chooseFirsts 13 = .ok (.iload 5, 2) := by decide +kernel
theorem dX0_chooseFirsts_15 : decode cX0_chooseFirsts 15 = .ok (.invokevirtual 72, 3) := by decide +kernel
theorem dX0_chooseFirsts_18 : decode cX0_chooseFirsts 18 = .ok (.istore 8, 2) := by decide +kernel
theorem dX0_chooseFirsts_20 : decode cX0_chooseFirsts 20 = .ok (.iconst 0, 1) := by decide +kernel
theorem dX0_chooseFirsts_21 : decode cX0_chooseFirsts 21 = .ok (.istore 9, 2) := by decide +kernel
theorem dX0_chooseFirsts_23 : decode cX0_chooseFirsts 23 = .ok (.iload 9, 2) := by decide +kernel
theorem dX0_chooseFirsts_25 : decode cX0_chooseFirsts 25 = .ok (.iload 5, 2) := by decide +kernel
theorem dX0_chooseFirsts_27 : decode cX0_chooseFirsts 27 = .ok (.iload_n 3, 1) := by decide +kernel
theorem dX0_chooseFirsts_28 : decode cX0_chooseFirsts 28 = .ok (.isub, 1) := by decide +kernel
theorem dX0_chooseFirsts_29 : decode cX0_chooseFirsts 29 = .ok (.if_icmp .gt 174, 3) := by decide +kernel
theorem dX0_chooseFirsts_32 : decode cX0_chooseFirsts 32 = .ok (.aload_n 0, 1) := by decide +kernel
theorem dX0_chooseFirsts_33 : decode cX0_chooseFirsts 33 = .ok (.iconst (-1), 1) := by decide +kernel
theorem dX0_chooseFirsts_34 : decode cX0_chooseFirsts 34 = .ok (.putfield 19, 3) := by decide +kernel
theorem dX0_chooseFirsts_37 : decode cX0_chooseFirsts 37 = .ok (.aload_n 0, 1) := by decide +kernel
theorem dX0_chooseFirsts_38 : decode cX0_chooseFirsts 38 = .ok (.iload 8, 2) := by decide +kernel
theorem dX0_chooseFirsts_40 : decode cX0_chooseFirsts 40 = .ok (.aload_n 2, 1) := by decide +kernel
theorem dX0_chooseFirsts_41 : decode cX0_chooseFirsts 41 = .ok (.iload 8, 2) := by decide +kernel
theorem dX0_chooseFirsts_43 : decode cX0_chooseFirsts 43 = .ok (.invokevirtual 62, 3) := by decide +kernel
theorem dX0_chooseFirsts_46 : decode cX0_chooseFirsts 46 = .ok (.aload_n 0, 1) := by decide +kernel
theorem dX0_chooseFirsts_47 : decode cX0_chooseFirsts 47 = .ok (.getfield 11, 3) := by decide +kernel
theorem dX0_chooseFirsts_50 : decode cX0_chooseFirsts 50 = .ok (.iload 5, 2) := by decide +kernel
theorem dX0_chooseFirsts_52 : decode cX0_chooseFirsts 52 = .ok (.iconst 1, 1) := by decide +kernel
theorem dX0_chooseFirsts_53 : decode cX0_chooseFirsts 53 = .ok (.iadd, 1) := by decide +kernel
theorem dX0_chooseFirsts_54 : decode cX0_chooseFirsts 54 = .ok (.aaload, 1) := by decide +kernel
theorem dX0_chooseFirsts_55 : decode cX0_chooseFirsts 55 = .ok (.iload 9, 2) := by decide +kernel
theorem dX0_chooseFirsts_57 : decode cX0_chooseFirsts 57 = .ok (.iaload, 1) := by decide +kernel
theorem dX0_chooseFirsts_58 : decode cX0_chooseFirsts 58 = .ok (.invokevirtual 68, 3) := by decide +kernel
theorem dX0_chooseFirsts_61 : decode cX0_chooseFirsts 61 = .ok (.aload_n 1, 1) := by decide +kernel
theorem dX0_chooseFirsts_62 : decode cX0_chooseFirsts 62 = .ok (.iload 5, 2) := by decide +kernel
theorem dX0_chooseFirsts_64 : decode cX0_chooseFirsts 64 = .ok (.iload 9, 2) := by decide +kernel
theorem dX0_chooseFirsts_66 : decode cX0_chooseFirsts 66 = .ok (.invokevirtual 48, 3) := by decide +kernel
theorem dX0_chooseFirsts_69 : decode cX0_chooseFirsts 69 = .ok (.iload 4, 2) := by decide +kernel
theorem dX0_chooseFirsts_71 : decode cX0_chooseFirsts 71 = .ok (.iload 5, 2) := by decide +kernel
theorem dX0_chooseFirsts_73 : decode cX0_chooseFirsts 73 = .ok (.isub, 1) := by decide +kernel
theorem dX0_chooseFirsts_74 : decode cX0_chooseFirsts 74 = .ok (.invokestatic 52, 3) := by decide +kernel
theorem dX0_chooseFirsts_77 : decode cX0_chooseFirsts 77 = .ok (.istore 10, 2) := by decide +kernel
theorem dX0_chooseFirsts_79 : decode cX0_chooseFirsts 79 = .ok (.iconst 2, 1) := by decide +kernel
theorem dX0_chooseFirsts_80 : decode cX0_chooseFirsts 80 = .ok (.istore 11, 2) := by decide +kernel
theorem dX0_chooseFirsts_82 : decode cX0_chooseFirsts 82 = .ok (.iload 11, 2) := by decide +kernel
theorem dX0_chooseFirsts_84 : decode cX0_chooseFirsts 84 = .ok (.iload 10, 2) := by decide +kernel
theorem dX0_chooseFirsts_86 : decode cX0_chooseFirsts 86 = .ok (.if_icmp .gt 41, 3) := by decide +kernel
theorem dX0_chooseFirsts_89 : decode cX0_chooseFirsts 89 = .ok (.iload 11, 2) := by decide +kernel
theorem dX0_chooseFirsts_91 : decode cX0_chooseFirsts 91 = .ok (.invokestatic 75, 3) := by decide +kernel
theorem dX0_chooseFirsts_94 : decode cX0_chooseFirsts 94 = .ok (.istore 12, 2) := by decide +kernel
theorem dX0_chooseFirsts_96 : decode cX0_chooseFirsts 96 = .ok (.aload_n 0, 1) := by decide +kernel
theorem dX0_chooseFirsts_97 : decode cX0_chooseFirsts 97 = .ok (.iload 12, 2) := by decide +kernel
theorem dX0_chooseFirsts_99 : decode cX0_chooseFirsts 99 = .ok (.aload_n 2, 1) := by decide +kernel
theorem dX0_chooseFirsts_100 : decode cX0_chooseFirsts 100 = .ok (.iload 12, 2) := by decide +kernel
theorem dX0_chooseFirsts_102 : decode cX0_chooseFirsts 102 = .ok (.invokevirtual 62, 3) := by decide +kernel
theorem dX0_chooseFirsts_105 : decode cX0_chooseFirsts 105 = .ok (.aload_n 0, 1) := by decide +kernel
theorem dX0_chooseFirsts_106 : decode cX0_chooseFirsts 106 = .ok (.getfield 11, 3) := by decide +kernel
theorem dX0_chooseFirsts_109 : decode cX0_chooseFirsts 109 = .ok (.iload 5, 2) := by decide +kernel
theorem dX0_chooseFirsts_111 : decode cX0_chooseFirsts 111 = .ok (.iload 11, 2) := by decide +kernel
theorem dX0_chooseFirsts_113 : decode cX0_chooseFirsts 113 = .ok (.iadd, 1) := by decide +kernel
theorem dX0_chooseFirsts_114 : decode cX0_chooseFirsts 114 = .ok (.aaload, 1) := by decide +kernel
theorem dX0_chooseFirsts_115 : decode cX0_chooseFirsts 115 = .ok (.iload 9, 2) := by decide +kernel
theorem dX0_chooseFirsts_117 : decode cX0_chooseFirsts 117 = .ok (.iaload, 1) := by decide +kernel
theorem dX0_chooseFirsts_118 : decode cX0_chooseFirsts 118 = .ok (.invokevirtual 68, 3) := by decide +kernel
theorem dX0_chooseFirsts_121 : decode cX0_chooseFirsts 121 = .ok (.iinc 11 1, 3) := by decide +kernel
theorem dX0_chooseFirsts_124 : decode cX0_chooseFirsts 124 = .ok (.goto (-42), 3) := by decide +kernel
theorem dX0_chooseFirsts_127 : decode cX0_chooseFirsts 127 = .ok (.iload 6, 2) := by decide +kernel
theorem dX0_chooseFirsts_129 : decode cX0_chooseFirsts 129 = .ok (.iconst (-1), 1) := by decide +kernel
theorem dX0_chooseFirsts_130 : decode cX0_chooseFirsts 130 = .ok (.if_icmp .eq 16, 3) := by decide +kernel
theorem dX0_chooseFirsts_133 : decode cX0_chooseFirsts 133 = .ok (.iload 7, 2) := by decide +kernel
theorem dX0_chooseFirsts_135 : decode cX0_chooseFirsts 135 = .ok (.aload_n 0, 1) := by decide +kernel
theorem dX0_chooseFirsts_136 : decode cX0_chooseFirsts 136 = .ok (.getfield 23, 3) := by decide +kernel
theorem dX0_chooseFirsts_139 : decode cX0_chooseFirsts 139 = .ok (.if_icmp .ge 7, 3) := by decide +kernel
theorem dX0_chooseFirsts_142 : decode cX0_chooseFirsts 142 = .ok (.iconst 1, 1) := by decide +kernel
theorem dX0_chooseFirsts_143 : decode cX0_chooseFirsts 143 = .ok (.goto 4, 3) := by decide +kernel
theorem dX0_chooseFirsts_146 : decode cX0_chooseFirsts 146 = .ok (.iconst 0, 1) := by decide +kernel
theorem dX0_chooseFirsts_147 : decode cX0_chooseFirsts 147 = .ok (.istore 11, 2) := by decide +kernel
theorem dX0_chooseFirsts_149 : decode cX0_chooseFirsts 149 = .ok (.aload_n 0, 1) := by decide +kernel
theorem dX0_chooseFirsts_150 : decode cX0_chooseFirsts 150 = .ok (.getfield 16, 3) := by decide +kernel
theorem dX0_chooseFirsts_153 : decode cX0_chooseFirsts 153 = .ok (.iload 5, 2) := by decide +kernel
theorem dX0_chooseFirsts_155 : decode cX0_chooseFirsts 155 = .ok (.aaload, 1) := by decide +kernel
theorem dX0_chooseFirsts_156 : decode cX0_chooseFirsts 156 = .ok (.iload 9, 2) := by decide +kernel
theorem dX0_chooseFirsts_158 : decode cX0_chooseFirsts 158 = .ok (.iload 11, 2) := by decide +kernel
theorem dX0_chooseFirsts_160 : decode cX0_chooseFirsts 160 = .ok (.ifCond .eq 8, 3) := by decide +kernel
theorem dX0_chooseFirsts_163 : decode cX0_chooseFirsts 163 = .ok (.iload 6, 2) := by decide +kernel
theorem dX0_chooseFirsts_165 : decode cX0_chooseFirsts 165 = .ok (.goto 7, 3) := by decide +kernel
theorem dX0_chooseFirsts_168 : decode cX0_chooseFirsts 168 = .ok (.aload_n 0, 1) := by decide +kernel
theorem dX0_chooseFirsts_169 : decode cX0_chooseFirsts 169 = .ok (.getfield 19, 3) := by decide +kernel
theorem dX0_chooseFirsts_172 : decode cX0_chooseFirsts 172 = .ok (.iastore, 1) := by decide +kernel
theorem dX0_chooseFirsts_173 : decode cX0_chooseFirsts 173 = .ok (.aload_n 0, 1) := by decide +kernel
theorem dX0_chooseFirsts_174 : decode cX0_chooseFirsts 174 = .ok (.getfield 11, 3) := by decide +kernel
theorem dX0_chooseFirsts_177 : decode cX0_chooseFirsts 177 = .ok (.iload 5, 2) := by decide +kernel
theorem dX0_chooseFirsts_179 : decode cX0_chooseFirsts 179 = .ok (.aaload, 1) := by decide +kernel
theorem dX0_chooseFirsts_180 : decode cX0_chooseFirsts 180 = .ok (.iload 9, 2) := by decide +kernel
theorem dX0_chooseFirsts_182 : decode cX0_chooseFirsts 182 = .ok (.iload 11, 2) := by decide +kernel
theorem dX0_chooseFirsts_184 : decode cX0_chooseFirsts 184 = .ok (.ifCond .eq 8, 3) := by decide +kernel
theorem dX0_chooseFirsts_187 : decode cX0_chooseFirsts 187 = .ok (.iload 7, 2) := by decide +kernel
theorem dX0_chooseFirsts_189 : decode cX0_chooseFirsts 189 = .ok (.goto 7, 3) := by decide +kernel
theorem dX0_chooseFirsts_192 : decode cX0_chooseFirsts 192 = .ok (.aload_n 0, 1) := by decide +kernel
theorem dX0_chooseFirsts_193 : decode cX0_chooseFirsts 193 = .ok (.getfield 23, 3) := by decide +kernel
theorem dX0_chooseFirsts_196 : decode cX0_chooseFirsts 196 = .ok (.iastore, 1) := by decide +kernel
theorem dX0_chooseFirsts_197 : decode cX0_chooseFirsts 197 = .ok (.iinc 9 1, 3) := by decide +kernel
theorem dX0_chooseFirsts_200 : decode cX0_chooseFirsts 200 = .ok (.goto (-177), 3) := by decide +kernel
theorem dX0_chooseFirsts_203 : decode cX0_chooseFirsts 203 = .ok (.return_, 1) := by decide +kernel
theorem dX0_consider_0 : decode cX0_consider 0 = .ok (.bipush 32, 2) := by decide +kernel
theorem dX0_consider_2 : decode cX0_consider 2 = .ok (.iload_n 2, 1) := by decide +kernel
theorem dX0_consider_3 : decode cX0_consider 3 = .ok (.imul, 1) := by decide +kernel
theorem dX0_consider_4 : decode cX0_consider 4 = .ok (.iconst 1, 1) := by decide +kernel
theorem dX0_consider_5 : decode cX0_consider 5 = .ok (.iadd, 1) := by decide +kernel
theorem dX0_consider_6 : decode cX0_consider 6 = .ok (.iload_n 3, 1) := by decide +kernel
theorem dX0_consider_7 : decode cX0_consider 7 = .ok (.iadd, 1) := by decide +kernel
theorem dX0_consider_8 : decode cX0_consider 8 = .ok (.istore 4, 2) := by decide +kernel
theorem dX0_consider_10 : decode cX0_consider 10 = .ok (.aload_n 0, 1) := by decide +kernel
theorem dX0_consider_11 : decode cX0_consider 11 = .ok (.getfield 19, 3) := by decide +kernel
theorem dX0_consider_14 : decode cX0_consider 14 = .ok (.iconst (-1), 1) := by decide +kernel
theorem dX0_consider_15 : decode cX0_consider 15 = .ok (.if_icmp .eq 13, 3) := by decide +kernel
theorem dX0_consider_18 : decode cX0_consider 18 = .ok (.iload 4, 2) := by decide +kernel
theorem dX0_consider_20 : decode cX0_consider 20 = .ok (.aload_n 0, 1) := by decide +kernel
theorem dX0_consider_21 : decode cX0_consider 21 = .ok (.getfield 23, 3) := by decide +kernel
theorem dX0_consider_24 : decode cX0_consider 24 = .ok (.if_icmp .lt 4, 3) := by decide +kernel
theorem dX0_consider_27 : decode cX0_consider 27 = .ok (.return_, 1) := by decide +kernel
theorem dX0_consider_28 : decode cX0_consider 28 = .ok (.aload_n 0, 1) := by decide +kernel
theorem dX0_consider_29 : decode cX0_consider 29 = .ok (.iload_n 1, 1) := by decide +kernel
theorem dX0_consider_30 : decode cX0_consider 30 = .ok (.putfield 19, 3) := by decide +kernel
theorem dX0_consider_33 : decode cX0_consider 33 = .ok (.aload_n 0, 1) := by decide +kernel
theorem dX0_consider_34 : decode cX0_consider 34 = .ok (.iload 4, 2) := by decide +kernel
theorem dX0_consider_36 : decode cX0_consider 36 = .ok (.putfield 23, 3) := by decide +kernel
theorem dX0_consider_39 : decode cX0_consider 39 = .ok (.return_, 1) := by decide +kernel
theorem dX0_collect_0 : decode cX0_collect 0 = .ok (.iconst 0, 1) := by decide +kernel
theorem dX0_collect_1 : decode cX0_collect 1 = .ok (.istore 4, 2) := by decide +kernel
theorem dX0_collect_3 : decode cX0_collect 3 = .ok (.iload_n 1, 1) := by decide +kernel
theorem dX0_collect_4 : decode cX0_collect 4 = .ok (.istore 5, 2) := by decide +kernel
theorem dX0_collect_6 : decode cX0_collect 6 = .ok (.iload 5, 2) := by decide +kernel
theorem dX0_collect_8 : decode cX0_collect 8 = .ok (.iload_n 2, 1) := by decide +kernel
theorem dX0_collect_9 : decode cX0_collect 9 = .ok (.if_icmp .ge 58, 3) := by decide +kernel
theorem dX0_collect_12 : decode cX0_collect 12 = .ok (.aload_n 0, 1) := by decide +kernel
theorem dX0_collect_13 : decode cX0_collect 13 = .ok (.getfield 16, 3) := by decide +kernel
theorem dX0_collect_16 : decode cX0_collect 16 = .ok (.iload 5, 2) := by decide +kernel
theorem dX0_collect_18 : decode cX0_collect 18 = .ok (.aaload, 1) := by decide +kernel
theorem dX0_collect_19 : decode cX0_collect 19 = .ok (.iload 4, 2) := by decide +kernel
theorem dX0_collect_21 : decode cX0_collect 21 = .ok (.iaload, 1) := by decide +kernel
theorem dX0_collect_22 : decode cX0_collect 22 = .ok (.istore 6, 2) := by decide +kernel
theorem dX0_collect_24 : decode cX0_collect 24 = .ok (.aload_n 3, 1) := by decide +kernel
theorem dX0_collect_25 : decode cX0_collect 25 = .ok (.iload 6, 2) := by decide +kernel
theorem dX0_collect_27 : decode cX0_collect 27 = .ok (.invokevirtual 78, 3) := by decide +kernel
theorem dX0_collect_30 : decode cX0_collect 30 = .ok (.iload 6, 2) := by decide +kernel
theorem dX0_collect_32 : decode cX0_collect 32 = .ok (.invokestatic 82, 3) := by decide +kernel
theorem dX0_collect_35 : decode cX0_collect 35 = .ok (.ifCond .eq 15, 3) := by decide +kernel
theorem dX0_collect_38 : decode cX0_collect 38 = .ok (.bipush 24, 2) := by decide +kernel
theorem dX0_collect_40 : decode cX0_collect 40 = .ok (.iload 6, 2) := by decide +kernel
theorem dX0_collect_42 : decode cX0_collect 42 = .ok (.invokestatic 86, 3) := by decide +kernel
theorem dX0_collect_45 : decode cX0_collect 45 = .ok (.invokestatic 52, 3) := by decide +kernel
theorem dX0_collect_48 : decode cX0_collect 48 = .ok (.istore 4, 2) := by decide +kernel
theorem dX0_collect_50 : decode cX0_collect 50 = .ok (.iload 5, 2) := by decide +kernel
theorem dX0_collect_52 : decode cX0_collect 52 = .ok (.iconst 1, 1) := by decide +kernel
theorem dX0_collect_53 : decode cX0_collect 53 = .ok (.iload 6, 2) := by decide +kernel
theorem dX0_collect_55 : decode cX0_collect 55 = .ok (.invokestatic 89, 3) := by decide +kernel
theorem dX0_collect_58 : decode cX0_collect 58 = .ok (.invokestatic 92, 3) := by decide +kernel
theorem dX0_collect_61 : decode cX0_collect 61 = .ok (.iadd, 1) := by decide +kernel
theorem dX0_collect_62 : decode cX0_collect 62 = .ok (.istore 5, 2) := by decide +kernel
theorem dX0_collect_64 : decode cX0_collect 64 = .ok (.goto (-58), 3) := by decide +kernel
theorem dX0_collect_67 : decode cX0_collect 67 = .ok (.return_, 1) := by decide +kernel
theorem dX1_init_0 : decode cX1_init 0 = .ok (.aload_n 0, 1) := by decide +kernel
theorem dX1_init_1 : decode cX1_init 1 = .ok (.invokespecial 3, 3) := by decide +kernel
theorem dX1_init_4 : decode cX1_init 4 = .ok (.aload_n 0, 1) := by decide +kernel
theorem dX1_init_5 : decode cX1_init 5 = .ok (.bipush 24, 2) := by decide +kernel
theorem dX1_init_7 : decode cX1_init 7 = .ok (.newarray .int, 2) := by decide +kernel
theorem dX1_init_9 : decode cX1_init 9 = .ok (.putfield 9, 3) := by decide +kernel
theorem dX1_init_12 : decode cX1_init 12 = .ok (.aload_n 0, 1) := by decide +kernel
theorem dX1_init_13 : decode cX1_init 13 = .ok (.new 15, 3) := by decide +kernel
theorem dX1_init_16 : decode cX1_init 16 = .ok (.dup, 1) := by decide +kernel
theorem dX1_init_17 : decode cX1_init 17 = .ok (.invokespecial 17, 3) := by decide +kernel
theorem dX1_init_20 : decode cX1_init 20 = .ok (.putfield 18, 3) := by decide +kernel
theorem dX1_init_23 : decode cX1_init 23 = .ok (.aload_n 0, 1) := by decide +kernel
theorem dX1_init_24 : decode cX1_init 24 = .ok (.iconst 0, 1) := by decide +kernel
theorem dX1_init_25 : decode cX1_init 25 = .ok (.putfield 22, 3) := by decide +kernel
theorem dX1_init_28 : decode cX1_init 28 = .ok (.aload_n 0, 1) := by decide +kernel
theorem dX1_init_29 : decode cX1_init 29 = .ok (.iconst 0, 1) := by decide +kernel
theorem dX1_init_30 : decode cX1_init 30 = .ok (.putfield 26, 3) := by decide +kernel
theorem dX1_init_33 : decode cX1_init 33 = .ok (.aload_n 0, 1) := by decide +kernel
theorem dX1_init_34 : decode cX1_init 34 = .ok (.iconst 0, 1) := by decide +kernel
theorem dX1_init_35 : decode cX1_init 35 = .ok (.putfield 29, 3) := by decide +kernel
theorem dX1_init_38 : decode cX1_init 38 = .ok (.aload_n 0, 1) := by decide +kernel
theorem dX1_init_39 : decode cX1_init 39 = .ok (.iconst 0, 1) := by decide +kernel
theorem dX1_init_40 : decode cX1_init 40 = .ok (.putfield 32, 3) := by decide +kernel
theorem dX1_init_43 : decode cX1_init 43 = .ok (.aload_n 0, 1) := by decide +kernel
theorem dX1_init_44 : decode cX1_init 44 = .ok (.iconst 0, 1) := by decide +kernel
theorem dX1_init_45 : decode cX1_init 45 = .ok (.putfield 36, 3) := by decide +kernel
theorem dX1_init_48 : decode cX1_init 48 = .ok (.aload_n 0, 1) := by decide +kernel
theorem dX1_init_49 : decode cX1_init 49 = .ok (.iconst 0, 1) := by decide +kernel
theorem dX1_init_50 : decode cX1_init 50 = .ok (.putfield 39, 3) := by decide +kernel
theorem dX1_init_53 : decode cX1_init 53 = .ok (.return_, 1) := by decide +kernel
theorem dX1_read_0 : decode cX1_read 0 = .ok (.aload_n 0, 1) := by decide +kernel
theorem dX1_read_1 : decode cX1_read 1 = .ok (.getfield 18, 3) := by decide +kernel
theorem dX1_read_4 : decode cX1_read 4 = .ok (.invokevirtual 42, 3) := by decide +kernel
theorem dX1_read_7 : decode cX1_read 7 = .ok (.aload_n 0, 1) := by decide +kernel
theorem dX1_read_8 : decode cX1_read 8 = .ok (.iconst 0, 1) := by decide +kernel
theorem dX1_read_9 : decode cX1_read 9 = .ok (.putfield 22, 3) := by decide +kernel
theorem dX1_read_12 : decode cX1_read 12 = .ok (.aload_n 0, 1) := by decide +kernel
theorem dX1_read_13 : decode cX1_read 13 = .ok (.iconst 0, 1) := by decide +kernel
theorem dX1_read_14 : decode cX1_read 14 = .ok (.putfield 26, 3) := by decide +kernel
theorem dX1_read_17 : decode cX1_read 17 = .ok (.aload_n 0, 1) := by decide +kernel
theorem dX1_read_18 : decode cX1_read 18 = .ok (.iconst 0, 1) := by decide +kernel
theorem dX1_read_19 : decode cX1_read 19 = .ok (.putfield 29, 3) := by decide +kernel
theorem dX1_read_22 : decode cX1_read 22 = .ok (.aload_n 0, 1) := by decide +kernel
theorem dX1_read_23 : decode cX1_read 23 = .ok (.iconst 0, 1) := by decide +kernel
theorem dX1_read_24 : decode cX1_read 24 = .ok (.putfield 32, 3) := by decide +kernel
theorem dX1_read_27 : decode cX1_read 27 = .ok (.aload_n 0, 1) := by decide +kernel
theorem dX1_read_28 : decode cX1_read 28 = .ok (.iconst 0, 1) := by decide +kernel
theorem dX1_read_29 : decode cX1_read 29 = .ok (.putfield 36, 3) := by decide +kernel
theorem dX1_read_32 : decode cX1_read 32 = .ok (.aload_n 0, 1) := by decide +kernel
theorem dX1_read_33 : decode cX1_read 33 = .ok (.iconst 1, 1) := by decide +kernel
theorem dX1_read_34 : decode cX1_read 34 = .ok (.putfield 39, 3) := by decide +kernel
theorem dX1_read_37 : decode cX1_read 37 = .ok (.aload_n 0, 1) := by decide +kernel
theorem dX1_read_38 : decode cX1_read 38 = .ok (.getfield 39, 3) := by decide +kernel
theorem dX1_read_41 : decode cX1_read 41 = .ok (.ifCond .eq 50, 3) := by decide +kernel
theorem dX1_read_44 : decode cX1_read 44 = .ok (.aload_n 0, 1) := by decide +kernel
theorem dX1_read_45 : decode cX1_read 45 = .ok (.getfield 36, 3) := by decide +kernel
theorem dX1_read_48 : decode cX1_read 48 = .ok (.aload_n 1, 1) := by decide +kernel
theorem dX1_read_49 : decode cX1_read 49 = .ok (.invokevirtual 45, 3) := by decide +kernel
theorem dX1_read_52 : decode cX1_read 52 = .ok (.if_icmp .ge 39, 3) := by decide +kernel
theorem dX1_read_55 : decode cX1_read 55 = .ok (.aload_n 0, 1) := by decide +kernel
theorem dX1_read_56 : decode cX1_read 56 = .ok (.aload_n 1, 1) := by decide +kernel
theorem dX1_read_57 : decode cX1_read 57 = .ok (.aload_n 0, 1) := by decide +kernel
theorem dX1_read_58 : decode cX1_read 58 = .ok (.getfield 36, 3) := by decide +kernel
theorem dX1_read_61 : decode cX1_read 61 = .ok (.invokevirtual 51, 3) := by decide +kernel
theorem dX1_read_64 : decode cX1_read 64 = .ok (.invokevirtual 55, 3) := by decide +kernel
theorem dX1_read_67 : decode cX1_read 67 = .ok (.ifCond .eq 16, 3) := by decide +kernel
theorem dX1_read_70 : decode cX1_read 70 = .ok (.aload_n 0, 1) := by decide +kernel
theorem dX1_read_71 : decode cX1_read 71 = .ok (.dup, 1) := by decide +kernel
theorem dX1_read_72 : decode cX1_read 72 = .ok (.getfield 36, 3) := by decide +kernel
theorem dX1_read_75 : decode cX1_read 75 = .ok (.iconst 1, 1) := by decide +kernel
theorem dX1_read_76 : decode cX1_read 76 = .ok (.iadd, 1) := by decide +kernel
theorem dX1_read_77 : decode cX1_read 77 = .ok (.putfield 36, 3) := by decide +kernel
theorem dX1_read_80 : decode cX1_read 80 = .ok (.goto (-43), 3) := by decide +kernel
theorem dX1_read_83 : decode cX1_read 83 = .ok (.aload_n 0, 1) := by decide +kernel
theorem dX1_read_84 : decode cX1_read 84 = .ok (.iconst 0, 1) := by decide +kernel
theorem dX1_read_85 : decode cX1_read 85 = .ok (.putfield 39, 3) := by decide +kernel
theorem dX1_read_88 : decode cX1_read 88 = .ok (.goto (-51), 3) := by decide +kernel
theorem dX1_read_91 : decode cX1_read 91 = .ok (.return_, 1) := by decide +kernel
theorem dX1_faultPlace_0 : decode cX1_faultPlace 0 = .ok (.aload_n 0, 1) := by decide +kernel
theorem dX1_faultPlace_1 : decode cX1_faultPlace 1 = .ok (.getfield 36, 3) := by decide +kernel
theorem dX1_faultPlace_4 : decode cX1_faultPlace 4 = .ok (.ireturn, 1) := by decide +kernel
theorem dX1_isCode_0 : decode cX1_isCode 0 = .ok (.aload_n 0, 1) := by decide +kernel
theorem dX1_isCode_1 : decode cX1_isCode 1 = .ok (.getfield 39, 3) := by decide +kernel
theorem dX1_isCode_4 : decode cX1_isCode 4 = .ok (.ifCond .eq 24, 3) := by decide +kernel
theorem dX1_isCode_7 : decode cX1_isCode 7 = .ok (.aload_n 0, 1) := by decide +kernel
theorem dX1_isCode_8 : decode cX1_isCode 8 = .ok (.getfield 29, 3) := by decide +kernel
theorem dX1_isCode_11 : decode cX1_isCode 11 = .ok (.ifCond .ne 17, 3) := by decide +kernel
theorem dX1_isCode_14 : decode cX1_isCode 14 = .ok (.aload_n 0, 1) := by decide +kernel
theorem dX1_isCode_15 : decode cX1_isCode 15 = .ok (.getfield 18, 3) := by decide +kernel
theorem dX1_isCode_18 : decode cX1_isCode 18 = .ok (.invokevirtual 59, 3) := by decide +kernel
theorem dX1_isCode_21 : decode cX1_isCode 21 = .ok (.ifCond .le 7, 3) := by decide +kernel
theorem dX1_isCode_24 : decode cX1_isCode 24 = .ok (.iconst 1, 1) := by decide +kernel
theorem dX1_isCode_25 : decode cX1_isCode 25 = .ok (.goto 4, 3) := by decide +kernel
theorem dX1_isCode_28 : decode cX1_isCode 28 = .ok (.iconst 0, 1) := by decide +kernel
theorem dX1_isCode_29 : decode cX1_isCode 29 = .ok (.ireturn, 1) := by decide +kernel
theorem dX1_tokens_0 : decode cX1_tokens 0 = .ok (.aload_n 0, 1) := by decide +kernel
theorem dX1_tokens_1 : decode cX1_tokens 1 = .ok (.getfield 18, 3) := by decide +kernel
theorem dX1_tokens_4 : decode cX1_tokens 4 = .ok (.areturn, 1) := by decide +kernel
theorem dX1_madeSize_0 : decode cX1_madeSize 0 = .ok (.aload_n 0, 1) := by decide +kernel
theorem dX1_madeSize_1 : decode cX1_madeSize 1 = .ok (.getfield 22, 3) := by decide +kernel
theorem dX1_madeSize_4 : decode cX1_madeSize 4 = .ok (.ireturn, 1) := by decide +kernel
theorem dX1_madeAt_0 : decode cX1_madeAt 0 = .ok (.iload_n 1, 1) := by decide +kernel
theorem dX1_madeAt_1 : decode cX1_madeAt 1 = .ok (.ifCond .lt 20, 3) := by decide +kernel
theorem dX1_madeAt_4 : decode cX1_madeAt 4 = .ok (.iload_n 1, 1) := by decide +kernel
theorem dX1_madeAt_5 : decode cX1_madeAt 5 = .ok (.aload_n 0, 1) := by decide +kernel
theorem dX1_madeAt_6 : decode cX1_madeAt 6 = .ok (.getfield 22, 3) := by decide +kernel
theorem dX1_madeAt_9 : decode cX1_madeAt 9 = .ok (.if_icmp .ge 12, 3) := by decide +kernel
theorem dX1_madeAt_12 : decode cX1_madeAt 12 = .ok (.aload_n 0, 1) := by decide +kernel
theorem dX1_madeAt_13 : decode cX1_madeAt 13 = .ok (.getfield 9, 3) := by decide +kernel
theorem dX1_madeAt_16 : decode cX1_madeAt 16 = .ok (.iload_n 1, 1) := by decide +kernel
theorem dX1_madeAt_17 : decode cX1_madeAt 17 = .ok (.iaload, 1) := by decide +kernel
theorem dX1_madeAt_18 : decode cX1_madeAt 18 = .ok (.goto 4, 3) := by decide +kernel
theorem dX1_madeAt_21 : decode cX1_madeAt 21 = .ok (.iconst 0, 1) := by decide +kernel
theorem dX1_madeAt_22 : decode cX1_madeAt 22 = .ok (.ireturn, 1) := by decide +kernel
theorem dX1_takes_0 : decode cX1_takes 0 = .ok (.aload_n 0, 1) := by decide +kernel
theorem dX1_takes_1 : decode cX1_takes 1 = .ok (.getfield 29, 3) := by decide +kernel
theorem dX1_takes_4 : decode cX1_takes 4 = .ok (.ifCond .le 12, 3) := by decide +kernel
theorem dX1_takes_7 : decode cX1_takes 7 = .ok (.aload_n 0, 1) := by decide +kernel
theorem dX1_takes_8 : decode cX1_takes 8 = .ok (.iload_n 1, 1) := by decide +kernel
theorem dX1_takes_9 : decode cX1_takes 9 = .ok (.bipush 48, 2) := by decide +kernel
theorem dX1_takes_11 : decode cX1_takes 11 = .ok (.isub, 1) := by decide +kernel
theorem dX1_takes_12 : decode cX1_takes 12 = .ok (.invokevirtual 60, 3) := by decide +kernel
theorem dX1_takes_15 : decode cX1_takes 15 = .ok (.ireturn, 1) := by decide +kernel
theorem dX1_takes_16 : decode cX1_takes 16 = .ok (.iload_n 1, 1) := by decide +kernel
theorem dX1_takes_17 : decode cX1_takes 17 = .ok (.bipush 97, 2) := by decide +kernel
theorem dX1_takes_19 : decode cX1_takes 19 = .ok (.isub, 1) := by decide +kernel
theorem dX1_takes_20 : decode cX1_takes 20 = .ok (.istore_n 2, 1) := by decide +kernel
theorem dX1_takes_21 : decode cX1_takes 21 = .ok (.iload_n 2, 1) := by decide +kernel
theorem dX1_takes_22 : decode cX1_takes 22 = .ok (.ifCond .lt 14, 3) := by decide +kernel
theorem dX1_takes_25 : decode cX1_takes 25 = .ok (.iload_n 2, 1) := by decide +kernel
theorem dX1_takes_26 : decode cX1_takes 26 = .ok (.iconst 4, 1) := by decide +kernel
theorem dX1_takes_27 : decode cX1_takes 27 = .ok (.if_icmp .ge 9, 3) := by decide +kernel
theorem dX1_takes_30 : decode cX1_takes 30 = .ok (.aload_n 0, 1) := by decide +kernel
theorem dX1_takes_31 : decode cX1_takes 31 = .ok (.iload_n 2, 1) := by decide +kernel
theorem dX1_takes_32 : decode cX1_takes 32 = .ok (.invokevirtual 63, 3) := by decide +kernel
theorem dX1_takes_35 : decode cX1_takes 35 = .ok (.ireturn, 1) := by decide +kernel
theorem dX1_takes_36 : decode cX1_takes 36 = .ok (.aload_n 0, 1) := by decide +kernel
theorem dX1_takes_37 : decode cX1_takes 37 = .ok (.iload_n 1, 1) := by decide +kernel
theorem dX1_takes_38 : decode cX1_takes 38 = .ok (.bipush 61, 2) := by decide +kernel
theorem dX1_takes_40 : decode cX1_takes 40 = .ok (.if_icmp .ne 7, 3) := by decide +kernel
theorem dX1_takes_43 : decode cX1_takes 43 = .ok (.iconst 1, 1) := by decide +kernel
theorem dX1_takes_44 : decode cX1_takes 44 = .ok (.goto 4, 3) := by decide +kernel
theorem dX1_takes_47 : decode cX1_takes 47 = .ok (.iconst 0, 1) := by decide +kernel
theorem dX1_takes_48 : decode cX1_takes 48 = .ok (.putfield 32, 3) := by decide +kernel
theorem dX1_takes_51 : decode cX1_takes 51 = .ok (.aload_n 0, 1) := by decide +kernel
theorem dX1_takes_52 : decode cX1_takes 52 = .ok (.aload_n 0, 1) := by decide +kernel
theorem dX1_takes_53 : decode cX1_takes 53 = .ok (.getfield 32, 3) := by decide +kernel
theorem dX1_takes_56 : decode cX1_takes 56 = .ok (.ifCond .eq 10, 3) := by decide +kernel
theorem dX1_takes_59 : decode cX1_takes 59 = .ok (.aload_n 0, 1) := by decide +kernel
theorem dX1_takes_60 : decode cX1_takes 60 = .ok (.getfield 26, 3) := by decide +kernel
theorem dX1_takes_63 : decode cX1_takes 63 = .ok (.goto 9, 3) := by decide +kernel
theorem dX1_takes_66 : decode cX1_takes 66 = .ok (.iload_n 1, 1) := by decide +kernel
theorem dX1_takes_67 : decode cX1_takes 67 = .ok (.bipush 65, 2) := by decide +kernel
theorem dX1_takes_69 : decode cX1_takes 69 = .ok (.isub, 1) := by decide +kernel
theorem dX1_takes_70 : decode cX1_takes 70 = .ok (.iconst 1, 1) := by decide +kernel
theorem dX1_takes_71 : decode cX1_takes 71 = .ok (.iadd, 1) := by decide +kernel
theorem dX1_takes_72 : decode cX1_takes 72 = .ok (.invokevirtual 66, 3) := by decide +kernel
theorem dX1_takes_75 : decode cX1_takes 75 = .ok (.ireturn, 1) := by decide +kernel
theorem dX1_takesLetter_0 : decode cX1_takesLetter 0 = .ok (.aload_n 0, 1) := by decide +kernel
theorem dX1_takesLetter_1 : decode cX1_takesLetter 1 = .ok (.getfield 22, 3) := by decide +kernel
theorem dX1_takesLetter_4 : decode cX1_takesLetter 4 = .ok (.bipush 24, 2) := by decide +kernel
theorem dX1_takesLetter_6 : decode cX1_takesLetter 6 = .ok (.if_icmp .lt 5, 3) := by decide +kernel
theorem dX1_takesLetter_9 : decode cX1_takesLetter 9 = .ok (.iconst 0, 1) := by decide +kernel
theorem dX1_takesLetter_10 : decode cX1_takesLetter 10 = .ok (.ireturn, 1) := by decide +kernel
theorem dX1_takesLetter_11 : decode cX1_takesLetter 11 = .ok (.aload_n 0, 1) := by decide +kernel
theorem dX1_takesLetter_12 : decode cX1_takesLetter 12 = .ok (.iload_n 1, 1) := by decide +kernel
theorem dX1_takesLetter_13 : decode cX1_takesLetter 13 = .ok (.invokevirtual 69, 3) := by decide +kernel
theorem dX1_takesLetter_16 : decode cX1_takesLetter 16 = .ok (.aload_n 0, 1) := by decide +kernel
theorem dX1_takesLetter_17 : decode cX1_takesLetter 17 = .ok (.getfield 18, 3) := by decide +kernel
theorem dX1_takesLetter_20 : decode cX1_takesLetter 20 = .ok (.iload_n 1, 1) := by decide +kernel
theorem dX1_takesLetter_21 : decode cX1_takesLetter 21 = .ok (.invokevirtual 73, 3) := by decide +kernel
theorem dX1_takesLetter_24 : decode cX1_takesLetter 24 = .ok (.iconst 1, 1) := by decide +kernel
theorem dX1_takesLetter_25 : decode cX1_takesLetter 25 = .ok (.ireturn, 1) := by decide +kernel
theorem dX1_opens_0 : decode cX1_opens 0 = .ok (.iload_n 1, 1) := by decide +kernel
theorem dX1_opens_1 : decode cX1_opens 1 = .ok (.iconst 1, 1) := by decide +kernel
theorem dX1_opens_2 : decode cX1_opens 2 = .ok (.if_icmp .lt 17, 3) := by decide +kernel
theorem dX1_opens_5 : decode cX1_opens 5 = .ok (.iload_n 1, 1) := by decide +kernel
theorem dX1_opens_6 : decode cX1_opens 6 = .ok (.bipush 24, 2) := by decide +kernel
theorem dX1_opens_8 : decode cX1_opens 8 = .ok (.if_icmp .gt 11, 3) := by decide +kernel
theorem dX1_opens_11 : decode cX1_opens 11 = .ok (.iload_n 1, 1) := by decide +kernel
theorem dX1_opens_12 : decode cX1_opens 12 = .ok (.aload_n 0, 1) := by decide +kernel
theorem dX1_opens_13 : decode cX1_opens 13 = .ok (.getfield 22, 3) := by decide +kernel
theorem dX1_opens_16 : decode cX1_opens 16 = .ok (.if_icmp .le 5, 3) := by decide +kernel
theorem dX1_opens_19 : decode cX1_opens 19 = .ok (.iconst 0, 1) := by decide +kernel
theorem dX1_opens_20 : decode cX1_opens 20 = .ok (.ireturn, 1) := by decide +kernel
theorem dX1_opens_21 : decode cX1_opens 21 = .ok (.aload_n 0, 1) := by decide +kernel
theorem dX1_opens_22 : decode cX1_opens 22 = .ok (.iload_n 1, 1) := by decide +kernel
theorem dX1_opens_23 : decode cX1_opens 23 = .ok (.putfield 29, 3) := by decide +kernel
theorem dX1_opens_26 : decode cX1_opens 26 = .ok (.iconst 1, 1) := by decide +kernel
theorem dX1_opens_27 : decode cX1_opens 27 = .ok (.ireturn, 1) := by decide +kernel
theorem dX1_takesFigure_0 : decode cX1_takesFigure 0 = .ok (.iload_n 1, 1) := by decide +kernel
theorem dX1_takesFigure_1 : decode cX1_takesFigure 1 = .ok (.iconst 2, 1) := by decide +kernel
theorem dX1_takesFigure_2 : decode cX1_takesFigure 2 = .ok (.if_icmp .lt 20, 3) := by decide +kernel
theorem dX1_takesFigure_5 : decode cX1_takesFigure 5 = .ok (.iload_n 1, 1) := by decide +kernel
theorem dX1_takesFigure_6 : decode cX1_takesFigure 6 = .ok (.bipush 8, 2) := by decide +kernel
theorem dX1_takesFigure_8 : decode cX1_takesFigure 8 = .ok (.if_icmp .gt 14, 3) := by decide +kernel
theorem dX1_takesFigure_11 : decode cX1_takesFigure 11 = .ok (.aload_n 0, 1) := by decide +kernel
theorem dX1_takesFigure_12 : decode cX1_takesFigure 12 = .ok (.getfield 22, 3) := by decide +kernel
theorem dX1_takesFigure_15 : decode cX1_takesFigure 15 = .ok (.iload_n 1, 1) := by decide +kernel
theorem dX1_takesFigure_16 : decode cX1_takesFigure 16 = .ok (.iadd, 1) := by decide +kernel
theorem dX1_takesFigure_17 : decode cX1_takesFigure 17 = .ok (.bipush 24, 2) := by decide +kernel
theorem dX1_takesFigure_19 : decode cX1_takesFigure 19 = .ok (.if_icmp .le 5, 3) := by decide +kernel
theorem dX1_takesFigure_22 : decode cX1_takesFigure 22 = .ok (.iconst 0, 1) := by decide +kernel
theorem dX1_takesFigure_23 : decode cX1_takesFigure 23 = .ok (.ireturn, 1) := by decide +kernel
theorem dX1_takesFigure_24 : decode cX1_takesFigure 24 = .ok (.aload_n 0, 1) := by decide +kernel
theorem dX1_takesFigure_25 : decode cX1_takesFigure 25 = .ok (.getfield 18, 3) := by decide +kernel
theorem dX1_takesFigure_28 : decode cX1_takesFigure 28 = .ok (.aload_n 0, 1) := by decide +kernel
theorem dX1_takesFigure_29 : decode cX1_takesFigure 29 = .ok (.getfield 32, 3) := by decide +kernel
theorem dX1_takesFigure_32 : decode cX1_takesFigure 32 = .ok (.ifCond .eq 10, 3) := by decide +kernel
theorem dX1_takesFigure_35 : decode cX1_takesFigure 35 = .ok (.iload_n 1, 1) := by decide +kernel
theorem dX1_takesFigure_36 : decode cX1_takesFigure 36 = .ok (.invokestatic 76, 3) := by decide +kernel
theorem dX1_takesFigure_39 : decode cX1_takesFigure 39 = .ok (.goto 11, 3) := by decide +kernel
theorem dX1_takesFigure_42 : decode cX1_takesFigure 42 = .ok (.aload_n 0, 1) := by decide +kernel
theorem dX1_takesFigure_43 : decode cX1_takesFigure 43 = .ok (.getfield 29, 3) := by decide +kernel
theorem dX1_takesFigure_46 : decode cX1_takesFigure 46 = .ok (.iload_n 1, 1) := by decide +kernel
theorem dX1_takesFigure_47 : decode cX1_takesFigure 47 = .ok (.invokestatic 81, 3) := by decide +kernel
theorem dX1_takesFigure_50 : decode cX1_takesFigure 50 = .ok (.invokevirtual 73, 3) := by decide +kernel
theorem dX1_takesFigure_53 : decode cX1_takesFigure 53 = .ok (.iconst 0, 1) := by decide +kernel
theorem dX1_takesFigure_54 : decode cX1_takesFigure 54 = .ok (.istore_n 2, 1) := by decide +kernel
theorem dX1_takesFigure_55 : decode cX1_takesFigure 55 = .ok (.iload_n 2, 1) := by decide +kernel
theorem dX1_takesFigure_56 : decode cX1_takesFigure 56 = .ok (.iload_n 1, 1) := by decide +kernel
theorem dX1_takesFigure_57 : decode cX1_takesFigure 57 = .ok (.if_icmp .ge 26, 3) := by decide +kernel
theorem dX1_takesFigure_60 : decode cX1_takesFigure 60 = .ok (.aload_n 0, 1) := by decide +kernel
theorem dX1_takesFigure_61 : decode cX1_takesFigure 61 = .ok (.aload_n 0, 1) := by decide +kernel
theorem dX1_takesFigure_62 : decode cX1_takesFigure 62 = .ok (.aload_n 0, 1) := by decide +kernel
theorem dX1_takesFigure_63 : decode cX1_takesFigure 63 = .ok (.getfield 22, 3) := by decide +kernel
theorem dX1_takesFigure_66 : decode cX1_takesFigure 66 = .ok (.aload_n 0, 1) := by decide +kernel
theorem dX1_takesFigure_67 : decode cX1_takesFigure 67 = .ok (.getfield 29, 3) := by decide +kernel
theorem dX1_takesFigure_70 : decode cX1_takesFigure 70 = .ok (.isub, 1) := by decide +kernel
theorem dX1_takesFigure_71 : decode cX1_takesFigure 71 = .ok (.invokevirtual 85, 3) := by decide +kernel
theorem dX1_takesFigure_74 : decode cX1_takesFigure 74 = .ok (.invokevirtual 69, 3) := by decide +kernel
theorem dX1_takesFigure_77 : decode cX1_takesFigure 77 = .ok (.iinc 2 1, 3) := by decide +kernel
theorem dX1_takesFigure_80 : decode cX1_takesFigure 80 = .ok (.goto (-25), 3) := by decide +kernel
theorem dX1_takesFigure_83 : decode cX1_takesFigure 83 = .ok (.aload_n 0, 1) := by decide +kernel
theorem dX1_takesFigure_84 : decode cX1_takesFigure 84 = .ok (.aload_n 0, 1) := by decide +kernel
theorem dX1_takesFigure_85 : decode cX1_takesFigure 85 = .ok (.getfield 29, 3) := by decide +kernel
theorem dX1_takesFigure_88 : decode cX1_takesFigure 88 = .ok (.putfield 26, 3) := by decide +kernel
theorem dX1_takesFigure_91 : decode cX1_takesFigure 91 = .ok (.aload_n 0, 1) := by decide +kernel
theorem dX1_takesFigure_92 : decode cX1_takesFigure 92 = .ok (.iconst 0, 1) := by decide +kernel
theorem dX1_takesFigure_93 : decode cX1_takesFigure 93 = .ok (.putfield 29, 3) := by decide +kernel
theorem dX1_takesFigure_96 : decode cX1_takesFigure 96 = .ok (.iconst 1, 1) := by decide +kernel
theorem dX1_takesFigure_97 : decode cX1_takesFigure 97 = .ok (.ireturn, 1) := by decide +kernel
theorem dX1_make_0 : decode cX1_make 0 = .ok (.aload_n 0, 1) := by decide +kernel
theorem dX1_make_1 : decode cX1_make 1 = .ok (.getfield 22, 3) := by decide +kernel
theorem dX1_make_4 : decode cX1_make 4 = .ok (.bipush 24, 2) := by decide +kernel
theorem dX1_make_6 : decode cX1_make 6 = .ok (.if_icmp .lt 4, 3) := by decide +kernel
theorem dX1_make_9 : decode cX1_make 9 = .ok (.return_, 1) := by decide +kernel
theorem dX1_make_10 : decode cX1_make 10 = .ok (.aload_n 0, 1) := by decide +kernel
theorem dX1_make_11 : decode cX1_make 11 = .ok (.getfield 9, 3) := by decide +kernel
theorem dX1_make_14 : decode cX1_make 14 = .ok (.aload_n 0, 1) := by decide +kernel
theorem dX1_make_15 : decode cX1_make 15 = .ok (.getfield 22, 3) := by decide +kernel
theorem dX1_make_18 : decode cX1_make 18 = .ok (.iload_n 1, 1) := by decide +kernel
theorem dX1_make_19 : decode cX1_make 19 = .ok (.iastore, 1) := by decide +kernel
theorem dX1_make_20 : decode cX1_make 20 = .ok (.aload_n 0, 1) := by decide +kernel
theorem dX1_make_21 : decode cX1_make 21 = .ok (.dup, 1) := by decide +kernel
theorem dX1_make_22 : decode cX1_make 22 = .ok (.getfield 22, 3) := by decide +kernel
theorem dX1_make_25 : decode cX1_make 25 = .ok (.iconst 1, 1) := by decide +kernel
theorem dX1_make_26 : decode cX1_make 26 = .ok (.iadd, 1) := by decide +kernel
theorem dX1_make_27 : decode cX1_make 27 = .ok (.putfield 22, 3) := by decide +kernel
theorem dX1_make_30 : decode cX1_make 30 = .ok (.return_, 1) := by decide +kernel
theorem dX2_init_0 : decode cX2_init 0 = .ok (.aload_n 0, 1) := by decide +kernel
theorem dX2_init_1 : decode cX2_init 1 = .ok (.invokespecial 3, 3) := by decide +kernel
theorem dX2_init_4 : decode cX2_init 4 = .ok (.aload_n 0, 1) := by decide +kernel
theorem dX2_init_5 : decode cX2_init 5 = .ok (.bipush 30, 2) := by decide +kernel
theorem dX2_init_7 : decode cX2_init 7 = .ok (.newarray .int, 2) := by decide +kernel
theorem dX2_init_9 : decode cX2_init 9 = .ok (.putfield 9, 3) := by decide +kernel
theorem dX2_init_12 : decode cX2_init 12 = .ok (.aload_n 0, 1) := by decide +kernel
theorem dX2_init_13 : decode cX2_init 13 = .ok (.iconst 0, 1) := by decide +kernel
theorem dX2_init_14 : decode cX2_init 14 = .ok (.putfield 15, 3) := by decide +kernel
theorem dX2_init_17 : decode cX2_init 17 = .ok (.return_, 1) := by decide +kernel
theorem dX2_isFull_0 : decode cX2_isFull 0 = .ok (.aload_n 0, 1) := by decide +kernel
theorem dX2_isFull_1 : decode cX2_isFull 1 = .ok (.getfield 15, 3) := by decide +kernel
theorem dX2_isFull_4 : decode cX2_isFull 4 = .ok (.bipush 30, 2) := by decide +kernel
theorem dX2_isFull_6 : decode cX2_isFull 6 = .ok (.if_icmp .lt 7, 3) := by decide +kernel
theorem dX2_isFull_9 : decode cX2_isFull 9 = .ok (.iconst 1, 1) := by decide +kernel
theorem dX2_isFull_10 : decode cX2_isFull 10 = .ok (.goto 4, 3) := by decide +kernel
theorem dX2_isFull_13 : decode cX2_isFull 13 = .ok (.iconst 0, 1) := by decide +kernel
theorem dX2_isFull_14 : decode cX2_isFull 14 = .ok (.ireturn, 1) := by decide +kernel
theorem dX2_size_0 : decode cX2_size 0 = .ok (.aload_n 0, 1) := by decide +kernel
theorem dX2_size_1 : decode cX2_size 1 = .ok (.getfield 15, 3) := by decide +kernel
theorem dX2_size_4 : decode cX2_size 4 = .ok (.ireturn, 1) := by decide +kernel
theorem dX2_clear_0 : decode cX2_clear 0 = .ok (.aload_n 0, 1) := by decide +kernel
theorem dX2_clear_1 : decode cX2_clear 1 = .ok (.iconst 0, 1) := by decide +kernel
theorem dX2_clear_2 : decode cX2_clear 2 = .ok (.putfield 15, 3) := by decide +kernel
theorem dX2_clear_5 : decode cX2_clear 5 = .ok (.return_, 1) := by decide +kernel
theorem dX2_add_0 : decode cX2_add 0 = .ok (.aload_n 0, 1) := by decide +kernel
theorem dX2_add_1 : decode cX2_add 1 = .ok (.invokevirtual 19, 3) := by decide +kernel
theorem dX2_add_4 : decode cX2_add 4 = .ok (.ifCond .eq 4, 3) := by decide +kernel
theorem dX2_add_7 : decode cX2_add 7 = .ok (.return_, 1) := by decide +kernel
theorem dX2_add_8 : decode cX2_add 8 = .ok (.aload_n 0, 1) := by decide +kernel
theorem dX2_add_9 : decode cX2_add 9 = .ok (.getfield 9, 3) := by decide +kernel
theorem dX2_add_12 : decode cX2_add 12 = .ok (.aload_n 0, 1) := by decide +kernel
theorem dX2_add_13 : decode cX2_add 13 = .ok (.getfield 15, 3) := by decide +kernel
theorem dX2_add_16 : decode cX2_add 16 = .ok (.iload_n 1, 1) := by decide +kernel
theorem dX2_add_17 : decode cX2_add 17 = .ok (.iastore, 1) := by decide +kernel
theorem dX2_add_18 : decode cX2_add 18 = .ok (.aload_n 0, 1) := by decide +kernel
theorem dX2_add_19 : decode cX2_add 19 = .ok (.dup, 1) := by decide +kernel
theorem dX2_add_20 : decode cX2_add 20 = .ok (.getfield 15, 3) := by decide +kernel
theorem dX2_add_23 : decode cX2_add 23 = .ok (.iconst 1, 1) := by decide +kernel
theorem dX2_add_24 : decode cX2_add 24 = .ok (.iadd, 1) := by decide +kernel
theorem dX2_add_25 : decode cX2_add 25 = .ok (.putfield 15, 3) := by decide +kernel
theorem dX2_add_28 : decode cX2_add 28 = .ok (.return_, 1) := by decide +kernel
theorem dX2_signAt_0 : decode cX2_signAt 0 = .ok (.iload_n 1, 1) := by decide +kernel
theorem dX2_signAt_1 : decode cX2_signAt 1 = .ok (.ifCond .lt 20, 3) := by decide +kernel
theorem dX2_signAt_4 : decode cX2_signAt 4 = .ok (.iload_n 1, 1) := by decide +kernel
theorem dX2_signAt_5 : decode cX2_signAt 5 = .ok (.aload_n 0, 1) := by decide +kernel
theorem dX2_signAt_6 : decode cX2_signAt 6 = .ok (.getfield 15, 3) := by decide +kernel
theorem dX2_signAt_9 : decode cX2_signAt 9 = .ok (.if_icmp .ge 12, 3) := by decide +kernel
theorem dX2_signAt_12 : decode cX2_signAt 12 = .ok (.aload_n 0, 1) := by decide +kernel
theorem dX2_signAt_13 : decode cX2_signAt 13 = .ok (.getfield 9, 3) := by decide +kernel
theorem dX2_signAt_16 : decode cX2_signAt 16 = .ok (.iload_n 1, 1) := by decide +kernel
theorem dX2_signAt_17 : decode cX2_signAt 17 = .ok (.iaload, 1) := by decide +kernel
theorem dX2_signAt_18 : decode cX2_signAt 18 = .ok (.goto 4, 3) := by decide +kernel
theorem dX2_signAt_21 : decode cX2_signAt 21 = .ok (.iconst (-1), 1) := by decide +kernel
theorem dX2_signAt_22 : decode cX2_signAt 22 = .ok (.ireturn, 1) := by decide +kernel
theorem dX2_textFault_0 : decode cX2_textFault 0 = .ok (.iconst 0, 1) := by decide +kernel
theorem dX2_textFault_1 : decode cX2_textFault 1 = .ok (.istore_n 1, 1) := by decide +kernel
theorem dX2_textFault_2 : decode cX2_textFault 2 = .ok (.iload_n 1, 1) := by decide +kernel
theorem dX2_textFault_3 : decode cX2_textFault 3 = .ok (.aload_n 0, 1) := by decide +kernel
theorem dX2_textFault_4 : decode cX2_textFault 4 = .ok (.getfield 15, 3) := by decide +kernel
theorem dX2_textFault_7 : decode cX2_textFault 7 = .ok (.if_icmp .ge 35, 3) := by decide +kernel
theorem dX2_textFault_10 : decode cX2_textFault 10 = .ok (.aload_n 0, 1) := by decide +kernel
theorem dX2_textFault_11 : decode cX2_textFault 11 = .ok (.iload_n 1, 1) := by decide +kernel
theorem dX2_textFault_12 : decode cX2_textFault 12 = .ok (.invokevirtual 23, 3) := by decide +kernel
theorem dX2_textFault_15 : decode cX2_textFault 15 = .ok (.bipush 97, 2) := by decide +kernel
theorem dX2_textFault_17 : decode cX2_textFault 17 = .ok (.isub, 1) := by decide +kernel
theorem dX2_textFault_18 : decode cX2_textFault 18 = .ok (.istore_n 2, 1) := by decide +kernel
theorem dX2_textFault_19 : decode cX2_textFault 19 = .ok (.iload_n 1, 1) := by decide +kernel
theorem dX2_textFault_20 : decode cX2_textFault 20 = .ok (.bipush 24, 2) := by decide +kernel
theorem dX2_textFault_22 : decode cX2_textFault 22 = .ok (.if_icmp .ge 12, 3) := by decide +kernel
theorem dX2_textFault_25 : decode cX2_textFault 25 = .ok (.iload_n 2, 1) := by decide +kernel
theorem dX2_textFault_26 : decode cX2_textFault 26 = .ok (.ifCond .lt 8, 3) := by decide +kernel
theorem dX2_textFault_29 : decode cX2_textFault 29 = .ok (.iload_n 2, 1) := by decide +kernel
theorem dX2_textFault_30 : decode cX2_textFault 30 = .ok (.iconst 4, 1) := by decide +kernel
theorem dX2_textFault_31 : decode cX2_textFault 31 = .ok (.if_icmp .lt 5, 3) := by decide +kernel
theorem dX2_textFault_34 : decode cX2_textFault 34 = .ok (.iload_n 1, 1) := by decide +kernel
theorem dX2_textFault_35 : decode cX2_textFault 35 = .ok (.ireturn, 1) := by decide +kernel
theorem dX2_textFault_36 : decode cX2_textFault 36 = .ok (.iinc 1 1, 3) := by decide +kernel
theorem dX2_textFault_39 : decode cX2_textFault 39 = .ok (.goto (-37), 3) := by decide +kernel
theorem dX2_textFault_42 : decode cX2_textFault 42 = .ok (.aload_n 0, 1) := by decide +kernel
theorem dX2_textFault_43 : decode cX2_textFault 43 = .ok (.getfield 15, 3) := by decide +kernel
theorem dX2_textFault_46 : decode cX2_textFault 46 = .ok (.ireturn, 1) := by decide +kernel
theorem dX2_isText_0 : decode cX2_isText 0 = .ok (.aload_n 0, 1) := by decide +kernel
theorem dX2_isText_1 : decode cX2_isText 1 = .ok (.getfield 15, 3) := by decide +kernel
theorem dX2_isText_4 : decode cX2_isText 4 = .ok (.ifCond .le 18, 3) := by decide +kernel
theorem dX2_isText_7 : decode cX2_isText 7 = .ok (.aload_n 0, 1) := by decide +kernel
theorem dX2_isText_8 : decode cX2_isText 8 = .ok (.invokevirtual 27, 3) := by decide +kernel
theorem dX2_isText_11 : decode cX2_isText 11 = .ok (.aload_n 0, 1) := by decide +kernel
theorem dX2_isText_12 : decode cX2_isText 12 = .ok (.getfield 15, 3) := by decide +kernel
theorem dX2_isText_15 : decode cX2_isText 15 = .ok (.if_icmp .ne 7, 3) := by decide +kernel
theorem dX2_isText_18 : decode cX2_isText 18 = .ok (.iconst 1, 1) := by decide +kernel
theorem dX2_isText_19 : decode cX2_isText 19 = .ok (.goto 4, 3) := by decide +kernel
theorem dX2_isText_22 : decode cX2_isText 22 = .ok (.iconst 0, 1) := by decide +kernel
theorem dX2_isText_23 : decode cX2_isText 23 = .ok (.ireturn, 1) := by decide +kernel
theorem dX3_init_0 : decode cX3_init 0 = .ok (.aload_n 0, 1) := by decide +kernel
theorem dX3_init_1 : decode cX3_init 1 = .ok (.invokespecial 3, 3) := by decide +kernel
theorem dX3_init_4 : decode cX3_init 4 = .ok (.aload_n 0, 1) := by decide +kernel
theorem dX3_init_5 : decode cX3_init 5 = .ok (.getstatic 9, 3) := by decide +kernel
theorem dX3_init_8 : decode cX3_init 8 = .ok (.invokevirtual 13, 3) := by decide +kernel
theorem dX3_init_11 : decode cX3_init 11 = .ok (.checkcast 14, 3) := by decide +kernel
theorem dX3_init_14 : decode cX3_init 14 = .ok (.putfield 18, 3) := by decide +kernel
theorem dX3_init_17 : decode cX3_init 17 = .ok (.aload_n 0, 1) := by decide +kernel
theorem dX3_init_18 : decode cX3_init 18 = .ok (.bipush 18, 2) := by decide +kernel
theorem dX3_init_20 : decode cX3_init 20 = .ok (.newarray .int, 2) := by decide +kernel
theorem dX3_init_22 : decode cX3_init 22 = .ok (.putfield 23, 3) := by decide +kernel
theorem dX3_init_25 : decode cX3_init 25 = .ok (.return_, 1) := by decide +kernel
theorem dX3_get_0 : decode cX3_get 0 = .ok (.iload_n 1, 1) := by decide +kernel
theorem dX3_get_1 : decode cX3_get 1 = .ok (.ifCond .lt 18, 3) := by decide +kernel
theorem dX3_get_4 : decode cX3_get 4 = .ok (.iload_n 1, 1) := by decide +kernel
theorem dX3_get_5 : decode cX3_get 5 = .ok (.bipush 18, 2) := by decide +kernel
theorem dX3_get_7 : decode cX3_get 7 = .ok (.if_icmp .ge 12, 3) := by decide +kernel
theorem dX3_get_10 : decode cX3_get 10 = .ok (.aload_n 0, 1) := by decide +kernel
theorem dX3_get_11 : decode cX3_get 11 = .ok (.getfield 18, 3) := by decide +kernel
theorem dX3_get_14 : decode cX3_get 14 = .ok (.iload_n 1, 1) := by decide +kernel
theorem dX3_get_15 : decode cX3_get 15 = .ok (.iaload, 1) := by decide +kernel
theorem dX3_get_16 : decode cX3_get 16 = .ok (.goto 4, 3) := by decide +kernel
theorem dX3_get_19 : decode cX3_get 19 = .ok (.iconst 0, 1) := by decide +kernel
theorem dX3_get_20 : decode cX3_get 20 = .ok (.ireturn, 1) := by decide +kernel
theorem dX3_set_0 : decode cX3_set 0 = .ok (.iload_n 1, 1) := by decide +kernel
theorem dX3_set_1 : decode cX3_set 1 = .ok (.invokestatic 26, 3) := by decide +kernel
theorem dX3_set_4 : decode cX3_set 4 = .ok (.ifCond .eq 10, 3) := by decide +kernel
theorem dX3_set_7 : decode cX3_set 7 = .ok (.aload_n 0, 1) := by decide +kernel
theorem dX3_set_8 : decode cX3_set 8 = .ok (.getfield 18, 3) := by decide +kernel
theorem dX3_set_11 : decode cX3_set 11 = .ok (.iload_n 1, 1) := by decide +kernel
theorem dX3_set_12 : decode cX3_set 12 = .ok (.iload_n 2, 1) := by decide +kernel
theorem dX3_set_13 : decode cX3_set 13 = .ok (.iastore, 1) := by decide +kernel
theorem dX3_set_14 : decode cX3_set 14 = .ok (.return_, 1) := by decide +kernel
theorem dX3_take_0 : decode cX3_take 0 = .ok (.iconst 0, 1) := by decide +kernel
theorem dX3_take_1 : decode cX3_take 1 = .ok (.istore_n 2, 1) := by decide +kernel
theorem dX3_take_2 : decode cX3_take 2 = .ok (.iload_n 2, 1) := by decide +kernel
theorem dX3_take_3 : decode cX3_take 3 = .ok (.bipush 18, 2) := by decide +kernel
theorem dX3_take_5 : decode cX3_take 5 = .ok (.if_icmp .ge 20, 3) := by decide +kernel
theorem dX3_take_8 : decode cX3_take 8 = .ok (.aload_n 0, 1) := by decide +kernel
theorem dX3_take_9 : decode cX3_take 9 = .ok (.getfield 18, 3) := by decide +kernel
theorem dX3_take_12 : decode cX3_take 12 = .ok (.iload_n 2, 1) := by decide +kernel
theorem dX3_take_13 : decode cX3_take 13 = .ok (.aload_n 1, 1) := by decide +kernel
theorem dX3_take_14 : decode cX3_take 14 = .ok (.iload_n 2, 1) := by decide +kernel
theorem dX3_take_15 : decode cX3_take 15 = .ok (.invokevirtual 30, 3) := by decide +kernel
theorem dX3_take_18 : decode cX3_take 18 = .ok (.iastore, 1) := by decide +kernel
theorem dX3_take_19 : decode cX3_take 19 = .ok (.iinc 2 1, 3) := by decide +kernel
theorem dX3_take_22 : decode cX3_take 22 = .ok (.goto (-20), 3) := by decide +kernel
theorem dX3_take_25 : decode cX3_take 25 = .ok (.return_, 1) := by decide +kernel
theorem dX3_ofToken_0 : decode cX3_ofToken 0 = .ok (.iload_n 1, 1) := by decide +kernel
theorem dX3_ofToken_1 : decode cX3_ofToken 1 = .ok (.invokestatic 34, 3) := by decide +kernel
theorem dX3_ofToken_4 : decode cX3_ofToken 4 = .ok (.ifCond .eq 9, 3) := by decide +kernel
theorem dX3_ofToken_7 : decode cX3_ofToken 7 = .ok (.aload_n 0, 1) := by decide +kernel
theorem dX3_ofToken_8 : decode cX3_ofToken 8 = .ok (.iload_n 1, 1) := by decide +kernel
theorem dX3_ofToken_9 : decode cX3_ofToken 9 = .ok (.invokevirtual 30, 3) := by decide +kernel
theorem dX3_ofToken_12 : decode cX3_ofToken 12 = .ok (.ireturn, 1) := by decide +kernel
theorem dX3_ofToken_13 : decode cX3_ofToken 13 = .ok (.aload_n 0, 1) := by decide +kernel
theorem dX3_ofToken_14 : decode cX3_ofToken 14 = .ok (.bipush 10, 2) := by decide +kernel
theorem dX3_ofToken_16 : decode cX3_ofToken 16 = .ok (.iload_n 1, 1) := by decide +kernel
theorem dX3_ofToken_17 : decode cX3_ofToken 17 = .ok (.invokestatic 39, 3) := by decide +kernel
theorem dX3_ofToken_20 : decode cX3_ofToken 20 = .ok (.iadd, 1) := by decide +kernel
theorem dX3_ofToken_21 : decode cX3_ofToken 21 = .ok (.iconst 2, 1) := by decide +kernel
theorem dX3_ofToken_22 : decode cX3_ofToken 22 = .ok (.isub, 1) := by decide +kernel
theorem dX3_ofToken_23 : decode cX3_ofToken 23 = .ok (.invokevirtual 30, 3) := by decide +kernel
theorem dX3_ofToken_26 : decode cX3_ofToken 26 = .ok (.istore_n 2, 1) := by decide +kernel
theorem dX3_ofToken_27 : decode cX3_ofToken 27 = .ok (.iload_n 1, 1) := by decide +kernel
theorem dX3_ofToken_28 : decode cX3_ofToken 28 = .ok (.invokestatic 42, 3) := by decide +kernel
theorem dX3_ofToken_31 : decode cX3_ofToken 31 = .ok (.ifCond .ne 12, 3) := by decide +kernel
theorem dX3_ofToken_34 : decode cX3_ofToken 34 = .ok (.aload_n 0, 1) := by decide +kernel
theorem dX3_ofToken_35 : decode cX3_ofToken 35 = .ok (.bipush 17, 2) := by decide +kernel
theorem dX3_ofToken_37 : decode cX3_ofToken 37 = .ok (.invokevirtual 30, 3) := by decide +kernel
theorem dX3_ofToken_40 : decode cX3_ofToken 40 = .ok (.iload_n 2, 1) := by decide +kernel
theorem dX3_ofToken_41 : decode cX3_ofToken 41 = .ok (.iadd, 1) := by decide +kernel
theorem dX3_ofToken_42 : decode cX3_ofToken 42 = .ok (.ireturn, 1) := by decide +kernel
theorem dX3_ofToken_43 : decode cX3_ofToken 43 = .ok (.aload_n 0, 1) := by decide +kernel
theorem dX3_ofToken_44 : decode cX3_ofToken 44 = .ok (.iconst 4, 1) := by decide +kernel
theorem dX3_ofToken_45 : decode cX3_ofToken 45 = .ok (.invokevirtual 30, 3) := by decide +kernel
theorem dX3_ofToken_48 : decode cX3_ofToken 48 = .ok (.aload_n 0, 1) := by decide +kernel
theorem dX3_ofToken_49 : decode cX3_ofToken 49 = .ok (.iconst 5, 1) := by decide +kernel
theorem dX3_ofToken_50 : decode cX3_ofToken 50 = .ok (.iload_n 1, 1) := by decide +kernel
theorem dX3_ofToken_51 : decode cX3_ofToken 51 = .ok (.invokestatic 45, 3) := by decide +kernel
theorem dX3_ofToken_54 : decode cX3_ofToken 54 = .ok (.invokestatic 48, 3) := by decide +kernel
theorem dX3_ofToken_57 : decode cX3_ofToken 57 = .ok (.iadd, 1) := by decide +kernel
theorem dX3_ofToken_58 : decode cX3_ofToken 58 = .ok (.invokevirtual 30, 3) := by decide +kernel
theorem dX3_ofToken_61 : decode cX3_ofToken 61 = .ok (.iadd, 1) := by decide +kernel
theorem dX3_ofToken_62 : decode cX3_ofToken 62 = .ok (.iload_n 2, 1) := by decide +kernel
theorem dX3_ofToken_63 : decode cX3_ofToken 63 = .ok (.iadd, 1) := by decide +kernel
theorem dX3_ofToken_64 : decode cX3_ofToken 64 = .ok (.ireturn, 1) := by decide +kernel
theorem dX3_ofRow_0 : decode cX3_ofRow 0 = .ok (.iconst 0, 1) := by decide +kernel
theorem dX3_ofRow_1 : decode cX3_ofRow 1 = .ok (.istore_n 2, 1) := by decide +kernel
theorem dX3_ofRow_2 : decode cX3_ofRow 2 = .ok (.iconst 0, 1) := by decide +kernel
theorem dX3_ofRow_3 : decode cX3_ofRow 3 = .ok (.istore_n 3, 1) := by decide +kernel
theorem dX3_ofRow_4 : decode cX3_ofRow 4 = .ok (.iload_n 3, 1) := by decide +kernel
theorem dX3_ofRow_5 : decode cX3_ofRow 5 = .ok (.aload_n 1, 1) := by decide +kernel
theorem dX3_ofRow_6 : decode cX3_ofRow 6 = .ok (.invokevirtual 51, 3) := by decide +kernel
theorem dX3_ofRow_9 : decode cX3_ofRow 9 = .ok (.if_icmp .ge 21, 3) := by decide +kernel
theorem dX3_ofRow_12 : decode cX3_ofRow 12 = .ok (.iload_n 2, 1) := by decide +kernel
theorem dX3_ofRow_13 : decode cX3_ofRow 13 = .ok (.aload_n 0, 1) := by decide +kernel
theorem dX3_ofRow_14 : decode cX3_ofRow 14 = .ok (.aload_n 1, 1) := by decide +kernel
theorem dX3_ofRow_15 : decode cX3_ofRow 15 = .ok (.iload_n 3, 1) := by decide +kernel
theorem dX3_ofRow_16 : decode cX3_ofRow 16 = .ok (.invokevirtual 57, 3) := by decide +kernel
theorem dX3_ofRow_19 : decode cX3_ofRow 19 = .ok (.invokevirtual 58, 3) := by decide +kernel
theorem dX3_ofRow_22 : decode cX3_ofRow 22 = .ok (.iadd, 1) := by decide +kernel
theorem dX3_ofRow_23 : decode cX3_ofRow 23 = .ok (.istore_n 2, 1) := by decide +kernel
theorem dX3_ofRow_24 : decode cX3_ofRow 24 = .ok (.iinc 3 1, 3) := by decide +kernel
theorem dX3_ofRow_27 : decode cX3_ofRow 27 = .ok (.goto (-23), 3) := by decide +kernel
theorem dX3_ofRow_30 : decode cX3_ofRow 30 = .ok (.iload_n 2, 1) := by decide +kernel
theorem dX3_ofRow_31 : decode cX3_ofRow 31 = .ok (.ireturn, 1) := by decide +kernel
theorem dX3_follow_0 : decode cX3_follow 0 = .ok (.aload_n 0, 1) := by decide +kernel
theorem dX3_follow_1 : decode cX3_follow 1 = .ok (.aload_n 1, 1) := by decide +kernel
theorem dX3_follow_2 : decode cX3_follow 2 = .ok (.invokevirtual 61, 3) := by decide +kernel
theorem dX3_follow_5 : decode cX3_follow 5 = .ok (.aload_n 1, 1) := by decide +kernel
theorem dX3_follow_6 : decode cX3_follow 6 = .ok (.invokevirtual 51, 3) := by decide +kernel
theorem dX3_follow_9 : decode cX3_follow 9 = .ok (.iconst 3, 1) := by decide +kernel
theorem dX3_follow_10 : decode cX3_follow 10 = .ok (.iadd, 1) := by decide +kernel
theorem dX3_follow_11 : decode cX3_follow 11 = .ok (.istore_n 2, 1) := by decide +kernel
theorem dX3_follow_12 : decode cX3_follow 12 = .ok (.aload_n 0, 1) := by decide +kernel
theorem dX3_follow_13 : decode cX3_follow 13 = .ok (.iconst 0, 1) := by decide +kernel
theorem dX3_follow_14 : decode cX3_follow 14 = .ok (.iconst 4, 1) := by decide +kernel
theorem dX3_follow_15 : decode cX3_follow 15 = .ok (.aload_n 1, 1) := by decide +kernel
theorem dX3_follow_16 : decode cX3_follow 16 = .ok (.invokevirtual 65, 3) := by decide +kernel
theorem dX3_follow_19 : decode cX3_follow 19 = .ok (.iconst 4, 1) := by decide +kernel
theorem dX3_follow_20 : decode cX3_follow 20 = .ok (.iadd, 1) := by decide +kernel
theorem dX3_follow_21 : decode cX3_follow 21 = .ok (.invokevirtual 68, 3) := by decide +kernel
theorem dX3_follow_24 : decode cX3_follow 24 = .ok (.istore_n 3, 1) := by decide +kernel
theorem dX3_follow_25 : decode cX3_follow 25 = .ok (.iload_n 3, 1) := by decide +kernel
theorem dX3_follow_26 : decode cX3_follow 26 = .ok (.aload_n 0, 1) := by decide +kernel
theorem dX3_follow_27 : decode cX3_follow 27 = .ok (.iconst 4, 1) := by decide +kernel
theorem dX3_follow_28 : decode cX3_follow 28 = .ok (.iconst 5, 1) := by decide +kernel
theorem dX3_follow_29 : decode cX3_follow 29 = .ok (.iload_n 2, 1) := by decide +kernel
theorem dX3_follow_30 : decode cX3_follow 30 = .ok (.invokevirtual 68, 3) := by decide +kernel
theorem dX3_follow_33 : decode cX3_follow 33 = .ok (.iadd, 1) := by decide +kernel
theorem dX3_follow_34 : decode cX3_follow 34 = .ok (.istore_n 3, 1) := by decide +kernel
theorem dX3_follow_35 : decode cX3_follow 35 = .ok (.iload_n 3, 1) := by decide +kernel
theorem dX3_follow_36 : decode cX3_follow 36 = .ok (.aload_n 0, 1) := by decide +kernel
theorem dX3_follow_37 : decode cX3_follow 37 = .ok (.iconst 5, 1) := by decide +kernel
theorem dX3_follow_38 : decode cX3_follow 38 = .ok (.bipush 10, 2) := by decide +kernel
theorem dX3_follow_40 : decode cX3_follow 40 = .ok (.aload_n 1, 1) := by decide +kernel
theorem dX3_follow_41 : decode cX3_follow 41 = .ok (.invokevirtual 72, 3) := by decide +kernel
theorem dX3_follow_44 : decode cX3_follow 44 = .ok (.iconst 5, 1) := by decide +kernel
theorem dX3_follow_45 : decode cX3_follow 45 = .ok (.iadd, 1) := by decide +kernel
theorem dX3_follow_46 : decode cX3_follow 46 = .ok (.invokevirtual 68, 3) := by decide +kernel
theorem dX3_follow_49 : decode cX3_follow 49 = .ok (.iadd, 1) := by decide +kernel
theorem dX3_follow_50 : decode cX3_follow 50 = .ok (.istore_n 3, 1) := by decide +kernel
theorem dX3_follow_51 : decode cX3_follow 51 = .ok (.iload_n 3, 1) := by decide +kernel
theorem dX3_follow_52 : decode cX3_follow 52 = .ok (.aload_n 0, 1) := by decide +kernel
theorem dX3_follow_53 : decode cX3_follow 53 = .ok (.bipush 10, 2) := by decide +kernel
theorem dX3_follow_55 : decode cX3_follow 55 = .ok (.bipush 17, 2) := by decide +kernel
theorem dX3_follow_57 : decode cX3_follow 57 = .ok (.aload_n 1, 1) := by decide +kernel
theorem dX3_follow_58 : decode cX3_follow 58 = .ok (.invokevirtual 72, 3) := by decide +kernel
theorem dX3_follow_61 : decode cX3_follow 61 = .ok (.aload_n 1, 1) := by decide +kernel
theorem dX3_follow_62 : decode cX3_follow 62 = .ok (.invokevirtual 75, 3) := by decide +kernel
theorem dX3_follow_65 : decode cX3_follow 65 = .ok (.iadd, 1) := by decide +kernel
theorem dX3_follow_66 : decode cX3_follow 66 = .ok (.bipush 7, 2) := by decide +kernel
theorem dX3_follow_68 : decode cX3_follow 68 = .ok (.iadd, 1) := by decide +kernel
theorem dX3_follow_69 : decode cX3_follow 69 = .ok (.invokevirtual 68, 3) := by decide +kernel
theorem dX3_follow_72 : decode cX3_follow 72 = .ok (.iadd, 1) := by decide +kernel
theorem dX3_follow_73 : decode cX3_follow 73 = .ok (.istore_n 3, 1) := by decide +kernel
end
section
theorem dX3_follow_74 : decode cX3_follow 74 = .ok (.iload_n 3, 1) := by decide +kernel
theorem dX3_follow_75 : decode cX3_follow 75 = .ok (.aload_n 0, 1) := by decide +kernel
theorem dX3_follow_76 : decode cX3_follow 76 = .ok (.bipush 17, 2) := by decide +kernel
theorem dX3_follow_78 : decode cX3_follow 78 = .ok (.bipush 18, 2) := by decide +kernel
theorem dX3_follow_80 : decode cX3_follow 80 = .ok (.iload_n 2, 1) := by decide +kernel
theorem dX3_follow_81 : decode cX3_follow 81 = .ok (.invokevirtual 68, 3) := by decide +kernel
theorem dX3_follow_84 : decode cX3_follow 84 = .ok (.iadd, 1) := by decide +kernel
theorem dX3_follow_85 : decode cX3_follow 85 = .ok (.ireturn, 1) := by decide +kernel
theorem dX3_reprice_0 : decode cX3_reprice 0 = .ok (.iconst 0, 1) := by decide +kernel
theorem dX3_reprice_1 : decode cX3_reprice 1 = .ok (.istore 4, 2) := by decide +kernel
theorem dX3_reprice_3 : decode cX3_reprice 3 = .ok (.iconst 0, 1) := by decide +kernel
theorem dX3_reprice_4 : decode cX3_reprice 4 = .ok (.iload_n 1, 1) := by decide +kernel
theorem dX3_reprice_5 : decode cX3_reprice 5 = .ok (.invokestatic 78, 3) := by decide +kernel
theorem dX3_reprice_8 : decode cX3_reprice 8 = .ok (.istore 5, 2) := by decide +kernel
theorem dX3_reprice_10 : decode cX3_reprice 10 = .ok (.iload 5, 2) := by decide +kernel
theorem dX3_reprice_12 : decode cX3_reprice 12 = .ok (.iload_n 2, 1) := by decide +kernel
theorem dX3_reprice_13 : decode cX3_reprice 13 = .ok (.if_icmp .ge 64, 3) := by decide +kernel
theorem dX3_reprice_16 : decode cX3_reprice 16 = .ok (.iload 5, 2) := by decide +kernel
theorem dX3_reprice_18 : decode cX3_reprice 18 = .ok (.bipush 18, 2) := by decide +kernel
theorem dX3_reprice_20 : decode cX3_reprice 20 = .ok (.if_icmp .ge 57, 3) := by decide +kernel
theorem dX3_reprice_23 : decode cX3_reprice 23 = .ok (.iconst 1, 1) := by decide +kernel
theorem dX3_reprice_24 : decode cX3_reprice 24 = .ok (.iconst 2, 1) := by decide +kernel
theorem dX3_reprice_25 : decode cX3_reprice 25 = .ok (.iload_n 3, 1) := by decide +kernel
theorem dX3_reprice_26 : decode cX3_reprice 26 = .ok (.iconst 1, 1) := by decide +kernel
theorem dX3_reprice_27 : decode cX3_reprice 27 = .ok (.iconst 1, 1) := by decide +kernel
theorem dX3_reprice_28 : decode cX3_reprice 28 = .ok (.aload_n 0, 1) := by decide +kernel
theorem dX3_reprice_29 : decode cX3_reprice 29 = .ok (.getfield 23, 3) := by decide +kernel
theorem dX3_reprice_32 : decode cX3_reprice 32 = .ok (.iload 5, 2) := by decide +kernel
theorem dX3_reprice_34 : decode cX3_reprice 34 = .ok (.iaload, 1) := by decide +kernel
theorem dX3_reprice_35 : decode cX3_reprice 35 = .ok (.iadd, 1) := by decide +kernel
theorem dX3_reprice_36 : decode cX3_reprice 36 = .ok (.invokestatic 78, 3) := by decide +kernel
theorem dX3_reprice_39 : decode cX3_reprice 39 = .ok (.idiv, 1) := by decide +kernel
theorem dX3_reprice_40 : decode cX3_reprice 40 = .ok (.invokestatic 48, 3) := by decide +kernel
theorem dX3_reprice_43 : decode cX3_reprice 43 = .ok (.imul, 1) := by decide +kernel
theorem dX3_reprice_44 : decode cX3_reprice 44 = .ok (.iadd, 1) := by decide +kernel
theorem dX3_reprice_45 : decode cX3_reprice 45 = .ok (.istore 6, 2) := by decide +kernel
theorem dX3_reprice_47 : decode cX3_reprice 47 = .ok (.iload 6, 2) := by decide +kernel
theorem dX3_reprice_49 : decode cX3_reprice 49 = .ok (.aload_n 0, 1) := by decide +kernel
theorem dX3_reprice_50 : decode cX3_reprice 50 = .ok (.getfield 18, 3) := by decide +kernel
theorem dX3_reprice_53 : decode cX3_reprice 53 = .ok (.iload 5, 2) := by decide +kernel
theorem dX3_reprice_55 : decode cX3_reprice 55 = .ok (.iaload, 1) := by decide +kernel
theorem dX3_reprice_56 : decode cX3_reprice 56 = .ok (.if_icmp .eq 6, 3) := by decide +kernel
theorem dX3_reprice_59 : decode cX3_reprice 59 = .ok (.iinc 4 1, 3) := by decide +kernel
theorem dX3_reprice_62 : decode cX3_reprice 62 = .ok (.aload_n 0, 1) := by decide +kernel
theorem dX3_reprice_63 : decode cX3_reprice 63 = .ok (.getfield 18, 3) := by decide +kernel
theorem dX3_reprice_66 : decode cX3_reprice 66 = .ok (.iload 5, 2) := by decide +kernel
theorem dX3_reprice_68 : decode cX3_reprice 68 = .ok (.iload 6, 2) := by decide +kernel
theorem dX3_reprice_70 : decode cX3_reprice 70 = .ok (.iastore, 1) := by decide +kernel
theorem dX3_reprice_71 : decode cX3_reprice 71 = .ok (.iinc 5 1, 3) := by decide +kernel
theorem dX3_reprice_74 : decode cX3_reprice 74 = .ok (.goto (-64), 3) := by decide +kernel
theorem dX3_reprice_77 : decode cX3_reprice 77 = .ok (.iload 4, 2) := by decide +kernel
theorem dX3_reprice_79 : decode cX3_reprice 79 = .ok (.ireturn, 1) := by decide +kernel
theorem dX3_countTaken_0 : decode cX3_countTaken 0 = .ok (.iconst 0, 1) := by decide +kernel
theorem dX3_countTaken_1 : decode cX3_countTaken 1 = .ok (.istore_n 2, 1) := by decide +kernel
theorem dX3_countTaken_2 : decode cX3_countTaken 2 = .ok (.iload_n 2, 1) := by decide +kernel
theorem dX3_countTaken_3 : decode cX3_countTaken 3 = .ok (.bipush 18, 2) := by decide +kernel
theorem dX3_countTaken_5 : decode cX3_countTaken 5 = .ok (.if_icmp .ge 16, 3) := by decide +kernel
theorem dX3_countTaken_8 : decode cX3_countTaken 8 = .ok (.aload_n 0, 1) := by decide +kernel
theorem dX3_countTaken_9 : decode cX3_countTaken 9 = .ok (.getfield 23, 3) := by decide +kernel
theorem dX3_countTaken_12 : decode cX3_countTaken 12 = .ok (.iload_n 2, 1) := by decide +kernel
theorem dX3_countTaken_13 : decode cX3_countTaken 13 = .ok (.iconst 0, 1) := by decide +kernel
theorem dX3_countTaken_14 : decode cX3_countTaken 14 = .ok (.iastore, 1) := by decide +kernel
theorem dX3_countTaken_15 : decode cX3_countTaken 15 = .ok (.iinc 2 1, 3) := by decide +kernel
theorem dX3_countTaken_18 : decode cX3_countTaken 18 = .ok (.goto (-16), 3) := by decide +kernel
theorem dX3_countTaken_21 : decode cX3_countTaken 21 = .ok (.iconst 0, 1) := by decide +kernel
theorem dX3_countTaken_22 : decode cX3_countTaken 22 = .ok (.istore_n 2, 1) := by decide +kernel
theorem dX3_countTaken_23 : decode cX3_countTaken 23 = .ok (.iload_n 2, 1) := by decide +kernel
theorem dX3_countTaken_24 : decode cX3_countTaken 24 = .ok (.aload_n 1, 1) := by decide +kernel
theorem dX3_countTaken_25 : decode cX3_countTaken 25 = .ok (.invokevirtual 51, 3) := by decide +kernel
theorem dX3_countTaken_28 : decode cX3_countTaken 28 = .ok (.if_icmp .ge 80, 3) := by decide +kernel
theorem dX3_countTaken_31 : decode cX3_countTaken 31 = .ok (.aload_n 1, 1) := by decide +kernel
theorem dX3_countTaken_32 : decode cX3_countTaken 32 = .ok (.iload_n 2, 1) := by decide +kernel
theorem dX3_countTaken_33 : decode cX3_countTaken 33 = .ok (.invokevirtual 57, 3) := by decide +kernel
theorem dX3_countTaken_36 : decode cX3_countTaken 36 = .ok (.istore_n 3, 1) := by decide +kernel
theorem dX3_countTaken_37 : decode cX3_countTaken 37 = .ok (.iload_n 3, 1) := by decide +kernel
theorem dX3_countTaken_38 : decode cX3_countTaken 38 = .ok (.invokestatic 34, 3) := by decide +kernel
theorem dX3_countTaken_41 : decode cX3_countTaken 41 = .ok (.ifCond .eq 11, 3) := by decide +kernel
theorem dX3_countTaken_44 : decode cX3_countTaken 44 = .ok (.aload_n 0, 1) := by decide +kernel
theorem dX3_countTaken_45 : decode cX3_countTaken 45 = .ok (.iload_n 3, 1) := by decide +kernel
theorem dX3_countTaken_46 : decode cX3_countTaken 46 = .ok (.invokevirtual 84, 3) := by decide +kernel
theorem dX3_countTaken_49 : decode cX3_countTaken 49 = .ok (.goto 53, 3) := by decide +kernel
theorem dX3_countTaken_52 : decode cX3_countTaken 52 = .ok (.aload_n 0, 1) := by decide +kernel
theorem dX3_countTaken_53 : decode cX3_countTaken 53 = .ok (.bipush 10, 2) := by decide +kernel
theorem dX3_countTaken_55 : decode cX3_countTaken 55 = .ok (.iload_n 3, 1) := by decide +kernel
theorem dX3_countTaken_56 : decode cX3_countTaken 56 = .ok (.invokestatic 39, 3) := by decide +kernel
theorem dX3_countTaken_59 : decode cX3_countTaken 59 = .ok (.iadd, 1) := by decide +kernel
theorem dX3_countTaken_60 : decode cX3_countTaken 60 = .ok (.iconst 2, 1) := by decide +kernel
theorem dX3_countTaken_61 : decode cX3_countTaken 61 = .ok (.isub, 1) := by decide +kernel
theorem dX3_countTaken_62 : decode cX3_countTaken 62 = .ok (.invokevirtual 84, 3) := by decide +kernel
theorem dX3_countTaken_65 : decode cX3_countTaken 65 = .ok (.aload_n 0, 1) := by decide +kernel
theorem dX3_countTaken_66 : decode cX3_countTaken 66 = .ok (.iload_n 3, 1) := by decide +kernel
theorem dX3_countTaken_67 : decode cX3_countTaken 67 = .ok (.invokestatic 42, 3) := by decide +kernel
theorem dX3_countTaken_70 : decode cX3_countTaken 70 = .ok (.ifCond .eq 7, 3) := by decide +kernel
theorem dX3_countTaken_73 : decode cX3_countTaken 73 = .ok (.iconst 4, 1) := by decide +kernel
theorem dX3_countTaken_74 : decode cX3_countTaken 74 = .ok (.goto 5, 3) := by decide +kernel
theorem dX3_countTaken_77 : decode cX3_countTaken 77 = .ok (.bipush 17, 2) := by decide +kernel
theorem dX3_countTaken_79 : decode cX3_countTaken 79 = .ok (.invokevirtual 84, 3) := by decide +kernel
theorem dX3_countTaken_82 : decode cX3_countTaken 82 = .ok (.iload_n 3, 1) := by decide +kernel
theorem dX3_countTaken_83 : decode cX3_countTaken 83 = .ok (.invokestatic 42, 3) := by decide +kernel
theorem dX3_countTaken_86 : decode cX3_countTaken 86 = .ok (.ifCond .eq 16, 3) := by decide +kernel
theorem dX3_countTaken_89 : decode cX3_countTaken 89 = .ok (.aload_n 0, 1) := by decide +kernel
theorem dX3_countTaken_90 : decode cX3_countTaken 90 = .ok (.iconst 5, 1) := by decide +kernel
theorem dX3_countTaken_91 : decode cX3_countTaken 91 = .ok (.iload_n 3, 1) := by decide +kernel
theorem dX3_countTaken_92 : decode cX3_countTaken 92 = .ok (.invokestatic 45, 3) := by decide +kernel
theorem dX3_countTaken_95 : decode cX3_countTaken 95 = .ok (.invokestatic 48, 3) := by decide +kernel
theorem dX3_countTaken_98 : decode cX3_countTaken 98 = .ok (.iadd, 1) := by decide +kernel
theorem dX3_countTaken_99 : decode cX3_countTaken 99 = .ok (.invokevirtual 84, 3) := by decide +kernel
theorem dX3_countTaken_102 : decode cX3_countTaken 102 = .ok (.iinc 2 1, 3) := by decide +kernel
theorem dX3_countTaken_105 : decode cX3_countTaken 105 = .ok (.goto (-82), 3) := by decide +kernel
theorem dX3_countTaken_108 : decode cX3_countTaken 108 = .ok (.return_, 1) := by decide +kernel
theorem dX3_countOne_0 : decode cX3_countOne 0 = .ok (.iload_n 1, 1) := by decide +kernel
theorem dX3_countOne_1 : decode cX3_countOne 1 = .ok (.invokestatic 26, 3) := by decide +kernel
theorem dX3_countOne_4 : decode cX3_countOne 4 = .ok (.ifCond .eq 13, 3) := by decide +kernel
theorem dX3_countOne_7 : decode cX3_countOne 7 = .ok (.aload_n 0, 1) := by decide +kernel
theorem dX3_countOne_8 : decode cX3_countOne 8 = .ok (.getfield 23, 3) := by decide +kernel
theorem dX3_countOne_11 : decode cX3_countOne 11 = .ok (.iload_n 1, 1) := by decide +kernel
theorem dX3_countOne_12 : decode cX3_countOne 12 = .ok (.dup2, 1) := by decide +kernel
theorem dX3_countOne_13 : decode cX3_countOne 13 = .ok (.iaload, 1) := by decide +kernel
theorem dX3_countOne_14 : decode cX3_countOne 14 = .ok (.iconst 1, 1) := by decide +kernel
theorem dX3_countOne_15 : decode cX3_countOne 15 = .ok (.iadd, 1) := by decide +kernel
theorem dX3_countOne_16 : decode cX3_countOne 16 = .ok (.iastore, 1) := by decide +kernel
theorem dX3_countOne_17 : decode cX3_countOne 17 = .ok (.return_, 1) := by decide +kernel
theorem dX4_init_0 : decode cX4_init 0 = .ok (.aload_n 0, 1) := by decide +kernel
theorem dX4_init_1 : decode cX4_init 1 = .ok (.invokespecial 3, 3) := by decide +kernel
theorem dX4_init_4 : decode cX4_init 4 = .ok (.aload_n 0, 1) := by decide +kernel
theorem dX4_init_5 : decode cX4_init 5 = .ok (.bipush 24, 2) := by decide +kernel
theorem dX4_init_7 : decode cX4_init 7 = .ok (.newarray .int, 2) := by decide +kernel
theorem dX4_init_9 : decode cX4_init 9 = .ok (.putfield 9, 3) := by decide +kernel
theorem dX4_init_12 : decode cX4_init 12 = .ok (.aload_n 0, 1) := by decide +kernel
theorem dX4_init_13 : decode cX4_init 13 = .ok (.bipush 24, 2) := by decide +kernel
theorem dX4_init_15 : decode cX4_init 15 = .ok (.bipush 24, 2) := by decide +kernel
theorem dX4_init_17 : decode cX4_init 17 = .ok (.multianewarray 15 2, 4) := by decide +kernel
theorem dX4_init_21 : decode cX4_init 21 = .ok (.putfield 17, 3) := by decide +kernel
theorem dX4_init_24 : decode cX4_init 24 = .ok (.aload_n 0, 1) := by decide +kernel
theorem dX4_init_25 : decode cX4_init 25 = .ok (.iconst 0, 1) := by decide +kernel
theorem dX4_init_26 : decode cX4_init 26 = .ok (.putfield 20, 3) := by decide +kernel
theorem dX4_init_29 : decode cX4_init 29 = .ok (.return_, 1) := by decide +kernel
theorem dX4_clear_0 : decode cX4_clear 0 = .ok (.aload_n 0, 1) := by decide +kernel
theorem dX4_clear_1 : decode cX4_clear 1 = .ok (.iconst 0, 1) := by decide +kernel
theorem dX4_clear_2 : decode cX4_clear 2 = .ok (.putfield 20, 3) := by decide +kernel
theorem dX4_clear_5 : decode cX4_clear 5 = .ok (.return_, 1) := by decide +kernel
theorem dX4_add_0 : decode cX4_add 0 = .ok (.aload_n 0, 1) := by decide +kernel
theorem dX4_add_1 : decode cX4_add 1 = .ok (.getfield 20, 3) := by decide +kernel
theorem dX4_add_4 : decode cX4_add 4 = .ok (.bipush 24, 2) := by decide +kernel
theorem dX4_add_6 : decode cX4_add 6 = .ok (.if_icmp .lt 4, 3) := by decide +kernel
theorem dX4_add_9 : decode cX4_add 9 = .ok (.return_, 1) := by decide +kernel
theorem dX4_add_10 : decode cX4_add 10 = .ok (.aload_n 0, 1) := by decide +kernel
theorem dX4_add_11 : decode cX4_add 11 = .ok (.getfield 9, 3) := by decide +kernel
theorem dX4_add_14 : decode cX4_add 14 = .ok (.aload_n 0, 1) := by decide +kernel
theorem dX4_add_15 : decode cX4_add 15 = .ok (.getfield 20, 3) := by decide +kernel
theorem dX4_add_18 : decode cX4_add 18 = .ok (.iload_n 1, 1) := by decide +kernel
theorem dX4_add_19 : decode cX4_add 19 = .ok (.iastore, 1) := by decide +kernel
theorem dX4_add_20 : decode cX4_add 20 = .ok (.aload_n 0, 1) := by decide +kernel
theorem dX4_add_21 : decode cX4_add 21 = .ok (.dup, 1) := by decide +kernel
theorem dX4_add_22 : decode cX4_add 22 = .ok (.getfield 20, 3) := by decide +kernel
theorem dX4_add_25 : decode cX4_add 25 = .ok (.iconst 1, 1) := by decide +kernel
theorem dX4_add_26 : decode cX4_add 26 = .ok (.iadd, 1) := by decide +kernel
theorem dX4_add_27 : decode cX4_add 27 = .ok (.putfield 20, 3) := by decide +kernel
theorem dX4_add_30 : decode cX4_add 30 = .ok (.return_, 1) := by decide +kernel
theorem dX4_size_0 : decode cX4_size 0 = .ok (.aload_n 0, 1) := by decide +kernel
theorem dX4_size_1 : decode cX4_size 1 = .ok (.getfield 20, 3) := by decide +kernel
theorem dX4_size_4 : decode cX4_size 4 = .ok (.ireturn, 1) := by decide +kernel
theorem dX4_has_0 : decode cX4_has 0 = .ok (.iload_n 1, 1) := by decide +kernel
theorem dX4_has_1 : decode cX4_has 1 = .ok (.ifCond .lt 15, 3) := by decide +kernel
theorem dX4_has_4 : decode cX4_has 4 = .ok (.iload_n 1, 1) := by decide +kernel
theorem dX4_has_5 : decode cX4_has 5 = .ok (.aload_n 0, 1) := by decide +kernel
theorem dX4_has_6 : decode cX4_has 6 = .ok (.getfield 20, 3) := by decide +kernel
theorem dX4_has_9 : decode cX4_has 9 = .ok (.if_icmp .ge 7, 3) := by decide +kernel
theorem dX4_has_12 : decode cX4_has 12 = .ok (.iconst 1, 1) := by decide +kernel
theorem dX4_has_13 : decode cX4_has 13 = .ok (.goto 4, 3) := by decide +kernel
theorem dX4_has_16 : decode cX4_has 16 = .ok (.iconst 0, 1) := by decide +kernel
theorem dX4_has_17 : decode cX4_has 17 = .ok (.ireturn, 1) := by decide +kernel
theorem dX4_letterAt_0 : decode cX4_letterAt 0 = .ok (.aload_n 0, 1) := by decide +kernel
theorem dX4_letterAt_1 : decode cX4_letterAt 1 = .ok (.iload_n 1, 1) := by decide +kernel
theorem dX4_letterAt_2 : decode cX4_letterAt 2 = .ok (.invokevirtual 24, 3) := by decide +kernel
theorem dX4_letterAt_5 : decode cX4_letterAt 5 = .ok (.ifCond .eq 12, 3) := by decide +kernel
theorem dX4_letterAt_8 : decode cX4_letterAt 8 = .ok (.aload_n 0, 1) := by decide +kernel
theorem dX4_letterAt_9 : decode cX4_letterAt 9 = .ok (.getfield 9, 3) := by decide +kernel
theorem dX4_letterAt_12 : decode cX4_letterAt 12 = .ok (.iload_n 1, 1) := by decide +kernel
theorem dX4_letterAt_13 : decode cX4_letterAt 13 = .ok (.iaload, 1) := by decide +kernel
theorem dX4_letterAt_14 : decode cX4_letterAt 14 = .ok (.goto 4, 3) := by decide +kernel
theorem dX4_letterAt_17 : decode cX4_letterAt 17 = .ok (.iconst 0, 1) := by decide +kernel
theorem dX4_letterAt_18 : decode cX4_letterAt 18 = .ok (.ireturn, 1) := by decide +kernel
theorem dX4_compare_0 : decode cX4_compare 0 = .ok (.aload_n 0, 1) := by decide +kernel
theorem dX4_compare_1 : decode cX4_compare 1 = .ok (.getfield 20, 3) := by decide +kernel
theorem dX4_compare_4 : decode cX4_compare 4 = .ok (.iconst 1, 1) := by decide +kernel
theorem dX4_compare_5 : decode cX4_compare 5 = .ok (.isub, 1) := by decide +kernel
theorem dX4_compare_6 : decode cX4_compare 6 = .ok (.istore_n 1, 1) := by decide +kernel
theorem dX4_compare_7 : decode cX4_compare 7 = .ok (.iload_n 1, 1) := by decide +kernel
theorem dX4_compare_8 : decode cX4_compare 8 = .ok (.ifCond .lt 76, 3) := by decide +kernel
theorem dX4_compare_11 : decode cX4_compare 11 = .ok (.iconst 1, 1) := by decide +kernel
theorem dX4_compare_12 : decode cX4_compare 12 = .ok (.istore_n 2, 1) := by decide +kernel
theorem dX4_compare_13 : decode cX4_compare 13 = .ok (.iload_n 2, 1) := by decide +kernel
theorem dX4_compare_14 : decode cX4_compare 14 = .ok (.iload_n 1, 1) := by decide +kernel
theorem dX4_compare_15 : decode cX4_compare 15 = .ok (.if_icmp .gt 63, 3) := by decide +kernel
theorem dX4_compare_18 : decode cX4_compare 18 = .ok (.aload_n 0, 1) := by decide +kernel
theorem dX4_compare_19 : decode cX4_compare 19 = .ok (.getfield 9, 3) := by decide +kernel
theorem dX4_compare_22 : decode cX4_compare 22 = .ok (.iload_n 1, 1) := by decide +kernel
theorem dX4_compare_23 : decode cX4_compare 23 = .ok (.iaload, 1) := by decide +kernel
theorem dX4_compare_24 : decode cX4_compare 24 = .ok (.aload_n 0, 1) := by decide +kernel
theorem dX4_compare_25 : decode cX4_compare 25 = .ok (.getfield 9, 3) := by decide +kernel
theorem dX4_compare_28 : decode cX4_compare 28 = .ok (.iload_n 1, 1) := by decide +kernel
theorem dX4_compare_29 : decode cX4_compare 29 = .ok (.iload_n 2, 1) := by decide +kernel
theorem dX4_compare_30 : decode cX4_compare 30 = .ok (.isub, 1) := by decide +kernel
theorem dX4_compare_31 : decode cX4_compare 31 = .ok (.iaload, 1) := by decide +kernel
theorem dX4_compare_32 : decode cX4_compare 32 = .ok (.if_icmp .ne 7, 3) := by decide +kernel
theorem dX4_compare_35 : decode cX4_compare 35 = .ok (.iconst 1, 1) := by decide +kernel
theorem dX4_compare_36 : decode cX4_compare 36 = .ok (.goto 4, 3) := by decide +kernel
theorem dX4_compare_39 : decode cX4_compare 39 = .ok (.iconst 0, 1) := by decide +kernel
theorem dX4_compare_40 : decode cX4_compare 40 = .ok (.istore_n 3, 1) := by decide +kernel
theorem dX4_compare_41 : decode cX4_compare 41 = .ok (.aload_n 0, 1) := by decide +kernel
theorem dX4_compare_42 : decode cX4_compare 42 = .ok (.getfield 17, 3) := by decide +kernel
theorem dX4_compare_45 : decode cX4_compare 45 = .ok (.iload_n 1, 1) := by decide +kernel
theorem dX4_compare_46 : decode cX4_compare 46 = .ok (.aaload, 1) := by decide +kernel
theorem dX4_compare_47 : decode cX4_compare 47 = .ok (.iload_n 2, 1) := by decide +kernel
theorem dX4_compare_48 : decode cX4_compare 48 = .ok (.iload_n 3, 1) := by decide +kernel
theorem dX4_compare_49 : decode cX4_compare 49 = .ok (.ifCond .eq 21, 3) := by decide +kernel
theorem dX4_compare_52 : decode cX4_compare 52 = .ok (.bipush 8, 2) := by decide +kernel
theorem dX4_compare_54 : decode cX4_compare 54 = .ok (.iconst 1, 1) := by decide +kernel
theorem dX4_compare_55 : decode cX4_compare 55 = .ok (.aload_n 0, 1) := by decide +kernel
theorem dX4_compare_56 : decode cX4_compare 56 = .ok (.iload_n 1, 1) := by decide +kernel
theorem dX4_compare_57 : decode cX4_compare 57 = .ok (.iconst 1, 1) := by decide +kernel
theorem dX4_compare_58 : decode cX4_compare 58 = .ok (.iadd, 1) := by decide +kernel
theorem dX4_compare_59 : decode cX4_compare 59 = .ok (.iload_n 2, 1) := by decide +kernel
theorem dX4_compare_60 : decode cX4_compare 60 = .ok (.invokevirtual 28, 3) := by decide +kernel
theorem dX4_compare_63 : decode cX4_compare 63 = .ok (.iadd, 1) := by decide +kernel
theorem dX4_compare_64 : decode cX4_compare 64 = .ok (.invokestatic 32, 3) := by decide +kernel
theorem dX4_compare_67 : decode cX4_compare 67 = .ok (.goto 4, 3) := by decide +kernel
theorem dX4_compare_70 : decode cX4_compare 70 = .ok (.iconst 0, 1) := by decide +kernel
theorem dX4_compare_71 : decode cX4_compare 71 = .ok (.iastore, 1) := by decide +kernel
theorem dX4_compare_72 : decode cX4_compare 72 = .ok (.iinc 2 1, 3) := by decide +kernel
theorem dX4_compare_75 : decode cX4_compare 75 = .ok (.goto (-62), 3) := by decide +kernel
theorem dX4_compare_78 : decode cX4_compare 78 = .ok (.iinc 1 (-1), 3) := by decide +kernel
theorem dX4_compare_81 : decode cX4_compare 81 = .ok (.goto (-74), 3) := by decide +kernel
theorem dX4_compare_84 : decode cX4_compare 84 = .ok (.return_, 1) := by decide +kernel
theorem dX4_likeness_0 : decode cX4_likeness 0 = .ok (.iload_n 1, 1) := by decide +kernel
theorem dX4_likeness_1 : decode cX4_likeness 1 = .ok (.aload_n 0, 1) := by decide +kernel
theorem dX4_likeness_2 : decode cX4_likeness 2 = .ok (.getfield 20, 3) := by decide +kernel
theorem dX4_likeness_5 : decode cX4_likeness 5 = .ok (.if_icmp .ge 24, 3) := by decide +kernel
theorem dX4_likeness_8 : decode cX4_likeness 8 = .ok (.iload_n 2, 1) := by decide +kernel
theorem dX4_likeness_9 : decode cX4_likeness 9 = .ok (.iconst 1, 1) := by decide +kernel
theorem dX4_likeness_10 : decode cX4_likeness 10 = .ok (.if_icmp .lt 19, 3) := by decide +kernel
theorem dX4_likeness_13 : decode cX4_likeness 13 = .ok (.iload_n 2, 1) := by decide +kernel
theorem dX4_likeness_14 : decode cX4_likeness 14 = .ok (.iload_n 1, 1) := by decide +kernel
theorem dX4_likeness_15 : decode cX4_likeness 15 = .ok (.if_icmp .gt 14, 3) := by decide +kernel
theorem dX4_likeness_18 : decode cX4_likeness 18 = .ok (.aload_n 0, 1) := by decide +kernel
theorem dX4_likeness_19 : decode cX4_likeness 19 = .ok (.getfield 17, 3) := by decide +kernel
theorem dX4_likeness_22 : decode cX4_likeness 22 = .ok (.iload_n 1, 1) := by decide +kernel
theorem dX4_likeness_23 : decode cX4_likeness 23 = .ok (.aaload, 1) := by decide +kernel
theorem dX4_likeness_24 : decode cX4_likeness 24 = .ok (.iload_n 2, 1) := by decide +kernel
theorem dX4_likeness_25 : decode cX4_likeness 25 = .ok (.iaload, 1) := by decide +kernel
theorem dX4_likeness_26 : decode cX4_likeness 26 = .ok (.goto 4, 3) := by decide +kernel
theorem dX4_likeness_29 : decode cX4_likeness 29 = .ok (.iconst 0, 1) := by decide +kernel
theorem dX4_likeness_30 : decode cX4_likeness 30 = .ok (.ireturn, 1) := by decide +kernel
theorem dX4_longestDistance_0 : decode cX4_longestDistance 0 = .ok (.iconst 0, 1) := by decide +kernel
theorem dX4_longestDistance_1 : decode cX4_longestDistance 1 = .ok (.istore_n 2, 1) := by decide +kernel
theorem dX4_longestDistance_2 : decode cX4_longestDistance 2 = .ok (.iconst 1, 1) := by decide +kernel
theorem dX4_longestDistance_3 : decode cX4_longestDistance 3 = .ok (.istore_n 3, 1) := by decide +kernel
theorem dX4_longestDistance_4 : decode cX4_longestDistance 4 = .ok (.iconst 1, 1) := by decide +kernel
theorem dX4_longestDistance_5 : decode cX4_longestDistance 5 = .ok (.istore 4, 2) := by decide +kernel
theorem dX4_longestDistance_7 : decode cX4_longestDistance 7 = .ok (.aload_n 0, 1) := by decide +kernel
theorem dX4_longestDistance_8 : decode cX4_longestDistance 8 = .ok (.iload_n 1, 1) := by decide +kernel
theorem dX4_longestDistance_9 : decode cX4_longestDistance 9 = .ok (.invokevirtual 24, 3) := by decide +kernel
theorem dX4_longestDistance_12 : decode cX4_longestDistance 12 = .ok (.ifCond .eq 36, 3) := by decide +kernel
theorem dX4_longestDistance_15 : decode cX4_longestDistance 15 = .ok (.iload 4, 2) := by decide +kernel
theorem dX4_longestDistance_17 : decode cX4_longestDistance 17 = .ok (.iload_n 1, 1) := by decide +kernel
theorem dX4_longestDistance_18 : decode cX4_longestDistance 18 = .ok (.if_icmp .gt 30, 3) := by decide +kernel
theorem dX4_longestDistance_21 : decode cX4_longestDistance 21 = .ok (.aload_n 0, 1) := by decide +kernel
theorem dX4_longestDistance_22 : decode cX4_longestDistance 22 = .ok (.iload_n 1, 1) := by decide +kernel
theorem dX4_longestDistance_23 : decode cX4_longestDistance 23 = .ok (.iload 4, 2) := by decide +kernel
theorem dX4_longestDistance_25 : decode cX4_longestDistance 25 = .ok (.invokevirtual 28, 3) := by decide +kernel
theorem dX4_longestDistance_28 : decode cX4_longestDistance 28 = .ok (.istore 5, 2) := by decide +kernel
theorem dX4_longestDistance_30 : decode cX4_longestDistance 30 = .ok (.iload 5, 2) := by decide +kernel
theorem dX4_longestDistance_32 : decode cX4_longestDistance 32 = .ok (.iload_n 3, 1) := by decide +kernel
theorem dX4_longestDistance_33 : decode cX4_longestDistance 33 = .ok (.if_icmp .le 9, 3) := by decide +kernel
theorem dX4_longestDistance_36 : decode cX4_longestDistance 36 = .ok (.iload 5, 2) := by decide +kernel
theorem dX4_longestDistance_38 : decode cX4_longestDistance 38 = .ok (.istore_n 3, 1) := by decide +kernel
theorem dX4_longestDistance_39 : decode cX4_longestDistance 39 = .ok (.iload 4, 2) := by decide +kernel
theorem dX4_longestDistance_41 : decode cX4_longestDistance 41 = .ok (.istore_n 2, 1) := by decide +kernel
theorem dX4_longestDistance_42 : decode cX4_longestDistance 42 = .ok (.iinc 4 1, 3) := by decide +kernel
theorem dX4_longestDistance_45 : decode cX4_longestDistance 45 = .ok (.goto (-38), 3) := by decide +kernel
theorem dX4_longestDistance_48 : decode cX4_longestDistance 48 = .ok (.iload_n 2, 1) := by decide +kernel
theorem dX4_longestDistance_49 : decode cX4_longestDistance 49 = .ok (.ireturn, 1) := by decide +kernel
theorem dX4_chainPlace_0 : decode cX4_chainPlace 0 = .ok (.iconst 0, 1) := by decide +kernel
theorem dX4_chainPlace_1 : decode cX4_chainPlace 1 = .ok (.istore_n 3, 1) := by decide +kernel
theorem dX4_chainPlace_2 : decode cX4_chainPlace 2 = .ok (.iconst 1, 1) := by decide +kernel
theorem dX4_chainPlace_3 : decode cX4_chainPlace 3 = .ok (.istore 4, 2) := by decide +kernel
theorem dX4_chainPlace_5 : decode cX4_chainPlace 5 = .ok (.aload_n 0, 1) := by decide +kernel
theorem dX4_chainPlace_6 : decode cX4_chainPlace 6 = .ok (.iload_n 1, 1) := by decide +kernel
theorem dX4_chainPlace_7 : decode cX4_chainPlace 7 = .ok (.invokevirtual 24, 3) := by decide +kernel
theorem dX4_chainPlace_10 : decode cX4_chainPlace 10 = .ok (.ifCond .eq 39, 3) := by decide +kernel
theorem dX4_chainPlace_13 : decode cX4_chainPlace 13 = .ok (.iload 4, 2) := by decide +kernel
theorem dX4_chainPlace_15 : decode cX4_chainPlace 15 = .ok (.iload_n 1, 1) := by decide +kernel
theorem dX4_chainPlace_16 : decode cX4_chainPlace 16 = .ok (.if_icmp .gt 33, 3) := by decide +kernel
theorem dX4_chainPlace_19 : decode cX4_chainPlace 19 = .ok (.aload_n 0, 1) := by decide +kernel
theorem dX4_chainPlace_20 : decode cX4_chainPlace 20 = .ok (.iload_n 1, 1) := by decide +kernel
theorem dX4_chainPlace_21 : decode cX4_chainPlace 21 = .ok (.iload 4, 2) := by decide +kernel
theorem dX4_chainPlace_23 : decode cX4_chainPlace 23 = .ok (.invokevirtual 28, 3) := by decide +kernel
theorem dX4_chainPlace_26 : decode cX4_chainPlace 26 = .ok (.iconst 2, 1) := by decide +kernel
theorem dX4_chainPlace_27 : decode cX4_chainPlace 27 = .ok (.if_icmp .lt 16, 3) := by decide +kernel
theorem dX4_chainPlace_30 : decode cX4_chainPlace 30 = .ok (.iload_n 3, 1) := by decide +kernel
theorem dX4_chainPlace_31 : decode cX4_chainPlace 31 = .ok (.iload_n 2, 1) := by decide +kernel
theorem dX4_chainPlace_32 : decode cX4_chainPlace 32 = .ok (.if_icmp .ne 8, 3) := by decide +kernel
theorem dX4_chainPlace_35 : decode cX4_chainPlace 35 = .ok (.iload_n 1, 1) := by decide +kernel
theorem dX4_chainPlace_36 : decode cX4_chainPlace 36 = .ok (.iload 4, 2) := by decide +kernel
theorem dX4_chainPlace_38 : decode cX4_chainPlace 38 = .ok (.isub, 1) := by decide +kernel
theorem dX4_chainPlace_39 : decode cX4_chainPlace 39 = .ok (.ireturn, 1) := by decide +kernel
theorem dX4_chainPlace_40 : decode cX4_chainPlace 40 = .ok (.iinc 3 1, 3) := by decide +kernel
theorem dX4_chainPlace_43 : decode cX4_chainPlace 43 = .ok (.iinc 4 1, 3) := by decide +kernel
theorem dX4_chainPlace_46 : decode cX4_chainPlace 46 = .ok (.goto (-41), 3) := by decide +kernel
theorem dX4_chainPlace_49 : decode cX4_chainPlace 49 = .ok (.iconst (-1), 1) := by decide +kernel
theorem dX4_chainPlace_50 : decode cX4_chainPlace 50 = .ok (.ireturn, 1) := by decide +kernel
theorem dX5_again_0 : decode cX5_again 0 = .ok (.bipush 100, 2) := by decide +kernel
theorem dX5_again_2 : decode cX5_again 2 = .ok (.iload_n 0, 1) := by decide +kernel
theorem dX5_again_3 : decode cX5_again 3 = .ok (.iadd, 1) := by decide +kernel
theorem dX5_again_4 : decode cX5_again 4 = .ok (.ireturn, 1) := by decide +kernel
theorem dX5_copy_0 : decode cX5_copy 0 = .ok (.sipush 1000, 3) := by decide +kernel
theorem dX5_copy_3 : decode cX5_copy 3 = .ok (.bipush 10, 2) := by decide +kernel
theorem dX5_copy_5 : decode cX5_copy 5 = .ok (.iload_n 0, 1) := by decide +kernel
theorem dX5_copy_6 : decode cX5_copy 6 = .ok (.imul, 1) := by decide +kernel
theorem dX5_copy_7 : decode cX5_copy 7 = .ok (.iadd, 1) := by decide +kernel
theorem dX5_copy_8 : decode cX5_copy 8 = .ok (.iload_n 1, 1) := by decide +kernel
theorem dX5_copy_9 : decode cX5_copy 9 = .ok (.iadd, 1) := by decide +kernel
theorem dX5_copy_10 : decode cX5_copy 10 = .ok (.ireturn, 1) := by decide +kernel
theorem dX5_isPlain_0 : decode cX5_isPlain 0 = .ok (.iload_n 0, 1) := by decide +kernel
theorem dX5_isPlain_1 : decode cX5_isPlain 1 = .ok (.bipush 100, 2) := by decide +kernel
theorem dX5_isPlain_3 : decode cX5_isPlain 3 = .ok (.if_icmp .ge 7, 3) := by decide +kernel
theorem dX5_isPlain_6 : decode cX5_isPlain 6 = .ok (.iconst 1, 1) := by decide +kernel
theorem dX5_isPlain_7 : decode cX5_isPlain 7 = .ok (.goto 4, 3) := by decide +kernel
theorem dX5_isPlain_10 : decode cX5_isPlain 10 = .ok (.iconst 0, 1) := by decide +kernel
theorem dX5_isPlain_11 : decode cX5_isPlain 11 = .ok (.ireturn, 1) := by decide +kernel
theorem dX5_isCopy_0 : decode cX5_isCopy 0 = .ok (.iload_n 0, 1) := by decide +kernel
theorem dX5_isCopy_1 : decode cX5_isCopy 1 = .ok (.sipush 1000, 3) := by decide +kernel
theorem dX5_isCopy_4 : decode cX5_isCopy 4 = .ok (.if_icmp .lt 7, 3) := by decide +kernel
theorem dX5_isCopy_7 : decode cX5_isCopy 7 = .ok (.iconst 1, 1) := by decide +kernel
theorem dX5_isCopy_8 : decode cX5_isCopy 8 = .ok (.goto 4, 3) := by decide +kernel
theorem dX5_isCopy_11 : decode cX5_isCopy 11 = .ok (.iconst 0, 1) := by decide +kernel
theorem dX5_isCopy_12 : decode cX5_isCopy 12 = .ok (.ireturn, 1) := by decide +kernel
theorem dX5_lengthOf_0 : decode cX5_lengthOf 0 = .ok (.iload_n 0, 1) := by decide +kernel
theorem dX5_lengthOf_1 : decode cX5_lengthOf 1 = .ok (.bipush 100, 2) := by decide +kernel
theorem dX5_lengthOf_3 : decode cX5_lengthOf 3 = .ok (.if_icmp .ge 7, 3) := by decide +kernel
theorem dX5_lengthOf_6 : decode cX5_lengthOf 6 = .ok (.iconst 1, 1) := by decide +kernel
theorem dX5_lengthOf_7 : decode cX5_lengthOf 7 = .ok (.goto 7, 3) := by decide +kernel
theorem dX5_lengthOf_10 : decode cX5_lengthOf 10 = .ok (.iload_n 0, 1) := by decide +kernel
theorem dX5_lengthOf_11 : decode cX5_lengthOf 11 = .ok (.bipush 10, 2) := by decide +kernel
theorem dX5_lengthOf_13 : decode cX5_lengthOf 13 = .ok (.irem, 1) := by decide +kernel
theorem dX5_lengthOf_14 : decode cX5_lengthOf 14 = .ok (.ireturn, 1) := by decide +kernel
theorem dX5_distanceOf_0 : decode cX5_distanceOf 0 = .ok (.iload_n 0, 1) := by decide +kernel
theorem dX5_distanceOf_1 : decode cX5_distanceOf 1 = .ok (.sipush 1000, 3) := by decide +kernel
theorem dX5_distanceOf_4 : decode cX5_distanceOf 4 = .ok (.if_icmp .ge 7, 3) := by decide +kernel
theorem dX5_distanceOf_7 : decode cX5_distanceOf 7 = .ok (.iconst 0, 1) := by decide +kernel
theorem dX5_distanceOf_8 : decode cX5_distanceOf 8 = .ok (.goto 11, 3) := by decide +kernel
theorem dX5_distanceOf_11 : decode cX5_distanceOf 11 = .ok (.iload_n 0, 1) := by decide +kernel
theorem dX5_distanceOf_12 : decode cX5_distanceOf 12 = .ok (.sipush 1000, 3) := by decide +kernel
theorem dX5_distanceOf_15 : decode cX5_distanceOf 15 = .ok (.isub, 1) := by decide +kernel
theorem dX5_distanceOf_16 : decode cX5_distanceOf 16 = .ok (.bipush 10, 2) := by decide +kernel
theorem dX5_distanceOf_18 : decode cX5_distanceOf 18 = .ok (.idiv, 1) := by decide +kernel
theorem dX5_distanceOf_19 : decode cX5_distanceOf 19 = .ok (.ireturn, 1) := by decide +kernel
theorem dX5_signsOf_0 : decode cX5_signsOf 0 = .ok (.iload_n 0, 1) := by decide +kernel
theorem dX5_signsOf_1 : decode cX5_signsOf 1 = .ok (.invokestatic 9, 3) := by decide +kernel
theorem dX5_signsOf_4 : decode cX5_signsOf 4 = .ok (.ifCond .eq 7, 3) := by decide +kernel
theorem dX5_signsOf_7 : decode cX5_signsOf 7 = .ok (.iconst 1, 1) := by decide +kernel
theorem dX5_signsOf_8 : decode cX5_signsOf 8 = .ok (.goto 4, 3) := by decide +kernel
theorem dX5_signsOf_11 : decode cX5_signsOf 11 = .ok (.iconst 2, 1) := by decide +kernel
theorem dX5_signsOf_12 : decode cX5_signsOf 12 = .ok (.ireturn, 1) := by decide +kernel
theorem dX5_signOf_0 : decode cX5_signOf 0 = .ok (.iload_n 0, 1) := by decide +kernel
theorem dX5_signOf_1 : decode cX5_signOf 1 = .ok (.invokestatic 9, 3) := by decide +kernel
theorem dX5_signOf_4 : decode cX5_signOf 4 = .ok (.ifCond .eq 8, 3) := by decide +kernel
theorem dX5_signOf_7 : decode cX5_signOf 7 = .ok (.bipush 97, 2) := by decide +kernel
theorem dX5_signOf_9 : decode cX5_signOf 9 = .ok (.iload_n 0, 1) := by decide +kernel
theorem dX5_signOf_10 : decode cX5_signOf 10 = .ok (.iadd, 1) := by decide +kernel
theorem dX5_signOf_11 : decode cX5_signOf 11 = .ok (.ireturn, 1) := by decide +kernel
theorem dX5_signOf_12 : decode cX5_signOf 12 = .ok (.iload_n 1, 1) := by decide +kernel
theorem dX5_signOf_13 : decode cX5_signOf 13 = .ok (.ifCond .le 11, 3) := by decide +kernel
theorem dX5_signOf_16 : decode cX5_signOf 16 = .ok (.bipush 48, 2) := by decide +kernel
theorem dX5_signOf_18 : decode cX5_signOf 18 = .ok (.iload_n 0, 1) := by decide +kernel
theorem dX5_signOf_19 : decode cX5_signOf 19 = .ok (.invokestatic 15, 3) := by decide +kernel
theorem dX5_signOf_22 : decode cX5_signOf 22 = .ok (.iadd, 1) := by decide +kernel
theorem dX5_signOf_23 : decode cX5_signOf 23 = .ok (.ireturn, 1) := by decide +kernel
theorem dX5_signOf_24 : decode cX5_signOf 24 = .ok (.iload_n 0, 1) := by decide +kernel
theorem dX5_signOf_25 : decode cX5_signOf 25 = .ok (.invokestatic 19, 3) := by decide +kernel
theorem dX5_signOf_28 : decode cX5_signOf 28 = .ok (.ifCond .eq 15, 3) := by decide +kernel
theorem dX5_signOf_31 : decode cX5_signOf 31 = .ok (.bipush 65, 2) := by decide +kernel
theorem dX5_signOf_33 : decode cX5_signOf 33 = .ok (.iload_n 0, 1) := by decide +kernel
theorem dX5_signOf_34 : decode cX5_signOf 34 = .ok (.invokestatic 22, 3) := by decide +kernel
theorem dX5_signOf_37 : decode cX5_signOf 37 = .ok (.iadd, 1) := by decide +kernel
theorem dX5_signOf_38 : decode cX5_signOf 38 = .ok (.iconst 1, 1) := by decide +kernel
theorem dX5_signOf_39 : decode cX5_signOf 39 = .ok (.isub, 1) := by decide +kernel
theorem dX5_signOf_40 : decode cX5_signOf 40 = .ok (.goto 5, 3) := by decide +kernel
theorem dX5_signOf_43 : decode cX5_signOf 43 = .ok (.bipush 61, 2) := by decide +kernel
theorem dX5_signOf_45 : decode cX5_signOf 45 = .ok (.ireturn, 1) := by decide +kernel
theorem dX6_init_0 : decode cX6_init 0 = .ok (.aload_n 0, 1) := by decide +kernel
theorem dX6_init_1 : decode cX6_init 1 = .ok (.invokespecial 3, 3) := by decide +kernel
theorem dX6_init_4 : decode cX6_init 4 = .ok (.aload_n 0, 1) := by decide +kernel
theorem dX6_init_5 : decode cX6_init 5 = .ok (.bipush 24, 2) := by decide +kernel
theorem dX6_init_7 : decode cX6_init 7 = .ok (.newarray .int, 2) := by decide +kernel
theorem dX6_init_9 : decode cX6_init 9 = .ok (.putfield 9, 3) := by decide +kernel
theorem dX6_init_12 : decode cX6_init 12 = .ok (.aload_n 0, 1) := by decide +kernel
theorem dX6_init_13 : decode cX6_init 13 = .ok (.iconst 0, 1) := by decide +kernel
theorem dX6_init_14 : decode cX6_init 14 = .ok (.putfield 15, 3) := by decide +kernel
theorem dX6_init_17 : decode cX6_init 17 = .ok (.aload_n 0, 1) := by decide +kernel
theorem dX6_init_18 : decode cX6_init 18 = .ok (.iconst 0, 1) := by decide +kernel
theorem dX6_init_19 : decode cX6_init 19 = .ok (.putfield 19, 3) := by decide +kernel
theorem dX6_init_22 : decode cX6_init 22 = .ok (.aload_n 0, 1) := by decide +kernel
theorem dX6_init_23 : decode cX6_init 23 = .ok (.iconst 0, 1) := by decide +kernel
theorem dX6_init_24 : decode cX6_init 24 = .ok (.putfield 22, 3) := by decide +kernel
theorem dX6_init_27 : decode cX6_init 27 = .ok (.return_, 1) := by decide +kernel
theorem dX6_clear_0 : decode cX6_clear 0 = .ok (.aload_n 0, 1) := by decide +kernel
theorem dX6_clear_1 : decode cX6_clear 1 = .ok (.iconst 0, 1) := by decide +kernel
theorem dX6_clear_2 : decode cX6_clear 2 = .ok (.putfield 15, 3) := by decide +kernel
theorem dX6_clear_5 : decode cX6_clear 5 = .ok (.aload_n 0, 1) := by decide +kernel
theorem dX6_clear_6 : decode cX6_clear 6 = .ok (.iconst 0, 1) := by decide +kernel
theorem dX6_clear_7 : decode cX6_clear 7 = .ok (.putfield 19, 3) := by decide +kernel
theorem dX6_clear_10 : decode cX6_clear 10 = .ok (.aload_n 0, 1) := by decide +kernel
theorem dX6_clear_11 : decode cX6_clear 11 = .ok (.iconst 0, 1) := by decide +kernel
theorem dX6_clear_12 : decode cX6_clear 12 = .ok (.putfield 22, 3) := by decide +kernel
theorem dX6_clear_15 : decode cX6_clear 15 = .ok (.return_, 1) := by decide +kernel
theorem dX6_add_0 : decode cX6_add 0 = .ok (.aload_n 0, 1) := by decide +kernel
theorem dX6_add_1 : decode cX6_add 1 = .ok (.getfield 15, 3) := by decide +kernel
theorem dX6_add_4 : decode cX6_add 4 = .ok (.bipush 24, 2) := by decide +kernel
theorem dX6_add_6 : decode cX6_add 6 = .ok (.if_icmp .lt 4, 3) := by decide +kernel
theorem dX6_add_9 : decode cX6_add 9 = .ok (.return_, 1) := by decide +kernel
theorem dX6_add_10 : decode cX6_add 10 = .ok (.aload_n 0, 1) := by decide +kernel
theorem dX6_add_11 : decode cX6_add 11 = .ok (.getfield 9, 3) := by decide +kernel
theorem dX6_add_14 : decode cX6_add 14 = .ok (.aload_n 0, 1) := by decide +kernel
theorem dX6_add_15 : decode cX6_add 15 = .ok (.getfield 15, 3) := by decide +kernel
theorem dX6_add_18 : decode cX6_add 18 = .ok (.iload_n 1, 1) := by decide +kernel
theorem dX6_add_19 : decode cX6_add 19 = .ok (.iastore, 1) := by decide +kernel
theorem dX6_add_20 : decode cX6_add 20 = .ok (.aload_n 0, 1) := by decide +kernel
theorem dX6_add_21 : decode cX6_add 21 = .ok (.dup, 1) := by decide +kernel
theorem dX6_add_22 : decode cX6_add 22 = .ok (.getfield 15, 3) := by decide +kernel
theorem dX6_add_25 : decode cX6_add 25 = .ok (.iconst 1, 1) := by decide +kernel
theorem dX6_add_26 : decode cX6_add 26 = .ok (.iadd, 1) := by decide +kernel
theorem dX6_add_27 : decode cX6_add 27 = .ok (.putfield 15, 3) := by decide +kernel
theorem dX6_add_30 : decode cX6_add 30 = .ok (.iload_n 1, 1) := by decide +kernel
theorem dX6_add_31 : decode cX6_add 31 = .ok (.invokestatic 25, 3) := by decide +kernel
theorem dX6_add_34 : decode cX6_add 34 = .ok (.ifCond .eq 13, 3) := by decide +kernel
theorem dX6_add_37 : decode cX6_add 37 = .ok (.aload_n 0, 1) := by decide +kernel
theorem dX6_add_38 : decode cX6_add 38 = .ok (.dup, 1) := by decide +kernel
theorem dX6_add_39 : decode cX6_add 39 = .ok (.getfield 19, 3) := by decide +kernel
theorem dX6_add_42 : decode cX6_add 42 = .ok (.iconst 1, 1) := by decide +kernel
theorem dX6_add_43 : decode cX6_add 43 = .ok (.iadd, 1) := by decide +kernel
theorem dX6_add_44 : decode cX6_add 44 = .ok (.putfield 19, 3) := by decide +kernel
theorem dX6_add_47 : decode cX6_add 47 = .ok (.iload_n 1, 1) := by decide +kernel
theorem dX6_add_48 : decode cX6_add 48 = .ok (.invokestatic 31, 3) := by decide +kernel
theorem dX6_add_51 : decode cX6_add 51 = .ok (.ifCond .eq 13, 3) := by decide +kernel
theorem dX6_add_54 : decode cX6_add 54 = .ok (.aload_n 0, 1) := by decide +kernel
theorem dX6_add_55 : decode cX6_add 55 = .ok (.dup, 1) := by decide +kernel
theorem dX6_add_56 : decode cX6_add 56 = .ok (.getfield 22, 3) := by decide +kernel
theorem dX6_add_59 : decode cX6_add 59 = .ok (.iconst 1, 1) := by decide +kernel
theorem dX6_add_60 : decode cX6_add 60 = .ok (.iadd, 1) := by decide +kernel
theorem dX6_add_61 : decode cX6_add 61 = .ok (.putfield 22, 3) := by decide +kernel
theorem dX6_add_64 : decode cX6_add 64 = .ok (.return_, 1) := by decide +kernel
theorem dX6_size_0 : decode cX6_size 0 = .ok (.aload_n 0, 1) := by decide +kernel
theorem dX6_size_1 : decode cX6_size 1 = .ok (.getfield 15, 3) := by decide +kernel
theorem dX6_size_4 : decode cX6_size 4 = .ok (.ireturn, 1) := by decide +kernel
theorem dX6_plains_0 : decode cX6_plains 0 = .ok (.aload_n 0, 1) := by decide +kernel
theorem dX6_plains_1 : decode cX6_plains 1 = .ok (.getfield 19, 3) := by decide +kernel
theorem dX6_plains_4 : decode cX6_plains 4 = .ok (.ireturn, 1) := by decide +kernel
theorem dX6_copies_0 : decode cX6_copies 0 = .ok (.aload_n 0, 1) := by decide +kernel
theorem dX6_copies_1 : decode cX6_copies 1 = .ok (.getfield 22, 3) := by decide +kernel
theorem dX6_copies_4 : decode cX6_copies 4 = .ok (.ireturn, 1) := by decide +kernel
theorem dX6_agains_0 : decode cX6_agains 0 = .ok (.aload_n 0, 1) := by decide +kernel
theorem dX6_agains_1 : decode cX6_agains 1 = .ok (.getfield 15, 3) := by decide +kernel
theorem dX6_agains_4 : decode cX6_agains 4 = .ok (.aload_n 0, 1) := by decide +kernel
theorem dX6_agains_5 : decode cX6_agains 5 = .ok (.getfield 19, 3) := by decide +kernel
theorem dX6_agains_8 : decode cX6_agains 8 = .ok (.isub, 1) := by decide +kernel
theorem dX6_agains_9 : decode cX6_agains 9 = .ok (.aload_n 0, 1) := by decide +kernel
theorem dX6_agains_10 : decode cX6_agains 10 = .ok (.getfield 22, 3) := by decide +kernel
theorem dX6_agains_13 : decode cX6_agains 13 = .ok (.isub, 1) := by decide +kernel
theorem dX6_agains_14 : decode cX6_agains 14 = .ok (.ireturn, 1) := by decide +kernel
theorem dX6_get_0 : decode cX6_get 0 = .ok (.iload_n 1, 1) := by decide +kernel
theorem dX6_get_1 : decode cX6_get 1 = .ok (.ifCond .lt 20, 3) := by decide +kernel
theorem dX6_get_4 : decode cX6_get 4 = .ok (.iload_n 1, 1) := by decide +kernel
theorem dX6_get_5 : decode cX6_get 5 = .ok (.aload_n 0, 1) := by decide +kernel
theorem dX6_get_6 : decode cX6_get 6 = .ok (.getfield 15, 3) := by decide +kernel
theorem dX6_get_9 : decode cX6_get 9 = .ok (.if_icmp .ge 12, 3) := by decide +kernel
theorem dX6_get_12 : decode cX6_get 12 = .ok (.aload_n 0, 1) := by decide +kernel
theorem dX6_get_13 : decode cX6_get 13 = .ok (.getfield 9, 3) := by decide +kernel
theorem dX6_get_16 : decode cX6_get 16 = .ok (.iload_n 1, 1) := by decide +kernel
theorem dX6_get_17 : decode cX6_get 17 = .ok (.iaload, 1) := by decide +kernel
theorem dX6_get_18 : decode cX6_get 18 = .ok (.goto 4, 3) := by decide +kernel
theorem dX6_get_21 : decode cX6_get 21 = .ok (.iconst (-1), 1) := by decide +kernel
theorem dX6_get_22 : decode cX6_get 22 = .ok (.ireturn, 1) := by decide +kernel
theorem dX6_signs_0 : decode cX6_signs 0 = .ok (.iconst 0, 1) := by decide +kernel
theorem dX6_signs_1 : decode cX6_signs 1 = .ok (.istore_n 1, 1) := by decide +kernel
theorem dX6_signs_2 : decode cX6_signs 2 = .ok (.iconst 0, 1) := by decide +kernel
theorem dX6_signs_3 : decode cX6_signs 3 = .ok (.istore_n 2, 1) := by decide +kernel
theorem dX6_signs_4 : decode cX6_signs 4 = .ok (.iload_n 2, 1) := by decide +kernel
theorem dX6_signs_5 : decode cX6_signs 5 = .ok (.aload_n 0, 1) := by decide +kernel
theorem dX6_signs_6 : decode cX6_signs 6 = .ok (.getfield 15, 3) := by decide +kernel
theorem dX6_signs_9 : decode cX6_signs 9 = .ok (.if_icmp .ge 20, 3) := by decide +kernel
theorem dX6_signs_12 : decode cX6_signs 12 = .ok (.iload_n 1, 1) := by decide +kernel
theorem dX6_signs_13 : decode cX6_signs 13 = .ok (.aload_n 0, 1) := by decide +kernel
theorem dX6_signs_14 : decode cX6_signs 14 = .ok (.iload_n 2, 1) := by decide +kernel
theorem dX6_signs_15 : decode cX6_signs 15 = .ok (.invokevirtual 34, 3) := by decide +kernel
theorem dX6_signs_18 : decode cX6_signs 18 = .ok (.invokestatic 38, 3) := by decide +kernel
theorem dX6_signs_21 : decode cX6_signs 21 = .ok (.iadd, 1) := by decide +kernel
theorem dX6_signs_22 : decode cX6_signs 22 = .ok (.istore_n 1, 1) := by decide +kernel
theorem dX6_signs_23 : decode cX6_signs 23 = .ok (.iinc 2 1, 3) := by decide +kernel
theorem dX6_signs_26 : decode cX6_signs 26 = .ok (.goto (-22), 3) := by decide +kernel
theorem dX6_signs_29 : decode cX6_signs 29 = .ok (.iload_n 1, 1) := by decide +kernel
theorem dX6_signs_30 : decode cX6_signs 30 = .ok (.ireturn, 1) := by decide +kernel
theorem dX6_signAt_0 : decode cX6_signAt 0 = .ok (.iload_n 1, 1) := by decide +kernel
theorem dX6_signAt_1 : decode cX6_signAt 1 = .ok (.ifCond .ge 5, 3) := by decide +kernel
theorem dX6_signAt_4 : decode cX6_signAt 4 = .ok (.iconst (-1), 1) := by decide +kernel
theorem dX6_signAt_5 : decode cX6_signAt 5 = .ok (.ireturn, 1) := by decide +kernel
theorem dX6_signAt_6 : decode cX6_signAt 6 = .ok (.iconst 0, 1) := by decide +kernel
theorem dX6_signAt_7 : decode cX6_signAt 7 = .ok (.istore_n 2, 1) := by decide +kernel
theorem dX6_signAt_8 : decode cX6_signAt 8 = .ok (.iconst 0, 1) := by decide +kernel
theorem dX6_signAt_9 : decode cX6_signAt 9 = .ok (.istore_n 3, 1) := by decide +kernel
theorem dX6_signAt_10 : decode cX6_signAt 10 = .ok (.iload_n 3, 1) := by decide +kernel
theorem dX6_signAt_11 : decode cX6_signAt 11 = .ok (.aload_n 0, 1) := by decide +kernel
theorem dX6_signAt_12 : decode cX6_signAt 12 = .ok (.getfield 15, 3) := by decide +kernel
theorem dX6_signAt_15 : decode cX6_signAt 15 = .ok (.if_icmp .ge 42, 3) := by decide +kernel
theorem dX6_signAt_18 : decode cX6_signAt 18 = .ok (.iload_n 2, 1) := by decide +kernel
theorem dX6_signAt_19 : decode cX6_signAt 19 = .ok (.aload_n 0, 1) := by decide +kernel
theorem dX6_signAt_20 : decode cX6_signAt 20 = .ok (.iload_n 3, 1) := by decide +kernel
theorem dX6_signAt_21 : decode cX6_signAt 21 = .ok (.invokevirtual 34, 3) := by decide +kernel
theorem dX6_signAt_24 : decode cX6_signAt 24 = .ok (.invokestatic 38, 3) := by decide +kernel
theorem dX6_signAt_27 : decode cX6_signAt 27 = .ok (.iadd, 1) := by decide +kernel
theorem dX6_signAt_28 : decode cX6_signAt 28 = .ok (.istore 4, 2) := by decide +kernel
theorem dX6_signAt_30 : decode cX6_signAt 30 = .ok (.iload_n 1, 1) := by decide +kernel
theorem dX6_signAt_31 : decode cX6_signAt 31 = .ok (.iload 4, 2) := by decide +kernel
theorem dX6_signAt_33 : decode cX6_signAt 33 = .ok (.if_icmp .ge 15, 3) := by decide +kernel
theorem dX6_signAt_36 : decode cX6_signAt 36 = .ok (.aload_n 0, 1) := by decide +kernel
theorem dX6_signAt_37 : decode cX6_signAt 37 = .ok (.iload_n 3, 1) := by decide +kernel
theorem dX6_signAt_38 : decode cX6_signAt 38 = .ok (.invokevirtual 34, 3) := by decide +kernel
theorem dX6_signAt_41 : decode cX6_signAt 41 = .ok (.iload_n 1, 1) := by decide +kernel
theorem dX6_signAt_42 : decode cX6_signAt 42 = .ok (.iload_n 2, 1) := by decide +kernel
theorem dX6_signAt_43 : decode cX6_signAt 43 = .ok (.isub, 1) := by decide +kernel
theorem dX6_signAt_44 : decode cX6_signAt 44 = .ok (.invokestatic 41, 3) := by decide +kernel
theorem dX6_signAt_47 : decode cX6_signAt 47 = .ok (.ireturn, 1) := by decide +kernel
theorem dX6_signAt_48 : decode cX6_signAt 48 = .ok (.iload 4, 2) := by decide +kernel
theorem dX6_signAt_50 : decode cX6_signAt 50 = .ok (.istore_n 2, 1) := by decide +kernel
theorem dX6_signAt_51 : decode cX6_signAt 51 = .ok (.iinc 3 1, 3) := by decide +kernel
theorem dX6_signAt_54 : decode cX6_signAt 54 = .ok (.goto (-44), 3) := by decide +kernel
theorem dX6_signAt_57 : decode cX6_signAt 57 = .ok (.iconst (-1), 1) := by decide +kernel
theorem dX6_signAt_58 : decode cX6_signAt 58 = .ok (.ireturn, 1) := by decide +kernel
theorem dX7_init_0 : decode cX7_init 0 = .ok (.aload_n 0, 1) := by decide +kernel
theorem dX7_init_1 : decode cX7_init 1 = .ok (.invokespecial 1, 3) := by decide +kernel
theorem dX7_init_4 : decode cX7_init 4 = .ok (.aload_n 0, 1) := by decide +kernel
theorem dX7_init_5 : decode cX7_init 5 = .ok (.new 7, 3) := by decide +kernel
theorem dX7_init_8 : decode cX7_init 8 = .ok (.dup, 1) := by decide +kernel
theorem dX7_init_9 : decode cX7_init 9 = .ok (.invokespecial 9, 3) := by decide +kernel
theorem dX7_init_12 : decode cX7_init 12 = .ok (.putfield 10, 3) := by decide +kernel
theorem dX7_init_15 : decode cX7_init 15 = .ok (.aload_n 0, 1) := by decide +kernel
theorem dX7_init_16 : decode cX7_init 16 = .ok (.new 16, 3) := by decide +kernel
theorem dX7_init_19 : decode cX7_init 19 = .ok (.dup, 1) := by decide +kernel
theorem dX7_init_20 : decode cX7_init 20 = .ok (.invokespecial 18, 3) := by decide +kernel
theorem dX7_init_23 : decode cX7_init 23 = .ok (.putfield 19, 3) := by decide +kernel
theorem dX7_init_26 : decode cX7_init 26 = .ok (.aload_n 0, 1) := by decide +kernel
theorem dX7_init_27 : decode cX7_init 27 = .ok (.new 23, 3) := by decide +kernel
theorem dX7_init_30 : decode cX7_init 30 = .ok (.dup, 1) := by decide +kernel
theorem dX7_init_31 : decode cX7_init 31 = .ok (.invokespecial 25, 3) := by decide +kernel
theorem dX7_init_34 : decode cX7_init 34 = .ok (.putfield 26, 3) := by decide +kernel
theorem dX7_init_37 : decode cX7_init 37 = .ok (.aload_n 0, 1) := by decide +kernel
theorem dX7_init_38 : decode cX7_init 38 = .ok (.new 30, 3) := by decide +kernel
theorem dX7_init_41 : decode cX7_init 41 = .ok (.dup, 1) := by decide +kernel
theorem dX7_init_42 : decode cX7_init 42 = .ok (.invokespecial 32, 3) := by decide +kernel
theorem dX7_init_45 : decode cX7_init 45 = .ok (.putfield 33, 3) := by decide +kernel
theorem dX7_init_48 : decode cX7_init 48 = .ok (.aload_n 0, 1) := by decide +kernel
theorem dX7_init_49 : decode cX7_init 49 = .ok (.new 37, 3) := by decide +kernel
theorem dX7_init_52 : decode cX7_init 52 = .ok (.dup, 1) := by decide +kernel
theorem dX7_init_53 : decode cX7_init 53 = .ok (.invokespecial 39, 3) := by decide +kernel
theorem dX7_init_56 : decode cX7_init 56 = .ok (.putfield 40, 3) := by decide +kernel
theorem dX7_init_59 : decode cX7_init 59 = .ok (.aload_n 0, 1) := by decide +kernel
theorem dX7_init_60 : decode cX7_init 60 = .ok (.new 44, 3) := by decide +kernel
theorem dX7_init_63 : decode cX7_init 63 = .ok (.dup, 1) := by decide +kernel
theorem dX7_init_64 : decode cX7_init 64 = .ok (.invokespecial 46, 3) := by decide +kernel
theorem dX7_init_67 : decode cX7_init 67 = .ok (.putfield 47, 3) := by decide +kernel
theorem dX7_init_70 : decode cX7_init 70 = .ok (.aload_n 0, 1) := by decide +kernel
theorem dX7_init_71 : decode cX7_init 71 = .ok (.new 44, 3) := by decide +kernel
theorem dX7_init_74 : decode cX7_init 74 = .ok (.dup, 1) := by decide +kernel
theorem dX7_init_75 : decode cX7_init 75 = .ok (.invokespecial 46, 3) := by decide +kernel
theorem dX7_init_78 : decode cX7_init 78 = .ok (.putfield 51, 3) := by decide +kernel
theorem dX7_init_81 : decode cX7_init 81 = .ok (.aload_n 0, 1) := by decide +kernel
theorem dX7_init_82 : decode cX7_init 82 = .ok (.new 30, 3) := by decide +kernel
theorem dX7_init_85 : decode cX7_init 85 = .ok (.dup, 1) := by decide +kernel
theorem dX7_init_86 : decode cX7_init 86 = .ok (.invokespecial 32, 3) := by decide +kernel
theorem dX7_init_89 : decode cX7_init 89 = .ok (.putfield 54, 3) := by decide +kernel
theorem dX7_init_92 : decode cX7_init 92 = .ok (.aload_n 0, 1) := by decide +kernel
theorem dX7_init_93 : decode cX7_init 93 = .ok (.new 44, 3) := by decide +kernel
theorem dX7_init_96 : decode cX7_init 96 = .ok (.dup, 1) := by decide +kernel
theorem dX7_init_97 : decode cX7_init 97 = .ok (.invokespecial 46, 3) := by decide +kernel
theorem dX7_init_100 : decode cX7_init 100 = .ok (.putfield 57, 3) := by decide +kernel
theorem dX7_init_103 : decode cX7_init 103 = .ok (.aload_n 0, 1) := by decide +kernel
theorem dX7_init_104 : decode cX7_init 104 = .ok (.iconst 0, 1) := by decide +kernel
theorem dX7_init_105 : decode cX7_init 105 = .ok (.putfield 60, 3) := by decide +kernel
theorem dX7_init_108 : decode cX7_init 108 = .ok (.aload_n 0, 1) := by decide +kernel
theorem dX7_init_109 : decode cX7_init 109 = .ok (.iconst 0, 1) := by decide +kernel
theorem dX7_init_110 : decode cX7_init 110 = .ok (.putfield 64, 3) := by decide +kernel
theorem dX7_init_113 : decode cX7_init 113 = .ok (.aload_n 0, 1) := by decide +kernel
theorem dX7_init_114 : decode cX7_init 114 = .ok (.iconst (-1), 1) := by decide +kernel
theorem dX7_init_115 : decode cX7_init 115 = .ok (.putfield 67, 3) := by decide +kernel
theorem dX7_init_118 : decode cX7_init 118 = .ok (.aload_n 0, 1) := by decide +kernel
theorem dX7_init_119 : decode cX7_init 119 = .ok (.iconst 0, 1) := by decide +kernel
theorem dX7_init_120 : decode cX7_init 120 = .ok (.putfield 71, 3) := by decide +kernel
theorem dX7_init_123 : decode cX7_init 123 = .ok (.aload_n 0, 1) := by decide +kernel
theorem dX7_init_124 : decode cX7_init 124 = .ok (.iconst 0, 1) := by decide +kernel
theorem dX7_init_125 : decode cX7_init 125 = .ok (.putfield 74, 3) := by decide +kernel
theorem dX7_init_128 : decode cX7_init 128 = .ok (.aload_n 0, 1) := by decide +kernel
theorem dX7_init_129 : decode cX7_init 129 = .ok (.iconst 0, 1) := by decide +kernel
theorem dX7_init_130 : decode cX7_init 130 = .ok (.putfield 77, 3) := by decide +kernel
theorem dX7_init_133 : decode cX7_init 133 = .ok (.aload_n 0, 1) := by decide +kernel
theorem dX7_init_134 : decode cX7_init 134 = .ok (.iconst 0, 1) := by decide +kernel
theorem dX7_init_135 : decode cX7_init 135 = .ok (.putfield 80, 3) := by decide +kernel
theorem dX7_init_138 : decode cX7_init 138 = .ok (.aload_n 0, 1) := by decide +kernel
theorem dX7_init_139 : decode cX7_init 139 = .ok (.iconst 0, 1) := by decide +kernel
theorem dX7_init_140 : decode cX7_init 140 = .ok (.putfield 83, 3) := by decide +kernel
theorem dX7_init_143 : decode cX7_init 143 = .ok (.return_, 1) := by decide +kernel
theorem dX7_letter_0 : decode cX7_letter 0 = .ok (.iload_n 1, 1) := by decide +kernel
theorem dX7_letter_1 : decode cX7_letter 1 = .ok (.bipush 32, 2) := by decide +kernel
theorem dX7_letter_3 : decode cX7_letter 3 = .ok (.if_icmp .lt 9, 3) := by decide +kernel
theorem dX7_letter_6 : decode cX7_letter 6 = .ok (.iload_n 1, 1) := by decide +kernel
theorem dX7_letter_7 : decode cX7_letter 7 = .ok (.bipush 126, 2) := by decide +kernel
theorem dX7_letter_9 : decode cX7_letter 9 = .ok (.if_icmp .le 7, 3) := by decide +kernel
theorem dX7_letter_12 : decode cX7_letter 12 = .ok (.sipush (-1002), 3) := by decide +kernel
theorem dX7_letter_15 : decode cX7_letter 15 = .ok (.ireturn, 1) := by decide +kernel
theorem dX7_letter_16 : decode cX7_letter 16 = .ok (.aload_n 0, 1) := by decide +kernel
theorem dX7_letter_17 : decode cX7_letter 17 = .ok (.getfield 10, 3) := by decide +kernel
theorem dX7_letter_20 : decode cX7_letter 20 = .ok (.invokevirtual 86, 3) := by decide +kernel
theorem dX7_letter_23 : decode cX7_letter 23 = .ok (.ifCond .eq 7, 3) := by decide +kernel
theorem dX7_letter_26 : decode cX7_letter 26 = .ok (.sipush (-1004), 3) := by decide +kernel
theorem dX7_letter_29 : decode cX7_letter 29 = .ok (.ireturn, 1) := by decide +kernel
theorem dX7_letter_30 : decode cX7_letter 30 = .ok (.aload_n 0, 1) := by decide +kernel
theorem dX7_letter_31 : decode cX7_letter 31 = .ok (.getfield 10, 3) := by decide +kernel
theorem dX7_letter_34 : decode cX7_letter 34 = .ok (.iload_n 1, 1) := by decide +kernel
theorem dX7_letter_35 : decode cX7_letter 35 = .ok (.invokevirtual 90, 3) := by decide +kernel
theorem dX7_letter_38 : decode cX7_letter 38 = .ok (.aload_n 0, 1) := by decide +kernel
theorem dX7_letter_39 : decode cX7_letter 39 = .ok (.getfield 10, 3) := by decide +kernel
theorem dX7_letter_42 : decode cX7_letter 42 = .ok (.invokevirtual 94, 3) := by decide +kernel
theorem dX7_letter_45 : decode cX7_letter 45 = .ok (.ireturn, 1) := by decide +kernel
theorem dX7_blank_0 : decode cX7_blank 0 = .ok (.aload_n 0, 1) := by decide +kernel
theorem dX7_blank_1 : decode cX7_blank 1 = .ok (.getfield 10, 3) := by decide +kernel
theorem dX7_blank_4 : decode cX7_blank 4 = .ok (.invokevirtual 94, 3) := by decide +kernel
theorem dX7_blank_7 : decode cX7_blank 7 = .ok (.istore_n 1, 1) := by decide +kernel
theorem dX7_blank_8 : decode cX7_blank 8 = .ok (.aload_n 0, 1) := by decide +kernel
theorem dX7_blank_9 : decode cX7_blank 9 = .ok (.getfield 10, 3) := by decide +kernel
theorem dX7_blank_12 : decode cX7_blank 12 = .ok (.invokevirtual 98, 3) := by decide +kernel
theorem dX7_blank_15 : decode cX7_blank 15 = .ok (.iload_n 1, 1) := by decide +kernel
theorem dX7_blank_16 : decode cX7_blank 16 = .ok (.ireturn, 1) := by decide +kernel
theorem dX7_fault_0 : decode cX7_fault 0 = .ok (.iload_n 1, 1) := by decide +kernel
theorem dX7_fault_1 : decode cX7_fault 1 = .ok (.ifCond .ne 11, 3) := by decide +kernel
theorem dX7_fault_4 : decode cX7_fault 4 = .ok (.aload_n 0, 1) := by decide +kernel
theorem dX7_fault_5 : decode cX7_fault 5 = .ok (.getfield 10, 3) := by decide +kernel
theorem dX7_fault_8 : decode cX7_fault 8 = .ok (.invokevirtual 101, 3) := by decide +kernel
theorem dX7_fault_11 : decode cX7_fault 11 = .ok (.ireturn, 1) := by decide +kernel
theorem dX7_fault_12 : decode cX7_fault 12 = .ok (.aload_n 0, 1) := by decide +kernel
theorem dX7_fault_13 : decode cX7_fault 13 = .ok (.getfield 19, 3) := by decide +kernel
theorem dX7_fault_16 : decode cX7_fault 16 = .ok (.aload_n 0, 1) := by decide +kernel
theorem dX7_fault_17 : decode cX7_fault 17 = .ok (.getfield 10, 3) := by decide +kernel
theorem dX7_fault_20 : decode cX7_fault 20 = .ok (.invokevirtual 104, 3) := by decide +kernel
theorem dX7_fault_23 : decode cX7_fault 23 = .ok (.aload_n 0, 1) := by decide +kernel
theorem dX7_fault_24 : decode cX7_fault 24 = .ok (.getfield 19, 3) := by decide +kernel
theorem dX7_fault_27 : decode cX7_fault 27 = .ok (.invokevirtual 108, 3) := by decide +kernel
theorem dX7_fault_30 : decode cX7_fault 30 = .ok (.ireturn, 1) := by decide +kernel
theorem dX7_text_0 : decode cX7_text 0 = .ok (.aload_n 0, 1) := by decide +kernel
theorem dX7_text_1 : decode cX7_text 1 = .ok (.getfield 10, 3) := by decide +kernel
theorem dX7_text_4 : decode cX7_text 4 = .ok (.invokevirtual 111, 3) := by decide +kernel
theorem dX7_text_7 : decode cX7_text 7 = .ok (.ifCond .ne 7, 3) := by decide +kernel
theorem dX7_text_10 : decode cX7_text 10 = .ok (.sipush (-1003), 3) := by decide +kernel
theorem dX7_text_13 : decode cX7_text 13 = .ok (.ireturn, 1) := by decide +kernel
theorem dX7_text_14 : decode cX7_text 14 = .ok (.aload_n 0, 1) := by decide +kernel
theorem dX7_text_15 : decode cX7_text 15 = .ok (.getfield 26, 3) := by decide +kernel
theorem dX7_text_18 : decode cX7_text 18 = .ok (.invokevirtual 114, 3) := by decide +kernel
theorem dX7_text_21 : decode cX7_text 21 = .ok (.iconst 0, 1) := by decide +kernel
theorem dX7_text_22 : decode cX7_text 22 = .ok (.istore_n 1, 1) := by decide +kernel
theorem dX7_text_23 : decode cX7_text 23 = .ok (.iload_n 1, 1) := by decide +kernel
theorem dX7_text_24 : decode cX7_text 24 = .ok (.aload_n 0, 1) := by decide +kernel
theorem dX7_text_25 : decode cX7_text 25 = .ok (.getfield 10, 3) := by decide +kernel
theorem dX7_text_28 : decode cX7_text 28 = .ok (.invokevirtual 94, 3) := by decide +kernel
theorem dX7_text_31 : decode cX7_text 31 = .ok (.if_icmp .ge 27, 3) := by decide +kernel
theorem dX7_text_34 : decode cX7_text 34 = .ok (.aload_n 0, 1) := by decide +kernel
theorem dX7_text_35 : decode cX7_text 35 = .ok (.getfield 26, 3) := by decide +kernel
theorem dX7_text_38 : decode cX7_text 38 = .ok (.aload_n 0, 1) := by decide +kernel
theorem dX7_text_39 : decode cX7_text 39 = .ok (.getfield 10, 3) := by decide +kernel
theorem dX7_text_42 : decode cX7_text 42 = .ok (.iload_n 1, 1) := by decide +kernel
theorem dX7_text_43 : decode cX7_text 43 = .ok (.invokevirtual 115, 3) := by decide +kernel
theorem dX7_text_46 : decode cX7_text 46 = .ok (.bipush 97, 2) := by decide +kernel
theorem dX7_text_48 : decode cX7_text 48 = .ok (.isub, 1) := by decide +kernel
theorem dX7_text_49 : decode cX7_text 49 = .ok (.invokevirtual 119, 3) := by decide +kernel
theorem dX7_text_52 : decode cX7_text 52 = .ok (.iinc 1 1, 3) := by decide +kernel
theorem dX7_text_55 : decode cX7_text 55 = .ok (.goto (-32), 3) := by decide +kernel
theorem dX7_text_58 : decode cX7_text 58 = .ok (.aload_n 0, 1) := by decide +kernel
theorem dX7_text_59 : decode cX7_text 59 = .ok (.invokevirtual 120, 3) := by decide +kernel
theorem dX7_text_62 : decode cX7_text 62 = .ok (.aload_n 0, 1) := by decide +kernel
theorem dX7_text_63 : decode cX7_text 63 = .ok (.dup, 1) := by decide +kernel
theorem dX7_text_64 : decode cX7_text 64 = .ok (.getfield 80, 3) := by decide +kernel
theorem dX7_text_67 : decode cX7_text 67 = .ok (.iconst 1, 1) := by decide +kernel
theorem dX7_text_68 : decode cX7_text 68 = .ok (.iadd, 1) := by decide +kernel
theorem dX7_text_69 : decode cX7_text 69 = .ok (.putfield 80, 3) := by decide +kernel
theorem dX7_text_72 : decode cX7_text 72 = .ok (.aload_n 0, 1) := by decide +kernel
theorem dX7_text_73 : decode cX7_text 73 = .ok (.getfield 26, 3) := by decide +kernel
theorem dX7_text_76 : decode cX7_text 76 = .ok (.invokevirtual 123, 3) := by decide +kernel
theorem dX7_text_79 : decode cX7_text 79 = .ok (.ireturn, 1) := by decide +kernel
theorem dX7_decode_0 : decode cX7_decode 0 = .ok (.aload_n 0, 1) := by decide +kernel
theorem dX7_decode_1 : decode cX7_decode 1 = .ok (.getfield 19, 3) := by decide +kernel
theorem dX7_decode_4 : decode cX7_decode 4 = .ok (.aload_n 0, 1) := by decide +kernel
theorem dX7_decode_5 : decode cX7_decode 5 = .ok (.getfield 10, 3) := by decide +kernel
theorem dX7_decode_8 : decode cX7_decode 8 = .ok (.invokevirtual 104, 3) := by decide +kernel
theorem dX7_decode_11 : decode cX7_decode 11 = .ok (.aload_n 0, 1) := by decide +kernel
theorem dX7_decode_12 : decode cX7_decode 12 = .ok (.getfield 19, 3) := by decide +kernel
theorem dX7_decode_15 : decode cX7_decode 15 = .ok (.invokevirtual 124, 3) := by decide +kernel
theorem dX7_decode_18 : decode cX7_decode 18 = .ok (.ifCond .ne 7, 3) := by decide +kernel
theorem dX7_decode_21 : decode cX7_decode 21 = .ok (.sipush (-1003), 3) := by decide +kernel
theorem dX7_decode_24 : decode cX7_decode 24 = .ok (.ireturn, 1) := by decide +kernel
theorem dX7_decode_25 : decode cX7_decode 25 = .ok (.aload_n 0, 1) := by decide +kernel
theorem dX7_decode_26 : decode cX7_decode 26 = .ok (.getfield 26, 3) := by decide +kernel
theorem dX7_decode_29 : decode cX7_decode 29 = .ok (.invokevirtual 114, 3) := by decide +kernel
theorem dX7_decode_32 : decode cX7_decode 32 = .ok (.iconst 0, 1) := by decide +kernel
theorem dX7_decode_33 : decode cX7_decode 33 = .ok (.istore_n 1, 1) := by decide +kernel
theorem dX7_decode_34 : decode cX7_decode 34 = .ok (.iload_n 1, 1) := by decide +kernel
theorem dX7_decode_35 : decode cX7_decode 35 = .ok (.aload_n 0, 1) := by decide +kernel
theorem dX7_decode_36 : decode cX7_decode 36 = .ok (.getfield 19, 3) := by decide +kernel
theorem dX7_decode_39 : decode cX7_decode 39 = .ok (.invokevirtual 127, 3) := by decide +kernel
theorem dX7_decode_42 : decode cX7_decode 42 = .ok (.if_icmp .ge 24, 3) := by decide +kernel
theorem dX7_decode_45 : decode cX7_decode 45 = .ok (.aload_n 0, 1) := by decide +kernel
theorem dX7_decode_46 : decode cX7_decode 46 = .ok (.getfield 26, 3) := by decide +kernel
theorem dX7_decode_49 : decode cX7_decode 49 = .ok (.aload_n 0, 1) := by decide +kernel
theorem dX7_decode_50 : decode cX7_decode 50 = .ok (.getfield 19, 3) := by decide +kernel
theorem dX7_decode_53 : decode cX7_decode 53 = .ok (.iload_n 1, 1) := by decide +kernel
theorem dX7_decode_54 : decode cX7_decode 54 = .ok (.invokevirtual 130, 3) := by decide +kernel
theorem dX7_decode_57 : decode cX7_decode 57 = .ok (.invokevirtual 119, 3) := by decide +kernel
theorem dX7_decode_60 : decode cX7_decode 60 = .ok (.iinc 1 1, 3) := by decide +kernel
theorem dX7_decode_63 : decode cX7_decode 63 = .ok (.goto (-29), 3) := by decide +kernel
theorem dX7_decode_66 : decode cX7_decode 66 = .ok (.aload_n 0, 1) := by decide +kernel
theorem dX7_decode_67 : decode cX7_decode 67 = .ok (.invokevirtual 120, 3) := by decide +kernel
theorem dX7_decode_70 : decode cX7_decode 70 = .ok (.aload_n 0, 1) := by decide +kernel
theorem dX7_decode_71 : decode cX7_decode 71 = .ok (.dup, 1) := by decide +kernel
theorem dX7_decode_72 : decode cX7_decode 72 = .ok (.getfield 83, 3) := by decide +kernel
theorem dX7_decode_75 : decode cX7_decode 75 = .ok (.iconst 1, 1) := by decide +kernel
theorem dX7_decode_76 : decode cX7_decode 76 = .ok (.iadd, 1) := by decide +kernel
theorem dX7_decode_77 : decode cX7_decode 77 = .ok (.putfield 83, 3) := by decide +kernel
theorem dX7_decode_80 : decode cX7_decode 80 = .ok (.aload_n 0, 1) := by decide +kernel
theorem dX7_decode_81 : decode cX7_decode 81 = .ok (.getfield 26, 3) := by decide +kernel
theorem dX7_decode_84 : decode cX7_decode 84 = .ok (.invokevirtual 123, 3) := by decide +kernel
theorem dX7_decode_87 : decode cX7_decode 87 = .ok (.ireturn, 1) := by decide +kernel
theorem dX7_priced_0 : decode cX7_priced 0 = .ok (.aload_n 0, 1) := by decide +kernel
theorem dX7_priced_1 : decode cX7_priced 1 = .ok (.getfield 19, 3) := by decide +kernel
theorem dX7_priced_4 : decode cX7_priced 4 = .ok (.aload_n 0, 1) := by decide +kernel
theorem dX7_priced_5 : decode cX7_priced 5 = .ok (.getfield 10, 3) := by decide +kernel
theorem dX7_priced_8 : decode cX7_priced 8 = .ok (.invokevirtual 104, 3) := by decide +kernel
theorem dX7_priced_11 : decode cX7_priced 11 = .ok (.aload_n 0, 1) := by decide +kernel
theorem dX7_priced_12 : decode cX7_priced 12 = .ok (.getfield 19, 3) := by decide +kernel
theorem dX7_priced_15 : decode cX7_priced 15 = .ok (.invokevirtual 124, 3) := by decide +kernel
theorem dX7_priced_18 : decode cX7_priced 18 = .ok (.ifCond .ne 7, 3) := by decide +kernel
theorem dX7_priced_21 : decode cX7_priced 21 = .ok (.sipush (-1003), 3) := by decide +kernel
theorem dX7_priced_24 : decode cX7_priced 24 = .ok (.ireturn, 1) := by decide +kernel
theorem dX7_priced_25 : decode cX7_priced 25 = .ok (.aload_n 0, 1) := by decide +kernel
theorem dX7_priced_26 : decode cX7_priced 26 = .ok (.getfield 33, 3) := by decide +kernel
theorem dX7_priced_29 : decode cX7_priced 29 = .ok (.aload_n 0, 1) := by decide +kernel
theorem dX7_priced_30 : decode cX7_priced 30 = .ok (.getfield 19, 3) := by decide +kernel
theorem dX7_priced_33 : decode cX7_priced 33 = .ok (.invokevirtual 133, 3) := by decide +kernel
theorem dX7_priced_36 : decode cX7_priced 36 = .ok (.invokevirtual 137, 3) := by decide +kernel
theorem dX7_priced_39 : decode cX7_priced 39 = .ok (.ireturn, 1) := by decide +kernel
theorem dX7_price_0 : decode cX7_price 0 = .ok (.iload_n 1, 1) := by decide +kernel
theorem dX7_price_1 : decode cX7_price 1 = .ok (.invokestatic 141, 3) := by decide +kernel
theorem dX7_price_4 : decode cX7_price 4 = .ok (.ifCond .ne 7, 3) := by decide +kernel
theorem dX7_price_7 : decode cX7_price 7 = .ok (.sipush (-1001), 3) := by decide +kernel
theorem dX7_price_10 : decode cX7_price 10 = .ok (.ireturn, 1) := by decide +kernel
theorem dX7_price_11 : decode cX7_price 11 = .ok (.iload_n 2, 1) := by decide +kernel
theorem dX7_price_12 : decode cX7_price 12 = .ok (.iconst 1, 1) := by decide +kernel
theorem dX7_price_13 : decode cX7_price 13 = .ok (.if_icmp .lt 9, 3) := by decide +kernel
theorem dX7_price_16 : decode cX7_price 16 = .ok (.iload_n 2, 1) := by decide +kernel
theorem dX7_price_17 : decode cX7_price 17 = .ok (.bipush 30, 2) := by decide +kernel
theorem dX7_price_19 : decode cX7_price 19 = .ok (.if_icmp .le 7, 3) := by decide +kernel
theorem dX7_price_22 : decode cX7_price 22 = .ok (.sipush (-1002), 3) := by decide +kernel
theorem dX7_price_25 : decode cX7_price 25 = .ok (.ireturn, 1) := by decide +kernel
theorem dX7_price_26 : decode cX7_price 26 = .ok (.aload_n 0, 1) := by decide +kernel
theorem dX7_price_27 : decode cX7_price 27 = .ok (.getfield 33, 3) := by decide +kernel
theorem dX7_price_30 : decode cX7_price 30 = .ok (.iload_n 1, 1) := by decide +kernel
theorem dX7_price_31 : decode cX7_price 31 = .ok (.invokevirtual 145, 3) := by decide +kernel
theorem dX7_price_34 : decode cX7_price 34 = .ok (.istore_n 3, 1) := by decide +kernel
theorem dX7_price_35 : decode cX7_price 35 = .ok (.aload_n 0, 1) := by decide +kernel
theorem dX7_price_36 : decode cX7_price 36 = .ok (.getfield 33, 3) := by decide +kernel
theorem dX7_price_39 : decode cX7_price 39 = .ok (.iload_n 1, 1) := by decide +kernel
theorem dX7_price_40 : decode cX7_price 40 = .ok (.iload_n 2, 1) := by decide +kernel
theorem dX7_price_41 : decode cX7_price 41 = .ok (.invokevirtual 148, 3) := by decide +kernel
theorem dX7_price_44 : decode cX7_price 44 = .ok (.aload_n 0, 1) := by decide +kernel
theorem dX7_price_45 : decode cX7_price 45 = .ok (.invokevirtual 152, 3) := by decide +kernel
theorem dX7_price_48 : decode cX7_price 48 = .ok (.iload_n 3, 1) := by decide +kernel
theorem dX7_price_49 : decode cX7_price 49 = .ok (.ireturn, 1) := by decide +kernel
theorem dX7_priceOf_0 : decode cX7_priceOf 0 = .ok (.iload_n 1, 1) := by decide +kernel
theorem dX7_priceOf_1 : decode cX7_priceOf 1 = .ok (.invokestatic 141, 3) := by decide +kernel
theorem dX7_priceOf_4 : decode cX7_priceOf 4 = .ok (.ifCond .eq 14, 3) := by decide +kernel
theorem dX7_priceOf_7 : decode cX7_priceOf 7 = .ok (.aload_n 0, 1) := by decide +kernel
theorem dX7_priceOf_8 : decode cX7_priceOf 8 = .ok (.getfield 33, 3) := by decide +kernel
theorem dX7_priceOf_11 : decode cX7_priceOf 11 = .ok (.iload_n 1, 1) := by decide +kernel
theorem dX7_priceOf_12 : decode cX7_priceOf 12 = .ok (.invokevirtual 145, 3) := by decide +kernel
theorem dX7_priceOf_15 : decode cX7_priceOf 15 = .ok (.goto 6, 3) := by decide +kernel
theorem dX7_priceOf_18 : decode cX7_priceOf 18 = .ok (.sipush (-1001), 3) := by decide +kernel
theorem dX7_priceOf_21 : decode cX7_priceOf 21 = .ok (.ireturn, 1) := by decide +kernel
theorem dX7_round_0 : decode cX7_round 0 = .ok (.aload_n 0, 1) := by decide +kernel
theorem dX7_round_1 : decode cX7_round 1 = .ok (.invokevirtual 155, 3) := by decide +kernel
theorem dX7_round_4 : decode cX7_round 4 = .ok (.ifCond .ne 7, 3) := by decide +kernel
theorem dX7_round_7 : decode cX7_round 7 = .ok (.sipush (-1003), 3) := by decide +kernel
theorem dX7_round_10 : decode cX7_round 10 = .ok (.ireturn, 1) := by decide +kernel
theorem dX7_round_11 : decode cX7_round 11 = .ok (.aload_n 0, 1) := by decide +kernel
theorem dX7_round_12 : decode cX7_round 12 = .ok (.invokevirtual 158, 3) := by decide +kernel
end
section
theorem dX7_round_15 : decode cX7_round 15 = .ok (.aload_n 0, 1) := by decide +kernel
theorem dX7_round_16 : decode cX7_round 16 = .ok (.getfield 33, 3) := by decide +kernel
theorem dX7_round_19 : decode cX7_round 19 = .ok (.aload_n 0, 1) := by decide +kernel
theorem dX7_round_20 : decode cX7_round 20 = .ok (.getfield 47, 3) := by decide +kernel
theorem dX7_round_23 : decode cX7_round 23 = .ok (.invokevirtual 161, 3) := by decide +kernel
theorem dX7_round_26 : decode cX7_round 26 = .ok (.istore_n 1, 1) := by decide +kernel
theorem dX7_round_27 : decode cX7_round 27 = .ok (.aload_n 0, 1) := by decide +kernel
theorem dX7_round_28 : decode cX7_round 28 = .ok (.dup, 1) := by decide +kernel
theorem dX7_round_29 : decode cX7_round 29 = .ok (.getfield 77, 3) := by decide +kernel
theorem dX7_round_32 : decode cX7_round 32 = .ok (.iconst 1, 1) := by decide +kernel
theorem dX7_round_33 : decode cX7_round 33 = .ok (.iadd, 1) := by decide +kernel
theorem dX7_round_34 : decode cX7_round 34 = .ok (.putfield 77, 3) := by decide +kernel
theorem dX7_round_37 : decode cX7_round 37 = .ok (.aload_n 0, 1) := by decide +kernel
theorem dX7_round_38 : decode cX7_round 38 = .ok (.invokevirtual 152, 3) := by decide +kernel
theorem dX7_round_41 : decode cX7_round 41 = .ok (.iload_n 1, 1) := by decide +kernel
theorem dX7_round_42 : decode cX7_round 42 = .ok (.ireturn, 1) := by decide +kernel
theorem dX7_rest_0 : decode cX7_rest 0 = .ok (.aload_n 0, 1) := by decide +kernel
theorem dX7_rest_1 : decode cX7_rest 1 = .ok (.invokevirtual 155, 3) := by decide +kernel
theorem dX7_rest_4 : decode cX7_rest 4 = .ok (.ifCond .ne 7, 3) := by decide +kernel
theorem dX7_rest_7 : decode cX7_rest 7 = .ok (.sipush (-1003), 3) := by decide +kernel
theorem dX7_rest_10 : decode cX7_rest 10 = .ok (.ireturn, 1) := by decide +kernel
theorem dX7_rest_11 : decode cX7_rest 11 = .ok (.iload_n 1, 1) := by decide +kernel
theorem dX7_rest_12 : decode cX7_rest 12 = .ok (.ifCond .lt 8, 3) := by decide +kernel
theorem dX7_rest_15 : decode cX7_rest 15 = .ok (.iload_n 1, 1) := by decide +kernel
theorem dX7_rest_16 : decode cX7_rest 16 = .ok (.iconst 2, 1) := by decide +kernel
theorem dX7_rest_17 : decode cX7_rest 17 = .ok (.if_icmp .le 7, 3) := by decide +kernel
theorem dX7_rest_20 : decode cX7_rest 20 = .ok (.sipush (-1002), 3) := by decide +kernel
theorem dX7_rest_23 : decode cX7_rest 23 = .ok (.ireturn, 1) := by decide +kernel
theorem dX7_rest_24 : decode cX7_rest 24 = .ok (.aload_n 0, 1) := by decide +kernel
theorem dX7_rest_25 : decode cX7_rest 25 = .ok (.invokevirtual 164, 3) := by decide +kernel
theorem dX7_rest_28 : decode cX7_rest 28 = .ok (.iload_n 1, 1) := by decide +kernel
theorem dX7_rest_29 : decode cX7_rest 29 = .ok (.ifCond .ne 8, 3) := by decide +kernel
theorem dX7_rest_32 : decode cX7_rest 32 = .ok (.aload_n 0, 1) := by decide +kernel
theorem dX7_rest_33 : decode cX7_rest 33 = .ok (.getfield 67, 3) := by decide +kernel
theorem dX7_rest_36 : decode cX7_rest 36 = .ok (.ireturn, 1) := by decide +kernel
theorem dX7_rest_37 : decode cX7_rest 37 = .ok (.iload_n 1, 1) := by decide +kernel
theorem dX7_rest_38 : decode cX7_rest 38 = .ok (.iconst 1, 1) := by decide +kernel
theorem dX7_rest_39 : decode cX7_rest 39 = .ok (.if_icmp .ne 10, 3) := by decide +kernel
theorem dX7_rest_42 : decode cX7_rest 42 = .ok (.aload_n 0, 1) := by decide +kernel
theorem dX7_rest_43 : decode cX7_rest 43 = .ok (.getfield 71, 3) := by decide +kernel
theorem dX7_rest_46 : decode cX7_rest 46 = .ok (.goto 7, 3) := by decide +kernel
theorem dX7_rest_49 : decode cX7_rest 49 = .ok (.aload_n 0, 1) := by decide +kernel
theorem dX7_rest_50 : decode cX7_rest 50 = .ok (.getfield 74, 3) := by decide +kernel
theorem dX7_rest_53 : decode cX7_rest 53 = .ok (.ireturn, 1) := by decide +kernel
theorem dX7_at_0 : decode cX7_at 0 = .ok (.aload_n 0, 1) := by decide +kernel
theorem dX7_at_1 : decode cX7_at 1 = .ok (.getfield 26, 3) := by decide +kernel
theorem dX7_at_4 : decode cX7_at 4 = .ok (.iload_n 1, 1) := by decide +kernel
theorem dX7_at_5 : decode cX7_at 5 = .ok (.invokevirtual 167, 3) := by decide +kernel
theorem dX7_at_8 : decode cX7_at 8 = .ok (.ifCond .eq 14, 3) := by decide +kernel
theorem dX7_at_11 : decode cX7_at 11 = .ok (.aload_n 0, 1) := by decide +kernel
theorem dX7_at_12 : decode cX7_at 12 = .ok (.getfield 26, 3) := by decide +kernel
theorem dX7_at_15 : decode cX7_at 15 = .ok (.iload_n 1, 1) := by decide +kernel
theorem dX7_at_16 : decode cX7_at 16 = .ok (.invokevirtual 170, 3) := by decide +kernel
theorem dX7_at_19 : decode cX7_at 19 = .ok (.goto 6, 3) := by decide +kernel
theorem dX7_at_22 : decode cX7_at 22 = .ok (.sipush (-1001), 3) := by decide +kernel
theorem dX7_at_25 : decode cX7_at 25 = .ok (.ireturn, 1) := by decide +kernel
theorem dX7_longest_0 : decode cX7_longest 0 = .ok (.aload_n 0, 1) := by decide +kernel
theorem dX7_longest_1 : decode cX7_longest 1 = .ok (.getfield 26, 3) := by decide +kernel
theorem dX7_longest_4 : decode cX7_longest 4 = .ok (.iload_n 1, 1) := by decide +kernel
theorem dX7_longest_5 : decode cX7_longest 5 = .ok (.invokevirtual 167, 3) := by decide +kernel
theorem dX7_longest_8 : decode cX7_longest 8 = .ok (.ifCond .ne 7, 3) := by decide +kernel
theorem dX7_longest_11 : decode cX7_longest 11 = .ok (.sipush (-1001), 3) := by decide +kernel
theorem dX7_longest_14 : decode cX7_longest 14 = .ok (.ireturn, 1) := by decide +kernel
theorem dX7_longest_15 : decode cX7_longest 15 = .ok (.iload_n 2, 1) := by decide +kernel
theorem dX7_longest_16 : decode cX7_longest 16 = .ok (.ifCond .lt 8, 3) := by decide +kernel
theorem dX7_longest_19 : decode cX7_longest 19 = .ok (.iload_n 2, 1) := by decide +kernel
theorem dX7_longest_20 : decode cX7_longest 20 = .ok (.iconst 1, 1) := by decide +kernel
theorem dX7_longest_21 : decode cX7_longest 21 = .ok (.if_icmp .le 7, 3) := by decide +kernel
theorem dX7_longest_24 : decode cX7_longest 24 = .ok (.sipush (-1002), 3) := by decide +kernel
theorem dX7_longest_27 : decode cX7_longest 27 = .ok (.ireturn, 1) := by decide +kernel
theorem dX7_longest_28 : decode cX7_longest 28 = .ok (.aload_n 0, 1) := by decide +kernel
theorem dX7_longest_29 : decode cX7_longest 29 = .ok (.getfield 26, 3) := by decide +kernel
theorem dX7_longest_32 : decode cX7_longest 32 = .ok (.iload_n 1, 1) := by decide +kernel
theorem dX7_longest_33 : decode cX7_longest 33 = .ok (.invokevirtual 173, 3) := by decide +kernel
theorem dX7_longest_36 : decode cX7_longest 36 = .ok (.istore_n 3, 1) := by decide +kernel
theorem dX7_longest_37 : decode cX7_longest 37 = .ok (.iload_n 2, 1) := by decide +kernel
theorem dX7_longest_38 : decode cX7_longest 38 = .ok (.ifCond .ne 15, 3) := by decide +kernel
theorem dX7_longest_41 : decode cX7_longest 41 = .ok (.aload_n 0, 1) := by decide +kernel
theorem dX7_longest_42 : decode cX7_longest 42 = .ok (.getfield 26, 3) := by decide +kernel
theorem dX7_longest_45 : decode cX7_longest 45 = .ok (.iload_n 1, 1) := by decide +kernel
theorem dX7_longest_46 : decode cX7_longest 46 = .ok (.iload_n 3, 1) := by decide +kernel
theorem dX7_longest_47 : decode cX7_longest 47 = .ok (.invokevirtual 176, 3) := by decide +kernel
theorem dX7_longest_50 : decode cX7_longest 50 = .ok (.goto 4, 3) := by decide +kernel
theorem dX7_longest_53 : decode cX7_longest 53 = .ok (.iload_n 3, 1) := by decide +kernel
theorem dX7_longest_54 : decode cX7_longest 54 = .ok (.ireturn, 1) := by decide +kernel
theorem dX7_chain_0 : decode cX7_chain 0 = .ok (.aload_n 0, 1) := by decide +kernel
theorem dX7_chain_1 : decode cX7_chain 1 = .ok (.getfield 26, 3) := by decide +kernel
theorem dX7_chain_4 : decode cX7_chain 4 = .ok (.iload_n 1, 1) := by decide +kernel
theorem dX7_chain_5 : decode cX7_chain 5 = .ok (.invokevirtual 167, 3) := by decide +kernel
theorem dX7_chain_8 : decode cX7_chain 8 = .ok (.ifCond .eq 15, 3) := by decide +kernel
theorem dX7_chain_11 : decode cX7_chain 11 = .ok (.aload_n 0, 1) := by decide +kernel
theorem dX7_chain_12 : decode cX7_chain 12 = .ok (.getfield 26, 3) := by decide +kernel
theorem dX7_chain_15 : decode cX7_chain 15 = .ok (.iload_n 1, 1) := by decide +kernel
theorem dX7_chain_16 : decode cX7_chain 16 = .ok (.iload_n 2, 1) := by decide +kernel
theorem dX7_chain_17 : decode cX7_chain 17 = .ok (.invokevirtual 180, 3) := by decide +kernel
theorem dX7_chain_20 : decode cX7_chain 20 = .ok (.goto 6, 3) := by decide +kernel
theorem dX7_chain_23 : decode cX7_chain 23 = .ok (.sipush (-1001), 3) := by decide +kernel
theorem dX7_chain_26 : decode cX7_chain 26 = .ok (.ireturn, 1) := by decide +kernel
theorem dX7_cheapest_0 : decode cX7_cheapest 0 = .ok (.aload_n 0, 1) := by decide +kernel
theorem dX7_cheapest_1 : decode cX7_cheapest 1 = .ok (.invokevirtual 155, 3) := by decide +kernel
theorem dX7_cheapest_4 : decode cX7_cheapest 4 = .ok (.ifCond .ne 7, 3) := by decide +kernel
theorem dX7_cheapest_7 : decode cX7_cheapest 7 = .ok (.sipush (-1003), 3) := by decide +kernel
theorem dX7_cheapest_10 : decode cX7_cheapest 10 = .ok (.ireturn, 1) := by decide +kernel
theorem dX7_cheapest_11 : decode cX7_cheapest 11 = .ok (.iload_n 1, 1) := by decide +kernel
theorem dX7_cheapest_12 : decode cX7_cheapest 12 = .ok (.bipush 10, 2) := by decide +kernel
theorem dX7_cheapest_14 : decode cX7_cheapest 14 = .ok (.if_icmp .lt 13, 3) := by decide +kernel
theorem dX7_cheapest_17 : decode cX7_cheapest 17 = .ok (.iload_n 1, 1) := by decide +kernel
theorem dX7_cheapest_18 : decode cX7_cheapest 18 = .ok (.bipush 33, 2) := by decide +kernel
theorem dX7_cheapest_20 : decode cX7_cheapest 20 = .ok (.if_icmp .gt 7, 3) := by decide +kernel
theorem dX7_cheapest_23 : decode cX7_cheapest 23 = .ok (.iconst 1, 1) := by decide +kernel
theorem dX7_cheapest_24 : decode cX7_cheapest 24 = .ok (.goto 4, 3) := by decide +kernel
theorem dX7_cheapest_27 : decode cX7_cheapest 27 = .ok (.iconst 0, 1) := by decide +kernel
theorem dX7_cheapest_28 : decode cX7_cheapest 28 = .ok (.istore_n 2, 1) := by decide +kernel
theorem dX7_cheapest_29 : decode cX7_cheapest 29 = .ok (.iload_n 2, 1) := by decide +kernel
theorem dX7_cheapest_30 : decode cX7_cheapest 30 = .ok (.ifCond .ne 16, 3) := by decide +kernel
theorem dX7_cheapest_33 : decode cX7_cheapest 33 = .ok (.iload_n 1, 1) := by decide +kernel
theorem dX7_cheapest_34 : decode cX7_cheapest 34 = .ok (.ifCond .lt 8, 3) := by decide +kernel
theorem dX7_cheapest_37 : decode cX7_cheapest 37 = .ok (.iload_n 1, 1) := by decide +kernel
theorem dX7_cheapest_38 : decode cX7_cheapest 38 = .ok (.iconst 2, 1) := by decide +kernel
theorem dX7_cheapest_39 : decode cX7_cheapest 39 = .ok (.if_icmp .le 7, 3) := by decide +kernel
theorem dX7_cheapest_42 : decode cX7_cheapest 42 = .ok (.sipush (-1002), 3) := by decide +kernel
theorem dX7_cheapest_45 : decode cX7_cheapest 45 = .ok (.ireturn, 1) := by decide +kernel
theorem dX7_cheapest_46 : decode cX7_cheapest 46 = .ok (.aload_n 0, 1) := by decide +kernel
theorem dX7_cheapest_47 : decode cX7_cheapest 47 = .ok (.invokevirtual 158, 3) := by decide +kernel
theorem dX7_cheapest_50 : decode cX7_cheapest 50 = .ok (.iload_n 2, 1) := by decide +kernel
theorem dX7_cheapest_51 : decode cX7_cheapest 51 = .ok (.ifCond .eq 15, 3) := by decide +kernel
theorem dX7_cheapest_54 : decode cX7_cheapest 54 = .ok (.aload_n 0, 1) := by decide +kernel
theorem dX7_cheapest_55 : decode cX7_cheapest 55 = .ok (.getfield 47, 3) := by decide +kernel
theorem dX7_cheapest_58 : decode cX7_cheapest 58 = .ok (.iload_n 1, 1) := by decide +kernel
theorem dX7_cheapest_59 : decode cX7_cheapest 59 = .ok (.bipush 10, 2) := by decide +kernel
theorem dX7_cheapest_61 : decode cX7_cheapest 61 = .ok (.isub, 1) := by decide +kernel
theorem dX7_cheapest_62 : decode cX7_cheapest 62 = .ok (.invokevirtual 183, 3) := by decide +kernel
theorem dX7_cheapest_65 : decode cX7_cheapest 65 = .ok (.ireturn, 1) := by decide +kernel
theorem dX7_cheapest_66 : decode cX7_cheapest 66 = .ok (.iload_n 1, 1) := by decide +kernel
theorem dX7_cheapest_67 : decode cX7_cheapest 67 = .ok (.ifCond .ne 15, 3) := by decide +kernel
theorem dX7_cheapest_70 : decode cX7_cheapest 70 = .ok (.aload_n 0, 1) := by decide +kernel
theorem dX7_cheapest_71 : decode cX7_cheapest 71 = .ok (.getfield 33, 3) := by decide +kernel
theorem dX7_cheapest_74 : decode cX7_cheapest 74 = .ok (.aload_n 0, 1) := by decide +kernel
theorem dX7_cheapest_75 : decode cX7_cheapest 75 = .ok (.getfield 47, 3) := by decide +kernel
theorem dX7_cheapest_78 : decode cX7_cheapest 78 = .ok (.invokevirtual 137, 3) := by decide +kernel
theorem dX7_cheapest_81 : decode cX7_cheapest 81 = .ok (.ireturn, 1) := by decide +kernel
theorem dX7_cheapest_82 : decode cX7_cheapest 82 = .ok (.iload_n 1, 1) := by decide +kernel
theorem dX7_cheapest_83 : decode cX7_cheapest 83 = .ok (.iconst 1, 1) := by decide +kernel
theorem dX7_cheapest_84 : decode cX7_cheapest 84 = .ok (.if_icmp .ne 13, 3) := by decide +kernel
theorem dX7_cheapest_87 : decode cX7_cheapest 87 = .ok (.aload_n 0, 1) := by decide +kernel
theorem dX7_cheapest_88 : decode cX7_cheapest 88 = .ok (.getfield 47, 3) := by decide +kernel
theorem dX7_cheapest_91 : decode cX7_cheapest 91 = .ok (.invokevirtual 184, 3) := by decide +kernel
theorem dX7_cheapest_94 : decode cX7_cheapest 94 = .ok (.goto 10, 3) := by decide +kernel
theorem dX7_cheapest_97 : decode cX7_cheapest 97 = .ok (.aload_n 0, 1) := by decide +kernel
theorem dX7_cheapest_98 : decode cX7_cheapest 98 = .ok (.getfield 47, 3) := by decide +kernel
theorem dX7_cheapest_101 : decode cX7_cheapest 101 = .ok (.invokevirtual 185, 3) := by decide +kernel
theorem dX7_cheapest_104 : decode cX7_cheapest 104 = .ok (.ireturn, 1) := by decide +kernel
theorem dX7_codeOf_0 : decode cX7_codeOf 0 = .ok (.aload_n 0, 1) := by decide +kernel
theorem dX7_codeOf_1 : decode cX7_codeOf 1 = .ok (.invokevirtual 155, 3) := by decide +kernel
theorem dX7_codeOf_4 : decode cX7_codeOf 4 = .ok (.ifCond .ne 7, 3) := by decide +kernel
theorem dX7_codeOf_7 : decode cX7_codeOf 7 = .ok (.sipush (-1003), 3) := by decide +kernel
theorem dX7_codeOf_10 : decode cX7_codeOf 10 = .ok (.ireturn, 1) := by decide +kernel
theorem dX7_codeOf_11 : decode cX7_codeOf 11 = .ok (.aload_n 0, 1) := by decide +kernel
theorem dX7_codeOf_12 : decode cX7_codeOf 12 = .ok (.invokevirtual 158, 3) := by decide +kernel
theorem dX7_codeOf_15 : decode cX7_codeOf 15 = .ok (.aload_n 0, 1) := by decide +kernel
theorem dX7_codeOf_16 : decode cX7_codeOf 16 = .ok (.getfield 47, 3) := by decide +kernel
theorem dX7_codeOf_19 : decode cX7_codeOf 19 = .ok (.iload_n 1, 1) := by decide +kernel
theorem dX7_codeOf_20 : decode cX7_codeOf 20 = .ok (.invokevirtual 188, 3) := by decide +kernel
theorem dX7_codeOf_23 : decode cX7_codeOf 23 = .ok (.ireturn, 1) := by decide +kernel
theorem dX7_greedy_0 : decode cX7_greedy 0 = .ok (.aload_n 0, 1) := by decide +kernel
theorem dX7_greedy_1 : decode cX7_greedy 1 = .ok (.invokevirtual 155, 3) := by decide +kernel
theorem dX7_greedy_4 : decode cX7_greedy 4 = .ok (.ifCond .ne 7, 3) := by decide +kernel
theorem dX7_greedy_7 : decode cX7_greedy 7 = .ok (.sipush (-1003), 3) := by decide +kernel
theorem dX7_greedy_10 : decode cX7_greedy 10 = .ok (.ireturn, 1) := by decide +kernel
theorem dX7_greedy_11 : decode cX7_greedy 11 = .ok (.iload_n 1, 1) := by decide +kernel
theorem dX7_greedy_12 : decode cX7_greedy 12 = .ok (.ifCond .lt 8, 3) := by decide +kernel
theorem dX7_greedy_15 : decode cX7_greedy 15 = .ok (.iload_n 1, 1) := by decide +kernel
theorem dX7_greedy_16 : decode cX7_greedy 16 = .ok (.iconst 1, 1) := by decide +kernel
theorem dX7_greedy_17 : decode cX7_greedy 17 = .ok (.if_icmp .le 7, 3) := by decide +kernel
theorem dX7_greedy_20 : decode cX7_greedy 20 = .ok (.sipush (-1002), 3) := by decide +kernel
theorem dX7_greedy_23 : decode cX7_greedy 23 = .ok (.ireturn, 1) := by decide +kernel
theorem dX7_greedy_24 : decode cX7_greedy 24 = .ok (.aload_n 0, 1) := by decide +kernel
theorem dX7_greedy_25 : decode cX7_greedy 25 = .ok (.invokevirtual 189, 3) := by decide +kernel
theorem dX7_greedy_28 : decode cX7_greedy 28 = .ok (.iload_n 1, 1) := by decide +kernel
theorem dX7_greedy_29 : decode cX7_greedy 29 = .ok (.ifCond .ne 17, 3) := by decide +kernel
theorem dX7_greedy_32 : decode cX7_greedy 32 = .ok (.aload_n 0, 1) := by decide +kernel
theorem dX7_greedy_33 : decode cX7_greedy 33 = .ok (.getfield 33, 3) := by decide +kernel
theorem dX7_greedy_36 : decode cX7_greedy 36 = .ok (.aload_n 0, 1) := by decide +kernel
theorem dX7_greedy_37 : decode cX7_greedy 37 = .ok (.getfield 51, 3) := by decide +kernel
theorem dX7_greedy_40 : decode cX7_greedy 40 = .ok (.invokevirtual 137, 3) := by decide +kernel
theorem dX7_greedy_43 : decode cX7_greedy 43 = .ok (.goto 10, 3) := by decide +kernel
theorem dX7_greedy_46 : decode cX7_greedy 46 = .ok (.aload_n 0, 1) := by decide +kernel
theorem dX7_greedy_47 : decode cX7_greedy 47 = .ok (.getfield 51, 3) := by decide +kernel
theorem dX7_greedy_50 : decode cX7_greedy 50 = .ok (.invokevirtual 184, 3) := by decide +kernel
theorem dX7_greedy_53 : decode cX7_greedy 53 = .ok (.ireturn, 1) := by decide +kernel
theorem dX7_parts_0 : decode cX7_parts 0 = .ok (.aload_n 0, 1) := by decide +kernel
theorem dX7_parts_1 : decode cX7_parts 1 = .ok (.invokevirtual 155, 3) := by decide +kernel
theorem dX7_parts_4 : decode cX7_parts 4 = .ok (.ifCond .ne 7, 3) := by decide +kernel
theorem dX7_parts_7 : decode cX7_parts 7 = .ok (.sipush (-1003), 3) := by decide +kernel
theorem dX7_parts_10 : decode cX7_parts 10 = .ok (.ireturn, 1) := by decide +kernel
theorem dX7_parts_11 : decode cX7_parts 11 = .ok (.iload_n 1, 1) := by decide +kernel
theorem dX7_parts_12 : decode cX7_parts 12 = .ok (.iconst 1, 1) := by decide +kernel
theorem dX7_parts_13 : decode cX7_parts 13 = .ok (.if_icmp .lt 18, 3) := by decide +kernel
theorem dX7_parts_16 : decode cX7_parts 16 = .ok (.iload_n 1, 1) := by decide +kernel
theorem dX7_parts_17 : decode cX7_parts 17 = .ok (.bipush 24, 2) := by decide +kernel
theorem dX7_parts_19 : decode cX7_parts 19 = .ok (.if_icmp .gt 12, 3) := by decide +kernel
theorem dX7_parts_22 : decode cX7_parts 22 = .ok (.iload_n 2, 1) := by decide +kernel
theorem dX7_parts_23 : decode cX7_parts 23 = .ok (.ifCond .lt 8, 3) := by decide +kernel
theorem dX7_parts_26 : decode cX7_parts 26 = .ok (.iload_n 2, 1) := by decide +kernel
theorem dX7_parts_27 : decode cX7_parts 27 = .ok (.iconst 2, 1) := by decide +kernel
theorem dX7_parts_28 : decode cX7_parts 28 = .ok (.if_icmp .le 7, 3) := by decide +kernel
theorem dX7_parts_31 : decode cX7_parts 31 = .ok (.sipush (-1002), 3) := by decide +kernel
theorem dX7_parts_34 : decode cX7_parts 34 = .ok (.ireturn, 1) := by decide +kernel
theorem dX7_parts_35 : decode cX7_parts 35 = .ok (.iload_n 2, 1) := by decide +kernel
theorem dX7_parts_36 : decode cX7_parts 36 = .ok (.iconst 1, 1) := by decide +kernel
theorem dX7_parts_37 : decode cX7_parts 37 = .ok (.if_icmp .ne 17, 3) := by decide +kernel
theorem dX7_parts_40 : decode cX7_parts 40 = .ok (.aload_n 0, 1) := by decide +kernel
theorem dX7_parts_41 : decode cX7_parts 41 = .ok (.getfield 26, 3) := by decide +kernel
theorem dX7_parts_44 : decode cX7_parts 44 = .ok (.invokevirtual 123, 3) := by decide +kernel
theorem dX7_parts_47 : decode cX7_parts 47 = .ok (.iload_n 1, 1) := by decide +kernel
theorem dX7_parts_48 : decode cX7_parts 48 = .ok (.iadd, 1) := by decide +kernel
theorem dX7_parts_49 : decode cX7_parts 49 = .ok (.iconst 1, 1) := by decide +kernel
theorem dX7_parts_50 : decode cX7_parts 50 = .ok (.isub, 1) := by decide +kernel
theorem dX7_parts_51 : decode cX7_parts 51 = .ok (.iload_n 1, 1) := by decide +kernel
theorem dX7_parts_52 : decode cX7_parts 52 = .ok (.idiv, 1) := by decide +kernel
theorem dX7_parts_53 : decode cX7_parts 53 = .ok (.ireturn, 1) := by decide +kernel
theorem dX7_parts_54 : decode cX7_parts 54 = .ok (.aload_n 0, 1) := by decide +kernel
theorem dX7_parts_55 : decode cX7_parts 55 = .ok (.iload_n 1, 1) := by decide +kernel
theorem dX7_parts_56 : decode cX7_parts 56 = .ok (.invokevirtual 192, 3) := by decide +kernel
theorem dX7_parts_59 : decode cX7_parts 59 = .ok (.istore_n 3, 1) := by decide +kernel
theorem dX7_parts_60 : decode cX7_parts 60 = .ok (.iload_n 2, 1) := by decide +kernel
theorem dX7_parts_61 : decode cX7_parts 61 = .ok (.ifCond .ne 5, 3) := by decide +kernel
theorem dX7_parts_64 : decode cX7_parts 64 = .ok (.iload_n 3, 1) := by decide +kernel
theorem dX7_parts_65 : decode cX7_parts 65 = .ok (.ireturn, 1) := by decide +kernel
theorem dX7_parts_66 : decode cX7_parts 66 = .ok (.aload_n 0, 1) := by decide +kernel
theorem dX7_parts_67 : decode cX7_parts 67 = .ok (.invokevirtual 158, 3) := by decide +kernel
theorem dX7_parts_70 : decode cX7_parts 70 = .ok (.iload_n 3, 1) := by decide +kernel
theorem dX7_parts_71 : decode cX7_parts 71 = .ok (.aload_n 0, 1) := by decide +kernel
theorem dX7_parts_72 : decode cX7_parts 72 = .ok (.getfield 33, 3) := by decide +kernel
theorem dX7_parts_75 : decode cX7_parts 75 = .ok (.aload_n 0, 1) := by decide +kernel
theorem dX7_parts_76 : decode cX7_parts 76 = .ok (.getfield 47, 3) := by decide +kernel
theorem dX7_parts_79 : decode cX7_parts 79 = .ok (.invokevirtual 137, 3) := by decide +kernel
theorem dX7_parts_82 : decode cX7_parts 82 = .ok (.isub, 1) := by decide +kernel
theorem dX7_parts_83 : decode cX7_parts 83 = .ok (.ireturn, 1) := by decide +kernel
theorem dX7_count_0 : decode cX7_count 0 = .ok (.iload_n 1, 1) := by decide +kernel
theorem dX7_count_1 : decode cX7_count 1 = .ok (.ifCond .lt 9, 3) := by decide +kernel
theorem dX7_count_4 : decode cX7_count 4 = .ok (.iload_n 1, 1) := by decide +kernel
theorem dX7_count_5 : decode cX7_count 5 = .ok (.bipush 8, 2) := by decide +kernel
theorem dX7_count_7 : decode cX7_count 7 = .ok (.if_icmp .lt 7, 3) := by decide +kernel
theorem dX7_count_10 : decode cX7_count 10 = .ok (.sipush (-1002), 3) := by decide +kernel
theorem dX7_count_13 : decode cX7_count 13 = .ok (.ireturn, 1) := by decide +kernel
theorem dX7_count_14 : decode cX7_count 14 = .ok (.iload_n 1, 1) := by decide +kernel
theorem dX7_count_15 : decode cX7_count 15 = .ok (.iconst 2, 1) := by decide +kernel
theorem dX7_count_16 : decode cX7_count 16 = .ok (.if_icmp .lt 12, 3) := by decide +kernel
theorem dX7_count_19 : decode cX7_count 19 = .ok (.iload_n 1, 1) := by decide +kernel
theorem dX7_count_20 : decode cX7_count 20 = .ok (.iconst 4, 1) := by decide +kernel
theorem dX7_count_21 : decode cX7_count 21 = .ok (.if_icmp .gt 7, 3) := by decide +kernel
theorem dX7_count_24 : decode cX7_count 24 = .ok (.aload_n 0, 1) := by decide +kernel
theorem dX7_count_25 : decode cX7_count 25 = .ok (.invokevirtual 158, 3) := by decide +kernel
theorem dX7_count_28 : decode cX7_count 28 = .ok (.iload_n 1, 1) := by decide +kernel
theorem dX7_count_29 : decode cX7_count 29 = .ok (.tableswitch 93 0 6 #[43, 51, 59, 67, 75, 83, 88], 43) := by decide +kernel
theorem dX7_count_72 : decode cX7_count 72 = .ok (.aload_n 0, 1) := by decide +kernel
theorem dX7_count_73 : decode cX7_count 73 = .ok (.getfield 10, 3) := by decide +kernel
theorem dX7_count_76 : decode cX7_count 76 = .ok (.invokevirtual 94, 3) := by decide +kernel
theorem dX7_count_79 : decode cX7_count 79 = .ok (.ireturn, 1) := by decide +kernel
theorem dX7_count_80 : decode cX7_count 80 = .ok (.aload_n 0, 1) := by decide +kernel
theorem dX7_count_81 : decode cX7_count 81 = .ok (.getfield 26, 3) := by decide +kernel
theorem dX7_count_84 : decode cX7_count 84 = .ok (.invokevirtual 123, 3) := by decide +kernel
theorem dX7_count_87 : decode cX7_count 87 = .ok (.ireturn, 1) := by decide +kernel
theorem dX7_count_88 : decode cX7_count 88 = .ok (.aload_n 0, 1) := by decide +kernel
theorem dX7_count_89 : decode cX7_count 89 = .ok (.getfield 47, 3) := by decide +kernel
theorem dX7_count_92 : decode cX7_count 92 = .ok (.invokevirtual 195, 3) := by decide +kernel
theorem dX7_count_95 : decode cX7_count 95 = .ok (.ireturn, 1) := by decide +kernel
theorem dX7_count_96 : decode cX7_count 96 = .ok (.aload_n 0, 1) := by decide +kernel
theorem dX7_count_97 : decode cX7_count 97 = .ok (.getfield 47, 3) := by decide +kernel
theorem dX7_count_100 : decode cX7_count 100 = .ok (.invokevirtual 198, 3) := by decide +kernel
theorem dX7_count_103 : decode cX7_count 103 = .ok (.ireturn, 1) := by decide +kernel
theorem dX7_count_104 : decode cX7_count 104 = .ok (.aload_n 0, 1) := by decide +kernel
theorem dX7_count_105 : decode cX7_count 105 = .ok (.getfield 47, 3) := by decide +kernel
theorem dX7_count_108 : decode cX7_count 108 = .ok (.invokevirtual 201, 3) := by decide +kernel
theorem dX7_count_111 : decode cX7_count 111 = .ok (.ireturn, 1) := by decide +kernel
theorem dX7_count_112 : decode cX7_count 112 = .ok (.aload_n 0, 1) := by decide +kernel
theorem dX7_count_113 : decode cX7_count 113 = .ok (.getfield 77, 3) := by decide +kernel
theorem dX7_count_116 : decode cX7_count 116 = .ok (.ireturn, 1) := by decide +kernel
theorem dX7_count_117 : decode cX7_count 117 = .ok (.aload_n 0, 1) := by decide +kernel
theorem dX7_count_118 : decode cX7_count 118 = .ok (.getfield 80, 3) := by decide +kernel
theorem dX7_count_121 : decode cX7_count 121 = .ok (.ireturn, 1) := by decide +kernel
theorem dX7_count_122 : decode cX7_count 122 = .ok (.aload_n 0, 1) := by decide +kernel
theorem dX7_count_123 : decode cX7_count 123 = .ok (.getfield 83, 3) := by decide +kernel
theorem dX7_count_126 : decode cX7_count 126 = .ok (.ireturn, 1) := by decide +kernel
theorem dX7_digest_0 : decode cX7_digest 0 = .ok (.ldc2_w 204, 3) := by decide +kernel
theorem dX7_digest_3 : decode cX7_digest 3 = .ok (.lstore_n 1, 1) := by decide +kernel
theorem dX7_digest_4 : decode cX7_digest 4 = .ok (.iconst 0, 1) := by decide +kernel
theorem dX7_digest_5 : decode cX7_digest 5 = .ok (.istore_n 3, 1) := by decide +kernel
theorem dX7_digest_6 : decode cX7_digest 6 = .ok (.iload_n 3, 1) := by decide +kernel
theorem dX7_digest_7 : decode cX7_digest 7 = .ok (.bipush 18, 2) := by decide +kernel
theorem dX7_digest_9 : decode cX7_digest 9 = .ok (.if_icmp .ge 23, 3) := by decide +kernel
theorem dX7_digest_12 : decode cX7_digest 12 = .ok (.lload_n 1, 1) := by decide +kernel
theorem dX7_digest_13 : decode cX7_digest 13 = .ok (.aload_n 0, 1) := by decide +kernel
theorem dX7_digest_14 : decode cX7_digest 14 = .ok (.getfield 33, 3) := by decide +kernel
theorem dX7_digest_17 : decode cX7_digest 17 = .ok (.iload_n 3, 1) := by decide +kernel
theorem dX7_digest_18 : decode cX7_digest 18 = .ok (.invokevirtual 145, 3) := by decide +kernel
theorem dX7_digest_21 : decode cX7_digest 21 = .ok (.i2l, 1) := by decide +kernel
theorem dX7_digest_22 : decode cX7_digest 22 = .ok (.invokestatic 206, 3) := by decide +kernel
theorem dX7_digest_25 : decode cX7_digest 25 = .ok (.lstore_n 1, 1) := by decide +kernel
theorem dX7_digest_26 : decode cX7_digest 26 = .ok (.iinc 3 1, 3) := by decide +kernel
theorem dX7_digest_29 : decode cX7_digest 29 = .ok (.goto (-23), 3) := by decide +kernel
theorem dX7_digest_32 : decode cX7_digest 32 = .ok (.iconst 0, 1) := by decide +kernel
theorem dX7_digest_33 : decode cX7_digest 33 = .ok (.istore_n 3, 1) := by decide +kernel
theorem dX7_digest_34 : decode cX7_digest 34 = .ok (.iload_n 3, 1) := by decide +kernel
theorem dX7_digest_35 : decode cX7_digest 35 = .ok (.aload_n 0, 1) := by decide +kernel
theorem dX7_digest_36 : decode cX7_digest 36 = .ok (.getfield 26, 3) := by decide +kernel
theorem dX7_digest_39 : decode cX7_digest 39 = .ok (.invokevirtual 123, 3) := by decide +kernel
theorem dX7_digest_42 : decode cX7_digest 42 = .ok (.if_icmp .ge 76, 3) := by decide +kernel
theorem dX7_digest_45 : decode cX7_digest 45 = .ok (.lload_n 1, 1) := by decide +kernel
theorem dX7_digest_46 : decode cX7_digest 46 = .ok (.aload_n 0, 1) := by decide +kernel
theorem dX7_digest_47 : decode cX7_digest 47 = .ok (.iload_n 3, 1) := by decide +kernel
theorem dX7_digest_48 : decode cX7_digest 48 = .ok (.invokevirtual 210, 3) := by decide +kernel
theorem dX7_digest_51 : decode cX7_digest 51 = .ok (.i2l, 1) := by decide +kernel
theorem dX7_digest_52 : decode cX7_digest 52 = .ok (.invokestatic 206, 3) := by decide +kernel
theorem dX7_digest_55 : decode cX7_digest 55 = .ok (.lstore_n 1, 1) := by decide +kernel
theorem dX7_digest_56 : decode cX7_digest 56 = .ok (.iconst 0, 1) := by decide +kernel
theorem dX7_digest_57 : decode cX7_digest 57 = .ok (.istore 4, 2) := by decide +kernel
theorem dX7_digest_59 : decode cX7_digest 59 = .ok (.iload 4, 2) := by decide +kernel
theorem dX7_digest_61 : decode cX7_digest 61 = .ok (.iconst 1, 1) := by decide +kernel
theorem dX7_digest_62 : decode cX7_digest 62 = .ok (.if_icmp .gt 22, 3) := by decide +kernel
theorem dX7_digest_65 : decode cX7_digest 65 = .ok (.lload_n 1, 1) := by decide +kernel
theorem dX7_digest_66 : decode cX7_digest 66 = .ok (.aload_n 0, 1) := by decide +kernel
theorem dX7_digest_67 : decode cX7_digest 67 = .ok (.iload_n 3, 1) := by decide +kernel
theorem dX7_digest_68 : decode cX7_digest 68 = .ok (.iload 4, 2) := by decide +kernel
theorem dX7_digest_70 : decode cX7_digest 70 = .ok (.invokevirtual 213, 3) := by decide +kernel
theorem dX7_digest_73 : decode cX7_digest 73 = .ok (.i2l, 1) := by decide +kernel
theorem dX7_digest_74 : decode cX7_digest 74 = .ok (.invokestatic 206, 3) := by decide +kernel
theorem dX7_digest_77 : decode cX7_digest 77 = .ok (.lstore_n 1, 1) := by decide +kernel
theorem dX7_digest_78 : decode cX7_digest 78 = .ok (.iinc 4 1, 3) := by decide +kernel
theorem dX7_digest_81 : decode cX7_digest 81 = .ok (.goto (-22), 3) := by decide +kernel
theorem dX7_digest_84 : decode cX7_digest 84 = .ok (.iconst 0, 1) := by decide +kernel
theorem dX7_digest_85 : decode cX7_digest 85 = .ok (.istore 4, 2) := by decide +kernel
theorem dX7_digest_87 : decode cX7_digest 87 = .ok (.iload 4, 2) := by decide +kernel
theorem dX7_digest_89 : decode cX7_digest 89 = .ok (.iconst 1, 1) := by decide +kernel
theorem dX7_digest_90 : decode cX7_digest 90 = .ok (.if_icmp .gt 22, 3) := by decide +kernel
theorem dX7_digest_93 : decode cX7_digest 93 = .ok (.lload_n 1, 1) := by decide +kernel
theorem dX7_digest_94 : decode cX7_digest 94 = .ok (.aload_n 0, 1) := by decide +kernel
theorem dX7_digest_95 : decode cX7_digest 95 = .ok (.iload_n 3, 1) := by decide +kernel
theorem dX7_digest_96 : decode cX7_digest 96 = .ok (.iload 4, 2) := by decide +kernel
theorem dX7_digest_98 : decode cX7_digest 98 = .ok (.invokevirtual 216, 3) := by decide +kernel
theorem dX7_digest_101 : decode cX7_digest 101 = .ok (.i2l, 1) := by decide +kernel
theorem dX7_digest_102 : decode cX7_digest 102 = .ok (.invokestatic 206, 3) := by decide +kernel
theorem dX7_digest_105 : decode cX7_digest 105 = .ok (.lstore_n 1, 1) := by decide +kernel
theorem dX7_digest_106 : decode cX7_digest 106 = .ok (.iinc 4 1, 3) := by decide +kernel
theorem dX7_digest_109 : decode cX7_digest 109 = .ok (.goto (-22), 3) := by decide +kernel
theorem dX7_digest_112 : decode cX7_digest 112 = .ok (.iinc 3 1, 3) := by decide +kernel
theorem dX7_digest_115 : decode cX7_digest 115 = .ok (.goto (-81), 3) := by decide +kernel
theorem dX7_digest_118 : decode cX7_digest 118 = .ok (.aload_n 0, 1) := by decide +kernel
theorem dX7_digest_119 : decode cX7_digest 119 = .ok (.invokevirtual 155, 3) := by decide +kernel
theorem dX7_digest_122 : decode cX7_digest 122 = .ok (.ifCond .eq 133, 3) := by decide +kernel
theorem dX7_digest_125 : decode cX7_digest 125 = .ok (.iconst 0, 1) := by decide +kernel
theorem dX7_digest_126 : decode cX7_digest 126 = .ok (.istore_n 3, 1) := by decide +kernel
theorem dX7_digest_127 : decode cX7_digest 127 = .ok (.iload_n 3, 1) := by decide +kernel
theorem dX7_digest_128 : decode cX7_digest 128 = .ok (.iconst 2, 1) := by decide +kernel
theorem dX7_digest_129 : decode cX7_digest 129 = .ok (.if_icmp .gt 20, 3) := by decide +kernel
theorem dX7_digest_132 : decode cX7_digest 132 = .ok (.lload_n 1, 1) := by decide +kernel
theorem dX7_digest_133 : decode cX7_digest 133 = .ok (.aload_n 0, 1) := by decide +kernel
theorem dX7_digest_134 : decode cX7_digest 134 = .ok (.iload_n 3, 1) := by decide +kernel
theorem dX7_digest_135 : decode cX7_digest 135 = .ok (.invokevirtual 219, 3) := by decide +kernel
theorem dX7_digest_138 : decode cX7_digest 138 = .ok (.i2l, 1) := by decide +kernel
theorem dX7_digest_139 : decode cX7_digest 139 = .ok (.invokestatic 206, 3) := by decide +kernel
theorem dX7_digest_142 : decode cX7_digest 142 = .ok (.lstore_n 1, 1) := by decide +kernel
theorem dX7_digest_143 : decode cX7_digest 143 = .ok (.iinc 3 1, 3) := by decide +kernel
theorem dX7_digest_146 : decode cX7_digest 146 = .ok (.goto (-19), 3) := by decide +kernel
theorem dX7_digest_149 : decode cX7_digest 149 = .ok (.iconst 0, 1) := by decide +kernel
theorem dX7_digest_150 : decode cX7_digest 150 = .ok (.istore_n 3, 1) := by decide +kernel
theorem dX7_digest_151 : decode cX7_digest 151 = .ok (.iload_n 3, 1) := by decide +kernel
theorem dX7_digest_152 : decode cX7_digest 152 = .ok (.aload_n 0, 1) := by decide +kernel
theorem dX7_digest_153 : decode cX7_digest 153 = .ok (.getfield 47, 3) := by decide +kernel
theorem dX7_digest_156 : decode cX7_digest 156 = .ok (.invokevirtual 184, 3) := by decide +kernel
theorem dX7_digest_159 : decode cX7_digest 159 = .ok (.if_icmp .ge 23, 3) := by decide +kernel
theorem dX7_digest_162 : decode cX7_digest 162 = .ok (.lload_n 1, 1) := by decide +kernel
theorem dX7_digest_163 : decode cX7_digest 163 = .ok (.aload_n 0, 1) := by decide +kernel
theorem dX7_digest_164 : decode cX7_digest 164 = .ok (.getfield 47, 3) := by decide +kernel
theorem dX7_digest_167 : decode cX7_digest 167 = .ok (.iload_n 3, 1) := by decide +kernel
theorem dX7_digest_168 : decode cX7_digest 168 = .ok (.invokevirtual 183, 3) := by decide +kernel
theorem dX7_digest_171 : decode cX7_digest 171 = .ok (.i2l, 1) := by decide +kernel
theorem dX7_digest_172 : decode cX7_digest 172 = .ok (.invokestatic 206, 3) := by decide +kernel
theorem dX7_digest_175 : decode cX7_digest 175 = .ok (.lstore_n 1, 1) := by decide +kernel
theorem dX7_digest_176 : decode cX7_digest 176 = .ok (.iinc 3 1, 3) := by decide +kernel
theorem dX7_digest_179 : decode cX7_digest 179 = .ok (.goto (-28), 3) := by decide +kernel
theorem dX7_digest_182 : decode cX7_digest 182 = .ok (.iconst 0, 1) := by decide +kernel
theorem dX7_digest_183 : decode cX7_digest 183 = .ok (.istore_n 3, 1) := by decide +kernel
theorem dX7_digest_184 : decode cX7_digest 184 = .ok (.iload_n 3, 1) := by decide +kernel
theorem dX7_digest_185 : decode cX7_digest 185 = .ok (.iconst 1, 1) := by decide +kernel
theorem dX7_digest_186 : decode cX7_digest 186 = .ok (.if_icmp .gt 20, 3) := by decide +kernel
theorem dX7_digest_189 : decode cX7_digest 189 = .ok (.lload_n 1, 1) := by decide +kernel
theorem dX7_digest_190 : decode cX7_digest 190 = .ok (.aload_n 0, 1) := by decide +kernel
theorem dX7_digest_191 : decode cX7_digest 191 = .ok (.iload_n 3, 1) := by decide +kernel
theorem dX7_digest_192 : decode cX7_digest 192 = .ok (.invokevirtual 222, 3) := by decide +kernel
theorem dX7_digest_195 : decode cX7_digest 195 = .ok (.i2l, 1) := by decide +kernel
theorem dX7_digest_196 : decode cX7_digest 196 = .ok (.invokestatic 206, 3) := by decide +kernel
theorem dX7_digest_199 : decode cX7_digest 199 = .ok (.lstore_n 1, 1) := by decide +kernel
theorem dX7_digest_200 : decode cX7_digest 200 = .ok (.iinc 3 1, 3) := by decide +kernel
theorem dX7_digest_203 : decode cX7_digest 203 = .ok (.goto (-19), 3) := by decide +kernel
theorem dX7_digest_206 : decode cX7_digest 206 = .ok (.iconst 0, 1) := by decide +kernel
theorem dX7_digest_207 : decode cX7_digest 207 = .ok (.istore_n 3, 1) := by decide +kernel
theorem dX7_digest_208 : decode cX7_digest 208 = .ok (.iload_n 3, 1) := by decide +kernel
theorem dX7_digest_209 : decode cX7_digest 209 = .ok (.iconst 2, 1) := by decide +kernel
theorem dX7_digest_210 : decode cX7_digest 210 = .ok (.if_icmp .gt 20, 3) := by decide +kernel
theorem dX7_digest_213 : decode cX7_digest 213 = .ok (.lload_n 1, 1) := by decide +kernel
theorem dX7_digest_214 : decode cX7_digest 214 = .ok (.aload_n 0, 1) := by decide +kernel
theorem dX7_digest_215 : decode cX7_digest 215 = .ok (.iload_n 3, 1) := by decide +kernel
theorem dX7_digest_216 : decode cX7_digest 216 = .ok (.invokevirtual 225, 3) := by decide +kernel
theorem dX7_digest_219 : decode cX7_digest 219 = .ok (.i2l, 1) := by decide +kernel
theorem dX7_digest_220 : decode cX7_digest 220 = .ok (.invokestatic 206, 3) := by decide +kernel
theorem dX7_digest_223 : decode cX7_digest 223 = .ok (.lstore_n 1, 1) := by decide +kernel
theorem dX7_digest_224 : decode cX7_digest 224 = .ok (.iinc 3 1, 3) := by decide +kernel
theorem dX7_digest_227 : decode cX7_digest 227 = .ok (.goto (-19), 3) := by decide +kernel
theorem dX7_digest_230 : decode cX7_digest 230 = .ok (.lload_n 1, 1) := by decide +kernel
theorem dX7_digest_231 : decode cX7_digest 231 = .ok (.aload_n 0, 1) := by decide +kernel
theorem dX7_digest_232 : decode cX7_digest 232 = .ok (.iconst 4, 1) := by decide +kernel
theorem dX7_digest_233 : decode cX7_digest 233 = .ok (.iconst 0, 1) := by decide +kernel
theorem dX7_digest_234 : decode cX7_digest 234 = .ok (.invokevirtual 228, 3) := by decide +kernel
theorem dX7_digest_237 : decode cX7_digest 237 = .ok (.i2l, 1) := by decide +kernel
theorem dX7_digest_238 : decode cX7_digest 238 = .ok (.invokestatic 206, 3) := by decide +kernel
theorem dX7_digest_241 : decode cX7_digest 241 = .ok (.lstore_n 1, 1) := by decide +kernel
theorem dX7_digest_242 : decode cX7_digest 242 = .ok (.lload_n 1, 1) := by decide +kernel
theorem dX7_digest_243 : decode cX7_digest 243 = .ok (.aload_n 0, 1) := by decide +kernel
theorem dX7_digest_244 : decode cX7_digest 244 = .ok (.bipush 10, 2) := by decide +kernel
theorem dX7_digest_246 : decode cX7_digest 246 = .ok (.iconst 0, 1) := by decide +kernel
theorem dX7_digest_247 : decode cX7_digest 247 = .ok (.invokevirtual 228, 3) := by decide +kernel
theorem dX7_digest_250 : decode cX7_digest 250 = .ok (.i2l, 1) := by decide +kernel
theorem dX7_digest_251 : decode cX7_digest 251 = .ok (.invokestatic 206, 3) := by decide +kernel
theorem dX7_digest_254 : decode cX7_digest 254 = .ok (.lstore_n 1, 1) := by decide +kernel
theorem dX7_digest_255 : decode cX7_digest 255 = .ok (.iconst 0, 1) := by decide +kernel
theorem dX7_digest_256 : decode cX7_digest 256 = .ok (.istore_n 3, 1) := by decide +kernel
theorem dX7_digest_257 : decode cX7_digest 257 = .ok (.iload_n 3, 1) := by decide +kernel
theorem dX7_digest_258 : decode cX7_digest 258 = .ok (.aload_n 0, 1) := by decide +kernel
theorem dX7_digest_259 : decode cX7_digest 259 = .ok (.getfield 10, 3) := by decide +kernel
theorem dX7_digest_262 : decode cX7_digest 262 = .ok (.invokevirtual 94, 3) := by decide +kernel
theorem dX7_digest_265 : decode cX7_digest 265 = .ok (.if_icmp .ge 23, 3) := by decide +kernel
theorem dX7_digest_268 : decode cX7_digest 268 = .ok (.lload_n 1, 1) := by decide +kernel
theorem dX7_digest_269 : decode cX7_digest 269 = .ok (.aload_n 0, 1) := by decide +kernel
theorem dX7_digest_270 : decode cX7_digest 270 = .ok (.getfield 10, 3) := by decide +kernel
theorem dX7_digest_273 : decode cX7_digest 273 = .ok (.iload_n 3, 1) := by decide +kernel
theorem dX7_digest_274 : decode cX7_digest 274 = .ok (.invokevirtual 115, 3) := by decide +kernel
theorem dX7_digest_277 : decode cX7_digest 277 = .ok (.i2l, 1) := by decide +kernel
theorem dX7_digest_278 : decode cX7_digest 278 = .ok (.invokestatic 206, 3) := by decide +kernel
theorem dX7_digest_281 : decode cX7_digest 281 = .ok (.lstore_n 1, 1) := by decide +kernel
theorem dX7_digest_282 : decode cX7_digest 282 = .ok (.iinc 3 1, 3) := by decide +kernel
theorem dX7_digest_285 : decode cX7_digest 285 = .ok (.goto (-28), 3) := by decide +kernel
theorem dX7_digest_288 : decode cX7_digest 288 = .ok (.iconst 0, 1) := by decide +kernel
theorem dX7_digest_289 : decode cX7_digest 289 = .ok (.istore_n 3, 1) := by decide +kernel
theorem dX7_digest_290 : decode cX7_digest 290 = .ok (.iload_n 3, 1) := by decide +kernel
theorem dX7_digest_291 : decode cX7_digest 291 = .ok (.bipush 8, 2) := by decide +kernel
theorem dX7_digest_293 : decode cX7_digest 293 = .ok (.if_icmp .ge 20, 3) := by decide +kernel
theorem dX7_digest_296 : decode cX7_digest 296 = .ok (.lload_n 1, 1) := by decide +kernel
theorem dX7_digest_297 : decode cX7_digest 297 = .ok (.aload_n 0, 1) := by decide +kernel
theorem dX7_digest_298 : decode cX7_digest 298 = .ok (.iload_n 3, 1) := by decide +kernel
theorem dX7_digest_299 : decode cX7_digest 299 = .ok (.invokevirtual 231, 3) := by decide +kernel
theorem dX7_digest_302 : decode cX7_digest 302 = .ok (.i2l, 1) := by decide +kernel
theorem dX7_digest_303 : decode cX7_digest 303 = .ok (.invokestatic 206, 3) := by decide +kernel
theorem dX7_digest_306 : decode cX7_digest 306 = .ok (.lstore_n 1, 1) := by decide +kernel
theorem dX7_digest_307 : decode cX7_digest 307 = .ok (.iinc 3 1, 3) := by decide +kernel
theorem dX7_digest_310 : decode cX7_digest 310 = .ok (.goto (-20), 3) := by decide +kernel
theorem dX7_digest_313 : decode cX7_digest 313 = .ok (.lload_n 1, 1) := by decide +kernel
theorem dX7_digest_314 : decode cX7_digest 314 = .ok (.lreturn, 1) := by decide +kernel
theorem dX7_hasText_0 : decode cX7_hasText 0 = .ok (.aload_n 0, 1) := by decide +kernel
theorem dX7_hasText_1 : decode cX7_hasText 1 = .ok (.getfield 26, 3) := by decide +kernel
theorem dX7_hasText_4 : decode cX7_hasText 4 = .ok (.invokevirtual 123, 3) := by decide +kernel
theorem dX7_hasText_7 : decode cX7_hasText 7 = .ok (.ifCond .le 7, 3) := by decide +kernel
theorem dX7_hasText_10 : decode cX7_hasText 10 = .ok (.iconst 1, 1) := by decide +kernel
theorem dX7_hasText_11 : decode cX7_hasText 11 = .ok (.goto 4, 3) := by decide +kernel
theorem dX7_hasText_14 : decode cX7_hasText 14 = .ok (.iconst 0, 1) := by decide +kernel
theorem dX7_hasText_15 : decode cX7_hasText 15 = .ok (.ireturn, 1) := by decide +kernel
theorem dX7_isPrice_0 : decode cX7_isPrice 0 = .ok (.iload_n 0, 1) := by decide +kernel
theorem dX7_isPrice_1 : decode cX7_isPrice 1 = .ok (.ifCond .lt 13, 3) := by decide +kernel
theorem dX7_isPrice_4 : decode cX7_isPrice 4 = .ok (.iload_n 0, 1) := by decide +kernel
theorem dX7_isPrice_5 : decode cX7_isPrice 5 = .ok (.bipush 18, 2) := by decide +kernel
theorem dX7_isPrice_7 : decode cX7_isPrice 7 = .ok (.if_icmp .ge 7, 3) := by decide +kernel
theorem dX7_isPrice_10 : decode cX7_isPrice 10 = .ok (.iconst 1, 1) := by decide +kernel
theorem dX7_isPrice_11 : decode cX7_isPrice 11 = .ok (.goto 4, 3) := by decide +kernel
theorem dX7_isPrice_14 : decode cX7_isPrice 14 = .ok (.iconst 0, 1) := by decide +kernel
theorem dX7_isPrice_15 : decode cX7_isPrice 15 = .ok (.ireturn, 1) := by decide +kernel
theorem dX7_takeText_0 : decode cX7_takeText 0 = .ok (.aload_n 0, 1) := by decide +kernel
theorem dX7_takeText_1 : decode cX7_takeText 1 = .ok (.getfield 26, 3) := by decide +kernel
theorem dX7_takeText_4 : decode cX7_takeText 4 = .ok (.invokevirtual 234, 3) := by decide +kernel
theorem dX7_takeText_7 : decode cX7_takeText 7 = .ok (.aload_n 0, 1) := by decide +kernel
theorem dX7_takeText_8 : decode cX7_takeText 8 = .ok (.getfield 10, 3) := by decide +kernel
theorem dX7_takeText_11 : decode cX7_takeText 11 = .ok (.invokevirtual 98, 3) := by decide +kernel
theorem dX7_takeText_14 : decode cX7_takeText 14 = .ok (.aload_n 0, 1) := by decide +kernel
theorem dX7_takeText_15 : decode cX7_takeText 15 = .ok (.invokevirtual 152, 3) := by decide +kernel
theorem dX7_takeText_18 : decode cX7_takeText 18 = .ok (.return_, 1) := by decide +kernel
theorem dX7_forget_0 : decode cX7_forget 0 = .ok (.aload_n 0, 1) := by decide +kernel
theorem dX7_forget_1 : decode cX7_forget 1 = .ok (.iconst 0, 1) := by decide +kernel
theorem dX7_forget_2 : decode cX7_forget 2 = .ok (.putfield 60, 3) := by decide +kernel
theorem dX7_forget_5 : decode cX7_forget 5 = .ok (.aload_n 0, 1) := by decide +kernel
theorem dX7_forget_6 : decode cX7_forget 6 = .ok (.iconst 0, 1) := by decide +kernel
theorem dX7_forget_7 : decode cX7_forget 7 = .ok (.putfield 64, 3) := by decide +kernel
theorem dX7_forget_10 : decode cX7_forget 10 = .ok (.return_, 1) := by decide +kernel
theorem dX7_chooseCheapest_0 : decode cX7_chooseCheapest 0 = .ok (.aload_n 0, 1) := by decide +kernel
theorem dX7_chooseCheapest_1 : decode cX7_chooseCheapest 1 = .ok (.getfield 60, 3) := by decide +kernel
theorem dX7_chooseCheapest_4 : decode cX7_chooseCheapest 4 = .ok (.ifCond .eq 4, 3) := by decide +kernel
theorem dX7_chooseCheapest_7 : decode cX7_chooseCheapest 7 = .ok (.return_, 1) := by decide +kernel
theorem dX7_chooseCheapest_8 : decode cX7_chooseCheapest 8 = .ok (.aload_n 0, 1) := by decide +kernel
theorem dX7_chooseCheapest_9 : decode cX7_chooseCheapest 9 = .ok (.getfield 40, 3) := by decide +kernel
theorem dX7_chooseCheapest_12 : decode cX7_chooseCheapest 12 = .ok (.aload_n 0, 1) := by decide +kernel
theorem dX7_chooseCheapest_13 : decode cX7_chooseCheapest 13 = .ok (.getfield 26, 3) := by decide +kernel
theorem dX7_chooseCheapest_16 : decode cX7_chooseCheapest 16 = .ok (.aload_n 0, 1) := by decide +kernel
theorem dX7_chooseCheapest_17 : decode cX7_chooseCheapest 17 = .ok (.getfield 33, 3) := by decide +kernel
theorem dX7_chooseCheapest_20 : decode cX7_chooseCheapest 20 = .ok (.iconst 0, 1) := by decide +kernel
theorem dX7_chooseCheapest_21 : decode cX7_chooseCheapest 21 = .ok (.aload_n 0, 1) := by decide +kernel
theorem dX7_chooseCheapest_22 : decode cX7_chooseCheapest 22 = .ok (.getfield 26, 3) := by decide +kernel
theorem dX7_chooseCheapest_25 : decode cX7_chooseCheapest 25 = .ok (.invokevirtual 123, 3) := by decide +kernel
theorem dX7_chooseCheapest_28 : decode cX7_chooseCheapest 28 = .ok (.aload_n 0, 1) := by decide +kernel
theorem dX7_chooseCheapest_29 : decode cX7_chooseCheapest 29 = .ok (.getfield 47, 3) := by decide +kernel
theorem dX7_chooseCheapest_32 : decode cX7_chooseCheapest 32 = .ok (.invokevirtual 237, 3) := by decide +kernel
theorem dX7_chooseCheapest_35 : decode cX7_chooseCheapest 35 = .ok (.aload_n 0, 1) := by decide +kernel
theorem dX7_chooseCheapest_36 : decode cX7_chooseCheapest 36 = .ok (.iconst 1, 1) := by decide +kernel
theorem dX7_chooseCheapest_37 : decode cX7_chooseCheapest 37 = .ok (.putfield 60, 3) := by decide +kernel
theorem dX7_chooseCheapest_40 : decode cX7_chooseCheapest 40 = .ok (.return_, 1) := by decide +kernel
theorem dX7_chooseGreedy_0 : decode cX7_chooseGreedy 0 = .ok (.aload_n 0, 1) := by decide +kernel
theorem dX7_chooseGreedy_1 : decode cX7_chooseGreedy 1 = .ok (.getfield 51, 3) := by decide +kernel
theorem dX7_chooseGreedy_4 : decode cX7_chooseGreedy 4 = .ok (.invokevirtual 241, 3) := by decide +kernel
theorem dX7_chooseGreedy_7 : decode cX7_chooseGreedy 7 = .ok (.iconst 0, 1) := by decide +kernel
theorem dX7_chooseGreedy_8 : decode cX7_chooseGreedy 8 = .ok (.istore_n 1, 1) := by decide +kernel
theorem dX7_chooseGreedy_9 : decode cX7_chooseGreedy 9 = .ok (.iconst 0, 1) := by decide +kernel
theorem dX7_chooseGreedy_10 : decode cX7_chooseGreedy 10 = .ok (.istore_n 2, 1) := by decide +kernel
theorem dX7_chooseGreedy_11 : decode cX7_chooseGreedy 11 = .ok (.iload_n 2, 1) := by decide +kernel
theorem dX7_chooseGreedy_12 : decode cX7_chooseGreedy 12 = .ok (.aload_n 0, 1) := by decide +kernel
theorem dX7_chooseGreedy_13 : decode cX7_chooseGreedy 13 = .ok (.getfield 26, 3) := by decide +kernel
theorem dX7_chooseGreedy_16 : decode cX7_chooseGreedy 16 = .ok (.invokevirtual 123, 3) := by decide +kernel
theorem dX7_chooseGreedy_19 : decode cX7_chooseGreedy 19 = .ok (.if_icmp .ge 88, 3) := by decide +kernel
theorem dX7_chooseGreedy_22 : decode cX7_chooseGreedy 22 = .ok (.aload_n 0, 1) := by decide +kernel
theorem dX7_chooseGreedy_23 : decode cX7_chooseGreedy 23 = .ok (.getfield 26, 3) := by decide +kernel
theorem dX7_chooseGreedy_26 : decode cX7_chooseGreedy 26 = .ok (.iload_n 2, 1) := by decide +kernel
theorem dX7_chooseGreedy_27 : decode cX7_chooseGreedy 27 = .ok (.invokevirtual 173, 3) := by decide +kernel
theorem dX7_chooseGreedy_30 : decode cX7_chooseGreedy 30 = .ok (.istore_n 3, 1) := by decide +kernel
theorem dX7_chooseGreedy_31 : decode cX7_chooseGreedy 31 = .ok (.iload_n 3, 1) := by decide +kernel
theorem dX7_chooseGreedy_32 : decode cX7_chooseGreedy 32 = .ok (.ifCond .ne 24, 3) := by decide +kernel
theorem dX7_chooseGreedy_35 : decode cX7_chooseGreedy 35 = .ok (.aload_n 0, 1) := by decide +kernel
theorem dX7_chooseGreedy_36 : decode cX7_chooseGreedy 36 = .ok (.getfield 51, 3) := by decide +kernel
theorem dX7_chooseGreedy_39 : decode cX7_chooseGreedy 39 = .ok (.aload_n 0, 1) := by decide +kernel
theorem dX7_chooseGreedy_40 : decode cX7_chooseGreedy 40 = .ok (.getfield 26, 3) := by decide +kernel
theorem dX7_chooseGreedy_43 : decode cX7_chooseGreedy 43 = .ok (.iload_n 2, 1) := by decide +kernel
theorem dX7_chooseGreedy_44 : decode cX7_chooseGreedy 44 = .ok (.invokevirtual 170, 3) := by decide +kernel
theorem dX7_chooseGreedy_47 : decode cX7_chooseGreedy 47 = .ok (.invokevirtual 242, 3) := by decide +kernel
theorem dX7_chooseGreedy_50 : decode cX7_chooseGreedy 50 = .ok (.iinc 2 1, 3) := by decide +kernel
theorem dX7_chooseGreedy_53 : decode cX7_chooseGreedy 53 = .ok (.goto 51, 3) := by decide +kernel
theorem dX7_chooseGreedy_56 : decode cX7_chooseGreedy 56 = .ok (.aload_n 0, 1) := by decide +kernel
theorem dX7_chooseGreedy_57 : decode cX7_chooseGreedy 57 = .ok (.getfield 26, 3) := by decide +kernel
theorem dX7_chooseGreedy_60 : decode cX7_chooseGreedy 60 = .ok (.iload_n 2, 1) := by decide +kernel
theorem dX7_chooseGreedy_61 : decode cX7_chooseGreedy 61 = .ok (.iload_n 3, 1) := by decide +kernel
theorem dX7_chooseGreedy_62 : decode cX7_chooseGreedy 62 = .ok (.invokevirtual 176, 3) := by decide +kernel
theorem dX7_chooseGreedy_65 : decode cX7_chooseGreedy 65 = .ok (.istore 4, 2) := by decide +kernel
theorem dX7_chooseGreedy_67 : decode cX7_chooseGreedy 67 = .ok (.aload_n 0, 1) := by decide +kernel
theorem dX7_chooseGreedy_68 : decode cX7_chooseGreedy 68 = .ok (.getfield 51, 3) := by decide +kernel
theorem dX7_chooseGreedy_71 : decode cX7_chooseGreedy 71 = .ok (.iload_n 3, 1) := by decide +kernel
theorem dX7_chooseGreedy_72 : decode cX7_chooseGreedy 72 = .ok (.iload_n 1, 1) := by decide +kernel
theorem dX7_chooseGreedy_73 : decode cX7_chooseGreedy 73 = .ok (.if_icmp .ne 11, 3) := by decide +kernel
theorem dX7_chooseGreedy_76 : decode cX7_chooseGreedy 76 = .ok (.iload 4, 2) := by decide +kernel
theorem dX7_chooseGreedy_78 : decode cX7_chooseGreedy 78 = .ok (.invokestatic 243, 3) := by decide +kernel
theorem dX7_chooseGreedy_81 : decode cX7_chooseGreedy 81 = .ok (.goto 9, 3) := by decide +kernel
theorem dX7_chooseGreedy_84 : decode cX7_chooseGreedy 84 = .ok (.iload_n 3, 1) := by decide +kernel
theorem dX7_chooseGreedy_85 : decode cX7_chooseGreedy 85 = .ok (.iload 4, 2) := by decide +kernel
theorem dX7_chooseGreedy_87 : decode cX7_chooseGreedy 87 = .ok (.invokestatic 248, 3) := by decide +kernel
theorem dX7_chooseGreedy_90 : decode cX7_chooseGreedy 90 = .ok (.invokevirtual 242, 3) := by decide +kernel
theorem dX7_chooseGreedy_93 : decode cX7_chooseGreedy 93 = .ok (.iload_n 3, 1) := by decide +kernel
theorem dX7_chooseGreedy_94 : decode cX7_chooseGreedy 94 = .ok (.istore_n 1, 1) := by decide +kernel
theorem dX7_chooseGreedy_95 : decode cX7_chooseGreedy 95 = .ok (.iload_n 2, 1) := by decide +kernel
theorem dX7_chooseGreedy_96 : decode cX7_chooseGreedy 96 = .ok (.iconst 2, 1) := by decide +kernel
theorem dX7_chooseGreedy_97 : decode cX7_chooseGreedy 97 = .ok (.iload 4, 2) := by decide +kernel
theorem dX7_chooseGreedy_99 : decode cX7_chooseGreedy 99 = .ok (.invokestatic 251, 3) := by decide +kernel
theorem dX7_chooseGreedy_102 : decode cX7_chooseGreedy 102 = .ok (.iadd, 1) := by decide +kernel
theorem dX7_chooseGreedy_103 : decode cX7_chooseGreedy 103 = .ok (.istore_n 2, 1) := by decide +kernel
theorem dX7_chooseGreedy_104 : decode cX7_chooseGreedy 104 = .ok (.goto (-93), 3) := by decide +kernel
theorem dX7_chooseGreedy_107 : decode cX7_chooseGreedy 107 = .ok (.return_, 1) := by decide +kernel
theorem dX7_priceOfParts_0 : decode cX7_priceOfParts 0 = .ok (.iconst 0, 1) := by decide +kernel
theorem dX7_priceOfParts_1 : decode cX7_priceOfParts 1 = .ok (.istore_n 2, 1) := by decide +kernel
theorem dX7_priceOfParts_2 : decode cX7_priceOfParts 2 = .ok (.iconst 1, 1) := by decide +kernel
theorem dX7_priceOfParts_3 : decode cX7_priceOfParts 3 = .ok (.iload_n 1, 1) := by decide +kernel
theorem dX7_priceOfParts_4 : decode cX7_priceOfParts 4 = .ok (.invokestatic 251, 3) := by decide +kernel
theorem dX7_priceOfParts_7 : decode cX7_priceOfParts 7 = .ok (.istore_n 3, 1) := by decide +kernel
theorem dX7_priceOfParts_8 : decode cX7_priceOfParts 8 = .ok (.iconst 0, 1) := by decide +kernel
theorem dX7_priceOfParts_9 : decode cX7_priceOfParts 9 = .ok (.istore 4, 2) := by decide +kernel
theorem dX7_priceOfParts_11 : decode cX7_priceOfParts 11 = .ok (.iload 4, 2) := by decide +kernel
theorem dX7_priceOfParts_13 : decode cX7_priceOfParts 13 = .ok (.aload_n 0, 1) := by decide +kernel
theorem dX7_priceOfParts_14 : decode cX7_priceOfParts 14 = .ok (.getfield 26, 3) := by decide +kernel
theorem dX7_priceOfParts_17 : decode cX7_priceOfParts 17 = .ok (.invokevirtual 123, 3) := by decide +kernel
theorem dX7_priceOfParts_20 : decode cX7_priceOfParts 20 = .ok (.if_icmp .ge 61, 3) := by decide +kernel
theorem dX7_priceOfParts_23 : decode cX7_priceOfParts 23 = .ok (.aload_n 0, 1) := by decide +kernel
theorem dX7_priceOfParts_24 : decode cX7_priceOfParts 24 = .ok (.getfield 40, 3) := by decide +kernel
theorem dX7_priceOfParts_27 : decode cX7_priceOfParts 27 = .ok (.aload_n 0, 1) := by decide +kernel
theorem dX7_priceOfParts_28 : decode cX7_priceOfParts 28 = .ok (.getfield 26, 3) := by decide +kernel
theorem dX7_priceOfParts_31 : decode cX7_priceOfParts 31 = .ok (.aload_n 0, 1) := by decide +kernel
theorem dX7_priceOfParts_32 : decode cX7_priceOfParts 32 = .ok (.getfield 33, 3) := by decide +kernel
theorem dX7_priceOfParts_35 : decode cX7_priceOfParts 35 = .ok (.iload 4, 2) := by decide +kernel
theorem dX7_priceOfParts_37 : decode cX7_priceOfParts 37 = .ok (.iload 4, 2) := by decide +kernel
theorem dX7_priceOfParts_39 : decode cX7_priceOfParts 39 = .ok (.iload_n 3, 1) := by decide +kernel
theorem dX7_priceOfParts_40 : decode cX7_priceOfParts 40 = .ok (.iadd, 1) := by decide +kernel
theorem dX7_priceOfParts_41 : decode cX7_priceOfParts 41 = .ok (.aload_n 0, 1) := by decide +kernel
theorem dX7_priceOfParts_42 : decode cX7_priceOfParts 42 = .ok (.getfield 26, 3) := by decide +kernel
theorem dX7_priceOfParts_45 : decode cX7_priceOfParts 45 = .ok (.invokevirtual 123, 3) := by decide +kernel
theorem dX7_priceOfParts_48 : decode cX7_priceOfParts 48 = .ok (.invokestatic 256, 3) := by decide +kernel
theorem dX7_priceOfParts_51 : decode cX7_priceOfParts 51 = .ok (.aload_n 0, 1) := by decide +kernel
theorem dX7_priceOfParts_52 : decode cX7_priceOfParts 52 = .ok (.getfield 57, 3) := by decide +kernel
theorem dX7_priceOfParts_55 : decode cX7_priceOfParts 55 = .ok (.invokevirtual 237, 3) := by decide +kernel
theorem dX7_priceOfParts_58 : decode cX7_priceOfParts 58 = .ok (.iload_n 2, 1) := by decide +kernel
theorem dX7_priceOfParts_59 : decode cX7_priceOfParts 59 = .ok (.aload_n 0, 1) := by decide +kernel
theorem dX7_priceOfParts_60 : decode cX7_priceOfParts 60 = .ok (.getfield 33, 3) := by decide +kernel
theorem dX7_priceOfParts_63 : decode cX7_priceOfParts 63 = .ok (.aload_n 0, 1) := by decide +kernel
theorem dX7_priceOfParts_64 : decode cX7_priceOfParts 64 = .ok (.getfield 57, 3) := by decide +kernel
theorem dX7_priceOfParts_67 : decode cX7_priceOfParts 67 = .ok (.invokevirtual 137, 3) := by decide +kernel
theorem dX7_priceOfParts_70 : decode cX7_priceOfParts 70 = .ok (.iadd, 1) := by decide +kernel
theorem dX7_priceOfParts_71 : decode cX7_priceOfParts 71 = .ok (.istore_n 2, 1) := by decide +kernel
theorem dX7_priceOfParts_72 : decode cX7_priceOfParts 72 = .ok (.iload 4, 2) := by decide +kernel
theorem dX7_priceOfParts_74 : decode cX7_priceOfParts 74 = .ok (.iload_n 3, 1) := by decide +kernel
theorem dX7_priceOfParts_75 : decode cX7_priceOfParts 75 = .ok (.iadd, 1) := by decide +kernel
theorem dX7_priceOfParts_76 : decode cX7_priceOfParts 76 = .ok (.istore 4, 2) := by decide +kernel
theorem dX7_priceOfParts_78 : decode cX7_priceOfParts 78 = .ok (.goto (-67), 3) := by decide +kernel
theorem dX7_priceOfParts_81 : decode cX7_priceOfParts 81 = .ok (.iload_n 2, 1) := by decide +kernel
theorem dX7_priceOfParts_82 : decode cX7_priceOfParts 82 = .ok (.ireturn, 1) := by decide +kernel
theorem dX7_findRest_0 : decode cX7_findRest 0 = .ok (.aload_n 0, 1) := by decide +kernel
theorem dX7_findRest_1 : decode cX7_findRest 1 = .ok (.getfield 64, 3) := by decide +kernel
theorem dX7_findRest_4 : decode cX7_findRest 4 = .ok (.ifCond .eq 4, 3) := by decide +kernel
theorem dX7_findRest_7 : decode cX7_findRest 7 = .ok (.return_, 1) := by decide +kernel
theorem dX7_findRest_8 : decode cX7_findRest 8 = .ok (.aload_n 0, 1) := by decide +kernel
theorem dX7_findRest_9 : decode cX7_findRest 9 = .ok (.iconst (-1), 1) := by decide +kernel
theorem dX7_findRest_10 : decode cX7_findRest 10 = .ok (.putfield 67, 3) := by decide +kernel
theorem dX7_findRest_13 : decode cX7_findRest 13 = .ok (.aload_n 0, 1) := by decide +kernel
theorem dX7_findRest_14 : decode cX7_findRest 14 = .ok (.getfield 54, 3) := by decide +kernel
theorem dX7_findRest_17 : decode cX7_findRest 17 = .ok (.aload_n 0, 1) := by decide +kernel
theorem dX7_findRest_18 : decode cX7_findRest 18 = .ok (.getfield 33, 3) := by decide +kernel
theorem dX7_findRest_21 : decode cX7_findRest 21 = .ok (.invokevirtual 259, 3) := by decide +kernel
theorem dX7_findRest_24 : decode cX7_findRest 24 = .ok (.iconst 0, 1) := by decide +kernel
theorem dX7_findRest_25 : decode cX7_findRest 25 = .ok (.istore_n 1, 1) := by decide +kernel
theorem dX7_findRest_26 : decode cX7_findRest 26 = .ok (.iload_n 1, 1) := by decide +kernel
theorem dX7_findRest_27 : decode cX7_findRest 27 = .ok (.bipush 12, 2) := by decide +kernel
theorem dX7_findRest_29 : decode cX7_findRest 29 = .ok (.if_icmp .gt 89, 3) := by decide +kernel
theorem dX7_findRest_32 : decode cX7_findRest 32 = .ok (.aload_n 0, 1) := by decide +kernel
theorem dX7_findRest_33 : decode cX7_findRest 33 = .ok (.getfield 67, 3) := by decide +kernel
theorem dX7_findRest_36 : decode cX7_findRest 36 = .ok (.iconst (-1), 1) := by decide +kernel
theorem dX7_findRest_37 : decode cX7_findRest 37 = .ok (.if_icmp .ne 81, 3) := by decide +kernel
theorem dX7_findRest_40 : decode cX7_findRest 40 = .ok (.aload_n 0, 1) := by decide +kernel
theorem dX7_findRest_41 : decode cX7_findRest 41 = .ok (.getfield 40, 3) := by decide +kernel
theorem dX7_findRest_44 : decode cX7_findRest 44 = .ok (.aload_n 0, 1) := by decide +kernel
theorem dX7_findRest_45 : decode cX7_findRest 45 = .ok (.getfield 26, 3) := by decide +kernel
theorem dX7_findRest_48 : decode cX7_findRest 48 = .ok (.aload_n 0, 1) := by decide +kernel
theorem dX7_findRest_49 : decode cX7_findRest 49 = .ok (.getfield 54, 3) := by decide +kernel
theorem dX7_findRest_52 : decode cX7_findRest 52 = .ok (.iconst 0, 1) := by decide +kernel
theorem dX7_findRest_53 : decode cX7_findRest 53 = .ok (.aload_n 0, 1) := by decide +kernel
theorem dX7_findRest_54 : decode cX7_findRest 54 = .ok (.getfield 26, 3) := by decide +kernel
theorem dX7_findRest_57 : decode cX7_findRest 57 = .ok (.invokevirtual 123, 3) := by decide +kernel
theorem dX7_findRest_60 : decode cX7_findRest 60 = .ok (.aload_n 0, 1) := by decide +kernel
theorem dX7_findRest_61 : decode cX7_findRest 61 = .ok (.getfield 57, 3) := by decide +kernel
theorem dX7_findRest_64 : decode cX7_findRest 64 = .ok (.invokevirtual 237, 3) := by decide +kernel
theorem dX7_findRest_67 : decode cX7_findRest 67 = .ok (.aload_n 0, 1) := by decide +kernel
theorem dX7_findRest_68 : decode cX7_findRest 68 = .ok (.aload_n 0, 1) := by decide +kernel
theorem dX7_findRest_69 : decode cX7_findRest 69 = .ok (.getfield 54, 3) := by decide +kernel
theorem dX7_findRest_72 : decode cX7_findRest 72 = .ok (.aload_n 0, 1) := by decide +kernel
theorem dX7_findRest_73 : decode cX7_findRest 73 = .ok (.getfield 57, 3) := by decide +kernel
theorem dX7_findRest_76 : decode cX7_findRest 76 = .ok (.invokevirtual 137, 3) := by decide +kernel
theorem dX7_findRest_79 : decode cX7_findRest 79 = .ok (.putfield 71, 3) := by decide +kernel
theorem dX7_findRest_82 : decode cX7_findRest 82 = .ok (.aload_n 0, 1) := by decide +kernel
theorem dX7_findRest_83 : decode cX7_findRest 83 = .ok (.aload_n 0, 1) := by decide +kernel
theorem dX7_findRest_84 : decode cX7_findRest 84 = .ok (.getfield 57, 3) := by decide +kernel
theorem dX7_findRest_87 : decode cX7_findRest 87 = .ok (.invokevirtual 184, 3) := by decide +kernel
theorem dX7_findRest_90 : decode cX7_findRest 90 = .ok (.putfield 74, 3) := by decide +kernel
theorem dX7_findRest_93 : decode cX7_findRest 93 = .ok (.aload_n 0, 1) := by decide +kernel
theorem dX7_findRest_94 : decode cX7_findRest 94 = .ok (.getfield 54, 3) := by decide +kernel
theorem dX7_findRest_97 : decode cX7_findRest 97 = .ok (.aload_n 0, 1) := by decide +kernel
theorem dX7_findRest_98 : decode cX7_findRest 98 = .ok (.getfield 57, 3) := by decide +kernel
theorem dX7_findRest_101 : decode cX7_findRest 101 = .ok (.invokevirtual 161, 3) := by decide +kernel
theorem dX7_findRest_104 : decode cX7_findRest 104 = .ok (.ifCond .ne 8, 3) := by decide +kernel
theorem dX7_findRest_107 : decode cX7_findRest 107 = .ok (.aload_n 0, 1) := by decide +kernel
theorem dX7_findRest_108 : decode cX7_findRest 108 = .ok (.iload_n 1, 1) := by decide +kernel
theorem dX7_findRest_109 : decode cX7_findRest 109 = .ok (.putfield 67, 3) := by decide +kernel
theorem dX7_findRest_112 : decode cX7_findRest 112 = .ok (.iinc 1 1, 3) := by decide +kernel
theorem dX7_findRest_115 : decode cX7_findRest 115 = .ok (.goto (-89), 3) := by decide +kernel
theorem dX7_findRest_118 : decode cX7_findRest 118 = .ok (.aload_n 0, 1) := by decide +kernel
theorem dX7_findRest_119 : decode cX7_findRest 119 = .ok (.iconst 1, 1) := by decide +kernel
theorem dX7_findRest_120 : decode cX7_findRest 120 = .ok (.putfield 64, 3) := by decide +kernel
theorem dX7_findRest_123 : decode cX7_findRest 123 = .ok (.return_, 1) := by decide +kernel
theorem dX7_mix_0 : decode cX7_mix 0 = .ok (.ldc2_w 263, 3) := by decide +kernel
theorem dX7_mix_3 : decode cX7_mix 3 = .ok (.lload_n 0, 1) := by decide +kernel
theorem dX7_mix_4 : decode cX7_mix 4 = .ok (.lmul, 1) := by decide +kernel
theorem dX7_mix_5 : decode cX7_mix 5 = .ok (.lload_n 2, 1) := by decide +kernel
theorem dX7_mix_6 : decode cX7_mix 6 = .ok (.ladd, 1) := by decide +kernel
theorem dX7_mix_7 : decode cX7_mix 7 = .ok (.lreturn, 1) := by decide +kernel
theorem dX7_log_0 : decode cX7_log 0 = .ok (.iconst 0, 1) := by decide +kernel
theorem dX7_log_1 : decode cX7_log 1 = .ok (.istore_n 1, 1) := by decide +kernel
theorem dX7_log_2 : decode cX7_log 2 = .ok (.iload_n 0, 1) := by decide +kernel
theorem dX7_log_3 : decode cX7_log 3 = .ok (.istore_n 2, 1) := by decide +kernel
theorem dX7_log_4 : decode cX7_log 4 = .ok (.iload_n 2, 1) := by decide +kernel
theorem dX7_log_5 : decode cX7_log 5 = .ok (.iconst 1, 1) := by decide +kernel
theorem dX7_log_6 : decode cX7_log 6 = .ok (.if_icmp .le 13, 3) := by decide +kernel
theorem dX7_log_9 : decode cX7_log 9 = .ok (.iinc 1 1, 3) := by decide +kernel
theorem dX7_log_12 : decode cX7_log 12 = .ok (.iload_n 2, 1) := by decide +kernel
theorem dX7_log_13 : decode cX7_log 13 = .ok (.iconst 2, 1) := by decide +kernel
theorem dX7_log_14 : decode cX7_log 14 = .ok (.idiv, 1) := by decide +kernel
theorem dX7_log_15 : decode cX7_log 15 = .ok (.istore_n 2, 1) := by decide +kernel
theorem dX7_log_16 : decode cX7_log 16 = .ok (.goto (-12), 3) := by decide +kernel
theorem dX7_log_19 : decode cX7_log 19 = .ok (.iload_n 1, 1) := by decide +kernel
theorem dX7_log_20 : decode cX7_log 20 = .ok (.ireturn, 1) := by decide +kernel
theorem dX8_init_0 : decode cX8_init 0 = .ok (.aload_n 0, 1) := by decide +kernel
theorem dX8_init_1 : decode cX8_init 1 = .ok (.invokespecial 1, 3) := by decide +kernel
theorem dX8_init_4 : decode cX8_init 4 = .ok (.aload_n 0, 1) := by decide +kernel
theorem dX8_init_5 : decode cX8_init 5 = .ok (.bipush 30, 2) := by decide +kernel
theorem dX8_init_7 : decode cX8_init 7 = .ok (.newarray .int, 2) := by decide +kernel
theorem dX8_init_9 : decode cX8_init 9 = .ok (.putfield 7, 3) := by decide +kernel
theorem dX8_init_12 : decode cX8_init 12 = .ok (.aload_n 0, 1) := by decide +kernel
theorem dX8_init_13 : decode cX8_init 13 = .ok (.bipush 24, 2) := by decide +kernel
theorem dX8_init_15 : decode cX8_init 15 = .ok (.newarray .int, 2) := by decide +kernel
theorem dX8_init_17 : decode cX8_init 17 = .ok (.putfield 13, 3) := by decide +kernel
theorem dX8_init_20 : decode cX8_init 20 = .ok (.aload_n 0, 1) := by decide +kernel
theorem dX8_init_21 : decode cX8_init 21 = .ok (.bipush 18, 2) := by decide +kernel
theorem dX8_init_23 : decode cX8_init 23 = .ok (.newarray .int, 2) := by decide +kernel
theorem dX8_init_25 : decode cX8_init 25 = .ok (.putfield 16, 3) := by decide +kernel
theorem dX8_init_28 : decode cX8_init 28 = .ok (.aload_n 0, 1) := by decide +kernel
theorem dX8_init_29 : decode cX8_init 29 = .ok (.bipush 24, 2) := by decide +kernel
theorem dX8_init_31 : decode cX8_init 31 = .ok (.newarray .int, 2) := by decide +kernel
theorem dX8_init_33 : decode cX8_init 33 = .ok (.putfield 19, 3) := by decide +kernel
theorem dX8_init_36 : decode cX8_init 36 = .ok (.aload_n 0, 1) := by decide +kernel
theorem dX8_init_37 : decode cX8_init 37 = .ok (.sipush 625, 3) := by decide +kernel
theorem dX8_init_40 : decode cX8_init 40 = .ok (.newarray .int, 2) := by decide +kernel
theorem dX8_init_42 : decode cX8_init 42 = .ok (.putfield 22, 3) := by decide +kernel
theorem dX8_init_45 : decode cX8_init 45 = .ok (.aload_n 0, 1) := by decide +kernel
theorem dX8_init_46 : decode cX8_init 46 = .ok (.sipush 625, 3) := by decide +kernel
theorem dX8_init_49 : decode cX8_init 49 = .ok (.newarray .int, 2) := by decide +kernel
theorem dX8_init_51 : decode cX8_init 51 = .ok (.putfield 25, 3) := by decide +kernel
theorem dX8_init_54 : decode cX8_init 54 = .ok (.aload_n 0, 1) := by decide +kernel
theorem dX8_init_55 : decode cX8_init 55 = .ok (.sipush 625, 3) := by decide +kernel
theorem dX8_init_58 : decode cX8_init 58 = .ok (.newarray .int, 2) := by decide +kernel
theorem dX8_init_60 : decode cX8_init 60 = .ok (.putfield 28, 3) := by decide +kernel
theorem dX8_init_63 : decode cX8_init 63 = .ok (.aload_n 0, 1) := by decide +kernel
theorem dX8_init_64 : decode cX8_init 64 = .ok (.sipush 625, 3) := by decide +kernel
theorem dX8_init_67 : decode cX8_init 67 = .ok (.newarray .int, 2) := by decide +kernel
theorem dX8_init_69 : decode cX8_init 69 = .ok (.putfield 31, 3) := by decide +kernel
theorem dX8_init_72 : decode cX8_init 72 = .ok (.aload_n 0, 1) := by decide +kernel
theorem dX8_init_73 : decode cX8_init 73 = .ok (.bipush 24, 2) := by decide +kernel
theorem dX8_init_75 : decode cX8_init 75 = .ok (.newarray .int, 2) := by decide +kernel
theorem dX8_init_77 : decode cX8_init 77 = .ok (.putfield 34, 3) := by decide +kernel
theorem dX8_init_80 : decode cX8_init 80 = .ok (.aload_n 0, 1) := by decide +kernel
theorem dX8_init_81 : decode cX8_init 81 = .ok (.bipush 18, 2) := by decide +kernel
theorem dX8_init_83 : decode cX8_init 83 = .ok (.newarray .int, 2) := by decide +kernel
theorem dX8_init_85 : decode cX8_init 85 = .ok (.putfield 37, 3) := by decide +kernel
theorem dX8_init_88 : decode cX8_init 88 = .ok (.aload_n 0, 1) := by decide +kernel
theorem dX8_init_89 : decode cX8_init 89 = .ok (.bipush 18, 2) := by decide +kernel
theorem dX8_init_91 : decode cX8_init 91 = .ok (.newarray .int, 2) := by decide +kernel
theorem dX8_init_93 : decode cX8_init 93 = .ok (.putfield 40, 3) := by decide +kernel
theorem dX8_init_96 : decode cX8_init 96 = .ok (.aload_n 0, 1) := by decide +kernel
theorem dX8_init_97 : decode cX8_init 97 = .ok (.bipush 18, 2) := by decide +kernel
theorem dX8_init_99 : decode cX8_init 99 = .ok (.newarray .int, 2) := by decide +kernel
theorem dX8_init_101 : decode cX8_init 101 = .ok (.putfield 43, 3) := by decide +kernel
theorem dX8_init_104 : decode cX8_init 104 = .ok (.aload_n 0, 1) := by decide +kernel
theorem dX8_init_105 : decode cX8_init 105 = .ok (.iconst 3, 1) := by decide +kernel
theorem dX8_init_106 : decode cX8_init 106 = .ok (.newarray .int, 2) := by decide +kernel
theorem dX8_init_108 : decode cX8_init 108 = .ok (.putfield 46, 3) := by decide +kernel
theorem dX8_init_111 : decode cX8_init 111 = .ok (.iconst 0, 1) := by decide +kernel
theorem dX8_init_112 : decode cX8_init 112 = .ok (.istore_n 1, 1) := by decide +kernel
theorem dX8_init_113 : decode cX8_init 113 = .ok (.iload_n 1, 1) := by decide +kernel
theorem dX8_init_114 : decode cX8_init 114 = .ok (.bipush 18, 2) := by decide +kernel
theorem dX8_init_116 : decode cX8_init 116 = .ok (.if_icmp .ge 77, 3) := by decide +kernel
theorem dX8_init_119 : decode cX8_init 119 = .ok (.aload_n 0, 1) := by decide +kernel
theorem dX8_init_120 : decode cX8_init 120 = .ok (.getfield 16, 3) := by decide +kernel
theorem dX8_init_123 : decode cX8_init 123 = .ok (.iload_n 1, 1) := by decide +kernel
theorem dX8_init_124 : decode cX8_init 124 = .ok (.iload_n 1, 1) := by decide +kernel
theorem dX8_init_125 : decode cX8_init 125 = .ok (.iconst 4, 1) := by decide +kernel
theorem dX8_init_126 : decode cX8_init 126 = .ok (.if_icmp .ge 8, 3) := by decide +kernel
theorem dX8_init_129 : decode cX8_init 129 = .ok (.bipush 8, 2) := by decide +kernel
theorem dX8_init_131 : decode cX8_init 131 = .ok (.goto 55, 3) := by decide +kernel
theorem dX8_init_134 : decode cX8_init 134 = .ok (.iload_n 1, 1) := by decide +kernel
theorem dX8_init_135 : decode cX8_init 135 = .ok (.iconst 4, 1) := by decide +kernel
theorem dX8_init_136 : decode cX8_init 136 = .ok (.if_icmp .ne 7, 3) := by decide +kernel
theorem dX8_init_139 : decode cX8_init 139 = .ok (.iconst 4, 1) := by decide +kernel
theorem dX8_init_140 : decode cX8_init 140 = .ok (.goto 46, 3) := by decide +kernel
theorem dX8_init_143 : decode cX8_init 143 = .ok (.iload_n 1, 1) := by decide +kernel
theorem dX8_init_144 : decode cX8_init 144 = .ok (.bipush 10, 2) := by decide +kernel
theorem dX8_init_146 : decode cX8_init 146 = .ok (.if_icmp .ge 9, 3) := by decide +kernel
theorem dX8_init_149 : decode cX8_init 149 = .ok (.iload_n 1, 1) := by decide +kernel
theorem dX8_init_150 : decode cX8_init 150 = .ok (.iconst 3, 1) := by decide +kernel
theorem dX8_init_151 : decode cX8_init 151 = .ok (.isub, 1) := by decide +kernel
theorem dX8_init_152 : decode cX8_init 152 = .ok (.goto 34, 3) := by decide +kernel
theorem dX8_init_155 : decode cX8_init 155 = .ok (.iload_n 1, 1) := by decide +kernel
theorem dX8_init_156 : decode cX8_init 156 = .ok (.bipush 17, 2) := by decide +kernel
theorem dX8_init_158 : decode cX8_init 158 = .ok (.if_icmp .ne 7, 3) := by decide +kernel
theorem dX8_init_161 : decode cX8_init 161 = .ok (.iconst 3, 1) := by decide +kernel
theorem dX8_init_162 : decode cX8_init 162 = .ok (.goto 24, 3) := by decide +kernel
theorem dX8_init_165 : decode cX8_init 165 = .ok (.iload_n 1, 1) := by decide +kernel
theorem dX8_init_166 : decode cX8_init 166 = .ok (.bipush 12, 2) := by decide +kernel
theorem dX8_init_168 : decode cX8_init 168 = .ok (.if_icmp .ge 7, 3) := by decide +kernel
theorem dX8_init_171 : decode cX8_init 171 = .ok (.iconst 1, 1) := by decide +kernel
theorem dX8_init_172 : decode cX8_init 172 = .ok (.goto 14, 3) := by decide +kernel
theorem dX8_init_175 : decode cX8_init 175 = .ok (.iload_n 1, 1) := by decide +kernel
theorem dX8_init_176 : decode cX8_init 176 = .ok (.bipush 14, 2) := by decide +kernel
theorem dX8_init_178 : decode cX8_init 178 = .ok (.if_icmp .ge 7, 3) := by decide +kernel
theorem dX8_init_181 : decode cX8_init 181 = .ok (.iconst 2, 1) := by decide +kernel
theorem dX8_init_182 : decode cX8_init 182 = .ok (.goto 4, 3) := by decide +kernel
theorem dX8_init_185 : decode cX8_init 185 = .ok (.iconst 3, 1) := by decide +kernel
theorem dX8_init_186 : decode cX8_init 186 = .ok (.iastore, 1) := by decide +kernel
theorem dX8_init_187 : decode cX8_init 187 = .ok (.iinc 1 1, 3) := by decide +kernel
theorem dX8_init_190 : decode cX8_init 190 = .ok (.goto (-77), 3) := by decide +kernel
theorem dX8_init_193 : decode cX8_init 193 = .ok (.return_, 1) := by decide +kernel
theorem dX8_within_0 : decode cX8_within 0 = .ok (.iload_n 0, 1) := by decide +kernel
theorem dX8_within_1 : decode cX8_within 1 = .ok (.iload_n 1, 1) := by decide +kernel
theorem dX8_within_2 : decode cX8_within 2 = .ok (.if_icmp .lt 12, 3) := by decide +kernel
theorem dX8_within_5 : decode cX8_within 5 = .ok (.iload_n 0, 1) := by decide +kernel
theorem dX8_within_6 : decode cX8_within 6 = .ok (.iload_n 2, 1) := by decide +kernel
end
section
theorem dX8_within_7 : decode cX8_within 7 = .ok (.if_icmp .gt 7, 3) := by decide +kernel
theorem dX8_within_10 : decode cX8_within 10 = .ok (.iconst 1, 1) := by decide +kernel
theorem dX8_within_11 : decode cX8_within 11 = .ok (.goto 4, 3) := by decide +kernel
theorem dX8_within_14 : decode cX8_within 14 = .ok (.iconst 0, 1) := by decide +kernel
theorem dX8_within_15 : decode cX8_within 15 = .ok (.ireturn, 1) := by decide +kernel
theorem dX8_letter_0 : decode cX8_letter 0 = .ok (.iload_n 1, 1) := by decide +kernel
theorem dX8_letter_1 : decode cX8_letter 1 = .ok (.bipush 32, 2) := by decide +kernel
theorem dX8_letter_3 : decode cX8_letter 3 = .ok (.bipush 126, 2) := by decide +kernel
theorem dX8_letter_5 : decode cX8_letter 5 = .ok (.invokestatic 49, 3) := by decide +kernel
theorem dX8_letter_8 : decode cX8_letter 8 = .ok (.ifCond .ne 7, 3) := by decide +kernel
theorem dX8_letter_11 : decode cX8_letter 11 = .ok (.sipush (-1002), 3) := by decide +kernel
theorem dX8_letter_14 : decode cX8_letter 14 = .ok (.ireturn, 1) := by decide +kernel
theorem dX8_letter_15 : decode cX8_letter 15 = .ok (.aload_n 0, 1) := by decide +kernel
theorem dX8_letter_16 : decode cX8_letter 16 = .ok (.getfield 53, 3) := by decide +kernel
theorem dX8_letter_19 : decode cX8_letter 19 = .ok (.bipush 30, 2) := by decide +kernel
theorem dX8_letter_21 : decode cX8_letter 21 = .ok (.if_icmp .ne 7, 3) := by decide +kernel
theorem dX8_letter_24 : decode cX8_letter 24 = .ok (.sipush (-1004), 3) := by decide +kernel
theorem dX8_letter_27 : decode cX8_letter 27 = .ok (.ireturn, 1) := by decide +kernel
theorem dX8_letter_28 : decode cX8_letter 28 = .ok (.aload_n 0, 1) := by decide +kernel
theorem dX8_letter_29 : decode cX8_letter 29 = .ok (.getfield 7, 3) := by decide +kernel
theorem dX8_letter_32 : decode cX8_letter 32 = .ok (.aload_n 0, 1) := by decide +kernel
theorem dX8_letter_33 : decode cX8_letter 33 = .ok (.getfield 53, 3) := by decide +kernel
theorem dX8_letter_36 : decode cX8_letter 36 = .ok (.iload_n 1, 1) := by decide +kernel
theorem dX8_letter_37 : decode cX8_letter 37 = .ok (.iastore, 1) := by decide +kernel
theorem dX8_letter_38 : decode cX8_letter 38 = .ok (.aload_n 0, 1) := by decide +kernel
theorem dX8_letter_39 : decode cX8_letter 39 = .ok (.dup, 1) := by decide +kernel
theorem dX8_letter_40 : decode cX8_letter 40 = .ok (.getfield 53, 3) := by decide +kernel
theorem dX8_letter_43 : decode cX8_letter 43 = .ok (.iconst 1, 1) := by decide +kernel
theorem dX8_letter_44 : decode cX8_letter 44 = .ok (.iadd, 1) := by decide +kernel
theorem dX8_letter_45 : decode cX8_letter 45 = .ok (.putfield 53, 3) := by decide +kernel
theorem dX8_letter_48 : decode cX8_letter 48 = .ok (.aload_n 0, 1) := by decide +kernel
theorem dX8_letter_49 : decode cX8_letter 49 = .ok (.getfield 53, 3) := by decide +kernel
theorem dX8_letter_52 : decode cX8_letter 52 = .ok (.ireturn, 1) := by decide +kernel
theorem dX8_blank_0 : decode cX8_blank 0 = .ok (.aload_n 0, 1) := by decide +kernel
theorem dX8_blank_1 : decode cX8_blank 1 = .ok (.getfield 53, 3) := by decide +kernel
theorem dX8_blank_4 : decode cX8_blank 4 = .ok (.istore_n 1, 1) := by decide +kernel
theorem dX8_blank_5 : decode cX8_blank 5 = .ok (.aload_n 0, 1) := by decide +kernel
theorem dX8_blank_6 : decode cX8_blank 6 = .ok (.iconst 0, 1) := by decide +kernel
theorem dX8_blank_7 : decode cX8_blank 7 = .ok (.putfield 53, 3) := by decide +kernel
theorem dX8_blank_10 : decode cX8_blank 10 = .ok (.iload_n 1, 1) := by decide +kernel
theorem dX8_blank_11 : decode cX8_blank 11 = .ok (.ireturn, 1) := by decide +kernel
theorem dX8_textFault_0 : decode cX8_textFault 0 = .ok (.iconst 0, 1) := by decide +kernel
theorem dX8_textFault_1 : decode cX8_textFault 1 = .ok (.istore_n 1, 1) := by decide +kernel
theorem dX8_textFault_2 : decode cX8_textFault 2 = .ok (.iload_n 1, 1) := by decide +kernel
theorem dX8_textFault_3 : decode cX8_textFault 3 = .ok (.aload_n 0, 1) := by decide +kernel
theorem dX8_textFault_4 : decode cX8_textFault 4 = .ok (.getfield 53, 3) := by decide +kernel
theorem dX8_textFault_7 : decode cX8_textFault 7 = .ok (.if_icmp .ge 31, 3) := by decide +kernel
theorem dX8_textFault_10 : decode cX8_textFault 10 = .ok (.iload_n 1, 1) := by decide +kernel
theorem dX8_textFault_11 : decode cX8_textFault 11 = .ok (.bipush 24, 2) := by decide +kernel
theorem dX8_textFault_13 : decode cX8_textFault 13 = .ok (.if_icmp .ge 25, 3) := by decide +kernel
theorem dX8_textFault_16 : decode cX8_textFault 16 = .ok (.aload_n 0, 1) := by decide +kernel
theorem dX8_textFault_17 : decode cX8_textFault 17 = .ok (.getfield 7, 3) := by decide +kernel
theorem dX8_textFault_20 : decode cX8_textFault 20 = .ok (.iload_n 1, 1) := by decide +kernel
theorem dX8_textFault_21 : decode cX8_textFault 21 = .ok (.iaload, 1) := by decide +kernel
theorem dX8_textFault_22 : decode cX8_textFault 22 = .ok (.bipush 97, 2) := by decide +kernel
theorem dX8_textFault_24 : decode cX8_textFault 24 = .ok (.bipush 100, 2) := by decide +kernel
theorem dX8_textFault_26 : decode cX8_textFault 26 = .ok (.invokestatic 49, 3) := by decide +kernel
theorem dX8_textFault_29 : decode cX8_textFault 29 = .ok (.ifCond .eq 9, 3) := by decide +kernel
theorem dX8_textFault_32 : decode cX8_textFault 32 = .ok (.iinc 1 1, 3) := by decide +kernel
theorem dX8_textFault_35 : decode cX8_textFault 35 = .ok (.goto (-33), 3) := by decide +kernel
theorem dX8_textFault_38 : decode cX8_textFault 38 = .ok (.iload_n 1, 1) := by decide +kernel
theorem dX8_textFault_39 : decode cX8_textFault 39 = .ok (.ireturn, 1) := by decide +kernel
theorem dX8_farOf_0 : decode cX8_farOf 0 = .ok (.iload_n 0, 1) := by decide +kernel
theorem dX8_farOf_1 : decode cX8_farOf 1 = .ok (.iconst 1, 1) := by decide +kernel
theorem dX8_farOf_2 : decode cX8_farOf 2 = .ok (.if_icmp .ne 7, 3) := by decide +kernel
theorem dX8_farOf_5 : decode cX8_farOf 5 = .ok (.iconst 0, 1) := by decide +kernel
theorem dX8_farOf_6 : decode cX8_farOf 6 = .ok (.goto 33, 3) := by decide +kernel
theorem dX8_farOf_9 : decode cX8_farOf 9 = .ok (.iload_n 0, 1) := by decide +kernel
theorem dX8_farOf_10 : decode cX8_farOf 10 = .ok (.iconst 4, 1) := by decide +kernel
theorem dX8_farOf_11 : decode cX8_farOf 11 = .ok (.if_icmp .ge 7, 3) := by decide +kernel
theorem dX8_farOf_14 : decode cX8_farOf 14 = .ok (.iconst 1, 1) := by decide +kernel
theorem dX8_farOf_15 : decode cX8_farOf 15 = .ok (.goto 24, 3) := by decide +kernel
theorem dX8_farOf_18 : decode cX8_farOf 18 = .ok (.iload_n 0, 1) := by decide +kernel
theorem dX8_farOf_19 : decode cX8_farOf 19 = .ok (.bipush 8, 2) := by decide +kernel
theorem dX8_farOf_21 : decode cX8_farOf 21 = .ok (.if_icmp .ge 7, 3) := by decide +kernel
theorem dX8_farOf_24 : decode cX8_farOf 24 = .ok (.iconst 2, 1) := by decide +kernel
theorem dX8_farOf_25 : decode cX8_farOf 25 = .ok (.goto 14, 3) := by decide +kernel
theorem dX8_farOf_28 : decode cX8_farOf 28 = .ok (.iload_n 0, 1) := by decide +kernel
theorem dX8_farOf_29 : decode cX8_farOf 29 = .ok (.bipush 16, 2) := by decide +kernel
theorem dX8_farOf_31 : decode cX8_farOf 31 = .ok (.if_icmp .ge 7, 3) := by decide +kernel
theorem dX8_farOf_34 : decode cX8_farOf 34 = .ok (.iconst 3, 1) := by decide +kernel
theorem dX8_farOf_35 : decode cX8_farOf 35 = .ok (.goto 4, 3) := by decide +kernel
theorem dX8_farOf_38 : decode cX8_farOf 38 = .ok (.iconst 4, 1) := by decide +kernel
theorem dX8_farOf_39 : decode cX8_farOf 39 = .ok (.ireturn, 1) := by decide +kernel
theorem dX8_copyPrice_0 : decode cX8_copyPrice 0 = .ok (.aload_n 0, 1) := by decide +kernel
theorem dX8_copyPrice_1 : decode cX8_copyPrice 1 = .ok (.getfield 16, 3) := by decide +kernel
theorem dX8_copyPrice_4 : decode cX8_copyPrice 4 = .ok (.iconst 4, 1) := by decide +kernel
theorem dX8_copyPrice_5 : decode cX8_copyPrice 5 = .ok (.iaload, 1) := by decide +kernel
theorem dX8_copyPrice_6 : decode cX8_copyPrice 6 = .ok (.aload_n 0, 1) := by decide +kernel
theorem dX8_copyPrice_7 : decode cX8_copyPrice 7 = .ok (.getfield 16, 3) := by decide +kernel
theorem dX8_copyPrice_10 : decode cX8_copyPrice 10 = .ok (.iconst 5, 1) := by decide +kernel
theorem dX8_copyPrice_11 : decode cX8_copyPrice 11 = .ok (.iload_n 1, 1) := by decide +kernel
theorem dX8_copyPrice_12 : decode cX8_copyPrice 12 = .ok (.invokestatic 57, 3) := by decide +kernel
theorem dX8_copyPrice_15 : decode cX8_copyPrice 15 = .ok (.iadd, 1) := by decide +kernel
theorem dX8_copyPrice_16 : decode cX8_copyPrice 16 = .ok (.iaload, 1) := by decide +kernel
theorem dX8_copyPrice_17 : decode cX8_copyPrice 17 = .ok (.iadd, 1) := by decide +kernel
theorem dX8_copyPrice_18 : decode cX8_copyPrice 18 = .ok (.aload_n 0, 1) := by decide +kernel
theorem dX8_copyPrice_19 : decode cX8_copyPrice 19 = .ok (.getfield 16, 3) := by decide +kernel
theorem dX8_copyPrice_22 : decode cX8_copyPrice 22 = .ok (.bipush 10, 2) := by decide +kernel
theorem dX8_copyPrice_24 : decode cX8_copyPrice 24 = .ok (.iload_n 2, 1) := by decide +kernel
theorem dX8_copyPrice_25 : decode cX8_copyPrice 25 = .ok (.iadd, 1) := by decide +kernel
theorem dX8_copyPrice_26 : decode cX8_copyPrice 26 = .ok (.iconst 2, 1) := by decide +kernel
theorem dX8_copyPrice_27 : decode cX8_copyPrice 27 = .ok (.isub, 1) := by decide +kernel
theorem dX8_copyPrice_28 : decode cX8_copyPrice 28 = .ok (.iaload, 1) := by decide +kernel
theorem dX8_copyPrice_29 : decode cX8_copyPrice 29 = .ok (.iadd, 1) := by decide +kernel
theorem dX8_copyPrice_30 : decode cX8_copyPrice 30 = .ok (.ireturn, 1) := by decide +kernel
theorem dX8_againPrice_0 : decode cX8_againPrice 0 = .ok (.aload_n 0, 1) := by decide +kernel
theorem dX8_againPrice_1 : decode cX8_againPrice 1 = .ok (.getfield 16, 3) := by decide +kernel
theorem dX8_againPrice_4 : decode cX8_againPrice 4 = .ok (.bipush 17, 2) := by decide +kernel
theorem dX8_againPrice_6 : decode cX8_againPrice 6 = .ok (.iaload, 1) := by decide +kernel
theorem dX8_againPrice_7 : decode cX8_againPrice 7 = .ok (.aload_n 0, 1) := by decide +kernel
theorem dX8_againPrice_8 : decode cX8_againPrice 8 = .ok (.getfield 16, 3) := by decide +kernel
theorem dX8_againPrice_11 : decode cX8_againPrice 11 = .ok (.bipush 10, 2) := by decide +kernel
theorem dX8_againPrice_13 : decode cX8_againPrice 13 = .ok (.iload_n 1, 1) := by decide +kernel
theorem dX8_againPrice_14 : decode cX8_againPrice 14 = .ok (.iadd, 1) := by decide +kernel
theorem dX8_againPrice_15 : decode cX8_againPrice 15 = .ok (.iconst 2, 1) := by decide +kernel
theorem dX8_againPrice_16 : decode cX8_againPrice 16 = .ok (.isub, 1) := by decide +kernel
theorem dX8_againPrice_17 : decode cX8_againPrice 17 = .ok (.iaload, 1) := by decide +kernel
theorem dX8_againPrice_18 : decode cX8_againPrice 18 = .ok (.iadd, 1) := by decide +kernel
theorem dX8_againPrice_19 : decode cX8_againPrice 19 = .ok (.ireturn, 1) := by decide +kernel
theorem dX8_copy_0 : decode cX8_copy 0 = .ok (.iconst 0, 1) := by decide +kernel
theorem dX8_copy_1 : decode cX8_copy 1 = .ok (.istore_n 3, 1) := by decide +kernel
theorem dX8_copy_2 : decode cX8_copy 2 = .ok (.iload_n 3, 1) := by decide +kernel
theorem dX8_copy_3 : decode cX8_copy 3 = .ok (.iload_n 2, 1) := by decide +kernel
theorem dX8_copy_4 : decode cX8_copy 4 = .ok (.if_icmp .ge 39, 3) := by decide +kernel
theorem dX8_copy_7 : decode cX8_copy 7 = .ok (.aload_n 0, 1) := by decide +kernel
theorem dX8_copy_8 : decode cX8_copy 8 = .ok (.getfield 19, 3) := by decide +kernel
theorem dX8_copy_11 : decode cX8_copy 11 = .ok (.aload_n 0, 1) := by decide +kernel
theorem dX8_copy_12 : decode cX8_copy 12 = .ok (.getfield 61, 3) := by decide +kernel
theorem dX8_copy_15 : decode cX8_copy 15 = .ok (.aload_n 0, 1) := by decide +kernel
theorem dX8_copy_16 : decode cX8_copy 16 = .ok (.getfield 19, 3) := by decide +kernel
theorem dX8_copy_19 : decode cX8_copy 19 = .ok (.aload_n 0, 1) := by decide +kernel
theorem dX8_copy_20 : decode cX8_copy 20 = .ok (.getfield 61, 3) := by decide +kernel
theorem dX8_copy_23 : decode cX8_copy 23 = .ok (.iload_n 1, 1) := by decide +kernel
theorem dX8_copy_24 : decode cX8_copy 24 = .ok (.isub, 1) := by decide +kernel
theorem dX8_copy_25 : decode cX8_copy 25 = .ok (.iaload, 1) := by decide +kernel
theorem dX8_copy_26 : decode cX8_copy 26 = .ok (.iastore, 1) := by decide +kernel
theorem dX8_copy_27 : decode cX8_copy 27 = .ok (.aload_n 0, 1) := by decide +kernel
theorem dX8_copy_28 : decode cX8_copy 28 = .ok (.dup, 1) := by decide +kernel
theorem dX8_copy_29 : decode cX8_copy 29 = .ok (.getfield 61, 3) := by decide +kernel
theorem dX8_copy_32 : decode cX8_copy 32 = .ok (.iconst 1, 1) := by decide +kernel
theorem dX8_copy_33 : decode cX8_copy 33 = .ok (.iadd, 1) := by decide +kernel
theorem dX8_copy_34 : decode cX8_copy 34 = .ok (.putfield 61, 3) := by decide +kernel
theorem dX8_copy_37 : decode cX8_copy 37 = .ok (.iinc 3 1, 3) := by decide +kernel
theorem dX8_copy_40 : decode cX8_copy 40 = .ok (.goto (-38), 3) := by decide +kernel
theorem dX8_copy_43 : decode cX8_copy 43 = .ok (.return_, 1) := by decide +kernel
theorem dX8_readCode_0 : decode cX8_readCode 0 = .ok (.aload_n 0, 1) := by decide +kernel
theorem dX8_readCode_1 : decode cX8_readCode 1 = .ok (.iconst 0, 1) := by decide +kernel
theorem dX8_readCode_2 : decode cX8_readCode 2 = .ok (.putfield 61, 3) := by decide +kernel
theorem dX8_readCode_5 : decode cX8_readCode 5 = .ok (.aload_n 0, 1) := by decide +kernel
theorem dX8_readCode_6 : decode cX8_readCode 6 = .ok (.iconst 0, 1) := by decide +kernel
theorem dX8_readCode_7 : decode cX8_readCode 7 = .ok (.putfield 64, 3) := by decide +kernel
theorem dX8_readCode_10 : decode cX8_readCode 10 = .ok (.aload_n 0, 1) := by decide +kernel
theorem dX8_readCode_11 : decode cX8_readCode 11 = .ok (.iconst 0, 1) := by decide +kernel
theorem dX8_readCode_12 : decode cX8_readCode 12 = .ok (.putfield 67, 3) := by decide +kernel
theorem dX8_readCode_15 : decode cX8_readCode 15 = .ok (.iconst 0, 1) := by decide +kernel
theorem dX8_readCode_16 : decode cX8_readCode 16 = .ok (.istore_n 1, 1) := by decide +kernel
theorem dX8_readCode_17 : decode cX8_readCode 17 = .ok (.aload_n 0, 1) := by decide +kernel
theorem dX8_readCode_18 : decode cX8_readCode 18 = .ok (.getfield 53, 3) := by decide +kernel
theorem dX8_readCode_21 : decode cX8_readCode 21 = .ok (.ifCond .le 7, 3) := by decide +kernel
theorem dX8_readCode_24 : decode cX8_readCode 24 = .ok (.iconst 1, 1) := by decide +kernel
theorem dX8_readCode_25 : decode cX8_readCode 25 = .ok (.goto 4, 3) := by decide +kernel
theorem dX8_readCode_28 : decode cX8_readCode 28 = .ok (.iconst 0, 1) := by decide +kernel
theorem dX8_readCode_29 : decode cX8_readCode 29 = .ok (.istore_n 2, 1) := by decide +kernel
theorem dX8_readCode_30 : decode cX8_readCode 30 = .ok (.aload_n 0, 1) := by decide +kernel
theorem dX8_readCode_31 : decode cX8_readCode 31 = .ok (.iload_n 2, 1) := by decide +kernel
theorem dX8_readCode_32 : decode cX8_readCode 32 = .ok (.putfield 70, 3) := by decide +kernel
theorem dX8_readCode_35 : decode cX8_readCode 35 = .ok (.iload_n 2, 1) := by decide +kernel
theorem dX8_readCode_36 : decode cX8_readCode 36 = .ok (.ifCond .eq 336, 3) := by decide +kernel
theorem dX8_readCode_39 : decode cX8_readCode 39 = .ok (.aload_n 0, 1) := by decide +kernel
theorem dX8_readCode_40 : decode cX8_readCode 40 = .ok (.getfield 7, 3) := by decide +kernel
theorem dX8_readCode_43 : decode cX8_readCode 43 = .ok (.aload_n 0, 1) := by decide +kernel
theorem dX8_readCode_44 : decode cX8_readCode 44 = .ok (.getfield 67, 3) := by decide +kernel
theorem dX8_readCode_47 : decode cX8_readCode 47 = .ok (.iaload, 1) := by decide +kernel
theorem dX8_readCode_48 : decode cX8_readCode 48 = .ok (.istore_n 3, 1) := by decide +kernel
theorem dX8_readCode_49 : decode cX8_readCode 49 = .ok (.iload_n 3, 1) := by decide +kernel
theorem dX8_readCode_50 : decode cX8_readCode 50 = .ok (.bipush 97, 2) := by decide +kernel
theorem dX8_readCode_52 : decode cX8_readCode 52 = .ok (.bipush 100, 2) := by decide +kernel
theorem dX8_readCode_54 : decode cX8_readCode 54 = .ok (.invokestatic 49, 3) := by decide +kernel
theorem dX8_readCode_57 : decode cX8_readCode 57 = .ok (.istore 4, 2) := by decide +kernel
theorem dX8_readCode_59 : decode cX8_readCode 59 = .ok (.iload_n 3, 1) := by decide +kernel
theorem dX8_readCode_60 : decode cX8_readCode 60 = .ok (.bipush 61, 2) := by decide +kernel
theorem dX8_readCode_62 : decode cX8_readCode 62 = .ok (.if_icmp .ne 7, 3) := by decide +kernel
theorem dX8_readCode_65 : decode cX8_readCode 65 = .ok (.iconst 1, 1) := by decide +kernel
theorem dX8_readCode_66 : decode cX8_readCode 66 = .ok (.goto 4, 3) := by decide +kernel
theorem dX8_readCode_69 : decode cX8_readCode 69 = .ok (.iconst 0, 1) := by decide +kernel
theorem dX8_readCode_70 : decode cX8_readCode 70 = .ok (.istore 5, 2) := by decide +kernel
theorem dX8_readCode_72 : decode cX8_readCode 72 = .ok (.iload 5, 2) := by decide +kernel
theorem dX8_readCode_74 : decode cX8_readCode 74 = .ok (.ifCond .eq 7, 3) := by decide +kernel
theorem dX8_readCode_77 : decode cX8_readCode 77 = .ok (.iload_n 1, 1) := by decide +kernel
theorem dX8_readCode_78 : decode cX8_readCode 78 = .ok (.goto 24, 3) := by decide +kernel
theorem dX8_readCode_81 : decode cX8_readCode 81 = .ok (.iload_n 3, 1) := by decide +kernel
theorem dX8_readCode_82 : decode cX8_readCode 82 = .ok (.bipush 65, 2) := by decide +kernel
theorem dX8_readCode_84 : decode cX8_readCode 84 = .ok (.bipush 88, 2) := by decide +kernel
theorem dX8_readCode_86 : decode cX8_readCode 86 = .ok (.invokestatic 49, 3) := by decide +kernel
theorem dX8_readCode_89 : decode cX8_readCode 89 = .ok (.ifCond .eq 12, 3) := by decide +kernel
theorem dX8_readCode_92 : decode cX8_readCode 92 = .ok (.iload_n 3, 1) := by decide +kernel
theorem dX8_readCode_93 : decode cX8_readCode 93 = .ok (.bipush 65, 2) := by decide +kernel
theorem dX8_readCode_95 : decode cX8_readCode 95 = .ok (.isub, 1) := by decide +kernel
theorem dX8_readCode_96 : decode cX8_readCode 96 = .ok (.iconst 1, 1) := by decide +kernel
theorem dX8_readCode_97 : decode cX8_readCode 97 = .ok (.iadd, 1) := by decide +kernel
theorem dX8_readCode_98 : decode cX8_readCode 98 = .ok (.goto 4, 3) := by decide +kernel
theorem dX8_readCode_101 : decode cX8_readCode 101 = .ok (.iconst 0, 1) := by decide +kernel
theorem dX8_readCode_102 : decode cX8_readCode 102 = .ok (.istore 6, 2) := by decide +kernel
theorem dX8_readCode_104 : decode cX8_readCode 104 = .ok (.iload 4, 2) := by decide +kernel
theorem dX8_readCode_106 : decode cX8_readCode 106 = .ok (.ifCond .eq 20, 3) := by decide +kernel
theorem dX8_readCode_109 : decode cX8_readCode 109 = .ok (.aload_n 0, 1) := by decide +kernel
theorem dX8_readCode_110 : decode cX8_readCode 110 = .ok (.getfield 61, 3) := by decide +kernel
theorem dX8_readCode_113 : decode cX8_readCode 113 = .ok (.bipush 24, 2) := by decide +kernel
theorem dX8_readCode_115 : decode cX8_readCode 115 = .ok (.if_icmp .ge 7, 3) := by decide +kernel
theorem dX8_readCode_118 : decode cX8_readCode 118 = .ok (.iconst 1, 1) := by decide +kernel
theorem dX8_readCode_119 : decode cX8_readCode 119 = .ok (.goto 26, 3) := by decide +kernel
theorem dX8_readCode_122 : decode cX8_readCode 122 = .ok (.iconst 0, 1) := by decide +kernel
theorem dX8_readCode_123 : decode cX8_readCode 123 = .ok (.goto 22, 3) := by decide +kernel
theorem dX8_readCode_126 : decode cX8_readCode 126 = .ok (.iload 6, 2) := by decide +kernel
theorem dX8_readCode_128 : decode cX8_readCode 128 = .ok (.ifCond .le 16, 3) := by decide +kernel
theorem dX8_readCode_131 : decode cX8_readCode 131 = .ok (.iload 6, 2) := by decide +kernel
theorem dX8_readCode_133 : decode cX8_readCode 133 = .ok (.aload_n 0, 1) := by decide +kernel
theorem dX8_readCode_134 : decode cX8_readCode 134 = .ok (.getfield 61, 3) := by decide +kernel
theorem dX8_readCode_137 : decode cX8_readCode 137 = .ok (.if_icmp .gt 7, 3) := by decide +kernel
theorem dX8_readCode_140 : decode cX8_readCode 140 = .ok (.iconst 1, 1) := by decide +kernel
theorem dX8_readCode_141 : decode cX8_readCode 141 = .ok (.goto 4, 3) := by decide +kernel
theorem dX8_readCode_144 : decode cX8_readCode 144 = .ok (.iconst 0, 1) := by decide +kernel
theorem dX8_readCode_145 : decode cX8_readCode 145 = .ok (.istore 7, 2) := by decide +kernel
theorem dX8_readCode_147 : decode cX8_readCode 147 = .ok (.aload_n 0, 1) := by decide +kernel
theorem dX8_readCode_148 : decode cX8_readCode 148 = .ok (.dup, 1) := by decide +kernel
theorem dX8_readCode_149 : decode cX8_readCode 149 = .ok (.getfield 67, 3) := by decide +kernel
theorem dX8_readCode_152 : decode cX8_readCode 152 = .ok (.iload 7, 2) := by decide +kernel
theorem dX8_readCode_154 : decode cX8_readCode 154 = .ok (.ifCond .eq 7, 3) := by decide +kernel
theorem dX8_readCode_157 : decode cX8_readCode 157 = .ok (.iconst 1, 1) := by decide +kernel
theorem dX8_readCode_158 : decode cX8_readCode 158 = .ok (.goto 4, 3) := by decide +kernel
theorem dX8_readCode_161 : decode cX8_readCode 161 = .ok (.iconst 0, 1) := by decide +kernel
theorem dX8_readCode_162 : decode cX8_readCode 162 = .ok (.iadd, 1) := by decide +kernel
theorem dX8_readCode_163 : decode cX8_readCode 163 = .ok (.putfield 67, 3) := by decide +kernel
theorem dX8_readCode_166 : decode cX8_readCode 166 = .ok (.iload 7, 2) := by decide +kernel
theorem dX8_readCode_168 : decode cX8_readCode 168 = .ok (.ifCond .eq 52, 3) := by decide +kernel
theorem dX8_readCode_171 : decode cX8_readCode 171 = .ok (.iload 4, 2) := by decide +kernel
theorem dX8_readCode_173 : decode cX8_readCode 173 = .ok (.ifCond .eq 47, 3) := by decide +kernel
theorem dX8_readCode_176 : decode cX8_readCode 176 = .ok (.aload_n 0, 1) := by decide +kernel
theorem dX8_readCode_177 : decode cX8_readCode 177 = .ok (.getfield 19, 3) := by decide +kernel
theorem dX8_readCode_180 : decode cX8_readCode 180 = .ok (.aload_n 0, 1) := by decide +kernel
theorem dX8_readCode_181 : decode cX8_readCode 181 = .ok (.getfield 61, 3) := by decide +kernel
theorem dX8_readCode_184 : decode cX8_readCode 184 = .ok (.iload_n 3, 1) := by decide +kernel
theorem dX8_readCode_185 : decode cX8_readCode 185 = .ok (.bipush 97, 2) := by decide +kernel
theorem dX8_readCode_187 : decode cX8_readCode 187 = .ok (.isub, 1) := by decide +kernel
theorem dX8_readCode_188 : decode cX8_readCode 188 = .ok (.iastore, 1) := by decide +kernel
theorem dX8_readCode_189 : decode cX8_readCode 189 = .ok (.aload_n 0, 1) := by decide +kernel
theorem dX8_readCode_190 : decode cX8_readCode 190 = .ok (.dup, 1) := by decide +kernel
theorem dX8_readCode_191 : decode cX8_readCode 191 = .ok (.getfield 61, 3) := by decide +kernel
theorem dX8_readCode_194 : decode cX8_readCode 194 = .ok (.iconst 1, 1) := by decide +kernel
theorem dX8_readCode_195 : decode cX8_readCode 195 = .ok (.iadd, 1) := by decide +kernel
theorem dX8_readCode_196 : decode cX8_readCode 196 = .ok (.putfield 61, 3) := by decide +kernel
theorem dX8_readCode_199 : decode cX8_readCode 199 = .ok (.aload_n 0, 1) := by decide +kernel
theorem dX8_readCode_200 : decode cX8_readCode 200 = .ok (.dup, 1) := by decide +kernel
theorem dX8_readCode_201 : decode cX8_readCode 201 = .ok (.getfield 64, 3) := by decide +kernel
theorem dX8_readCode_204 : decode cX8_readCode 204 = .ok (.aload_n 0, 1) := by decide +kernel
theorem dX8_readCode_205 : decode cX8_readCode 205 = .ok (.getfield 16, 3) := by decide +kernel
theorem dX8_readCode_208 : decode cX8_readCode 208 = .ok (.iload_n 3, 1) := by decide +kernel
theorem dX8_readCode_209 : decode cX8_readCode 209 = .ok (.bipush 97, 2) := by decide +kernel
theorem dX8_readCode_211 : decode cX8_readCode 211 = .ok (.isub, 1) := by decide +kernel
theorem dX8_readCode_212 : decode cX8_readCode 212 = .ok (.iaload, 1) := by decide +kernel
theorem dX8_readCode_213 : decode cX8_readCode 213 = .ok (.iadd, 1) := by decide +kernel
theorem dX8_readCode_214 : decode cX8_readCode 214 = .ok (.putfield 64, 3) := by decide +kernel
theorem dX8_readCode_217 : decode cX8_readCode 217 = .ok (.goto 124, 3) := by decide +kernel
theorem dX8_readCode_220 : decode cX8_readCode 220 = .ok (.iload 7, 2) := by decide +kernel
theorem dX8_readCode_222 : decode cX8_readCode 222 = .ok (.ifCond .eq 119, 3) := by decide +kernel
theorem dX8_readCode_225 : decode cX8_readCode 225 = .ok (.aload_n 0, 1) := by decide +kernel
theorem dX8_readCode_226 : decode cX8_readCode 226 = .ok (.getfield 67, 3) := by decide +kernel
theorem dX8_readCode_229 : decode cX8_readCode 229 = .ok (.aload_n 0, 1) := by decide +kernel
theorem dX8_readCode_230 : decode cX8_readCode 230 = .ok (.getfield 53, 3) := by decide +kernel
theorem dX8_readCode_233 : decode cX8_readCode 233 = .ok (.if_icmp .ge 18, 3) := by decide +kernel
theorem dX8_readCode_236 : decode cX8_readCode 236 = .ok (.aload_n 0, 1) := by decide +kernel
theorem dX8_readCode_237 : decode cX8_readCode 237 = .ok (.getfield 7, 3) := by decide +kernel
theorem dX8_readCode_240 : decode cX8_readCode 240 = .ok (.aload_n 0, 1) := by decide +kernel
theorem dX8_readCode_241 : decode cX8_readCode 241 = .ok (.getfield 67, 3) := by decide +kernel
theorem dX8_readCode_244 : decode cX8_readCode 244 = .ok (.iaload, 1) := by decide +kernel
theorem dX8_readCode_245 : decode cX8_readCode 245 = .ok (.bipush 48, 2) := by decide +kernel
theorem dX8_readCode_247 : decode cX8_readCode 247 = .ok (.isub, 1) := by decide +kernel
theorem dX8_readCode_248 : decode cX8_readCode 248 = .ok (.goto 4, 3) := by decide +kernel
theorem dX8_readCode_251 : decode cX8_readCode 251 = .ok (.iconst 0, 1) := by decide +kernel
theorem dX8_readCode_252 : decode cX8_readCode 252 = .ok (.istore 8, 2) := by decide +kernel
theorem dX8_readCode_254 : decode cX8_readCode 254 = .ok (.iload 8, 2) := by decide +kernel
theorem dX8_readCode_256 : decode cX8_readCode 256 = .ok (.iconst 2, 1) := by decide +kernel
theorem dX8_readCode_257 : decode cX8_readCode 257 = .ok (.bipush 8, 2) := by decide +kernel
theorem dX8_readCode_259 : decode cX8_readCode 259 = .ok (.invokestatic 49, 3) := by decide +kernel
theorem dX8_readCode_262 : decode cX8_readCode 262 = .ok (.ifCond .eq 19, 3) := by decide +kernel
theorem dX8_readCode_265 : decode cX8_readCode 265 = .ok (.aload_n 0, 1) := by decide +kernel
theorem dX8_readCode_266 : decode cX8_readCode 266 = .ok (.getfield 61, 3) := by decide +kernel
theorem dX8_readCode_269 : decode cX8_readCode 269 = .ok (.iload 8, 2) := by decide +kernel
theorem dX8_readCode_271 : decode cX8_readCode 271 = .ok (.iadd, 1) := by decide +kernel
theorem dX8_readCode_272 : decode cX8_readCode 272 = .ok (.bipush 24, 2) := by decide +kernel
theorem dX8_readCode_274 : decode cX8_readCode 274 = .ok (.if_icmp .gt 7, 3) := by decide +kernel
theorem dX8_readCode_277 : decode cX8_readCode 277 = .ok (.iconst 1, 1) := by decide +kernel
theorem dX8_readCode_278 : decode cX8_readCode 278 = .ok (.goto 4, 3) := by decide +kernel
theorem dX8_readCode_281 : decode cX8_readCode 281 = .ok (.iconst 0, 1) := by decide +kernel
theorem dX8_readCode_282 : decode cX8_readCode 282 = .ok (.istore 7, 2) := by decide +kernel
theorem dX8_readCode_284 : decode cX8_readCode 284 = .ok (.iload 7, 2) := by decide +kernel
theorem dX8_readCode_286 : decode cX8_readCode 286 = .ok (.ifCond .eq 55, 3) := by decide +kernel
theorem dX8_readCode_289 : decode cX8_readCode 289 = .ok (.aload_n 0, 1) := by decide +kernel
theorem dX8_readCode_290 : decode cX8_readCode 290 = .ok (.iload 6, 2) := by decide +kernel
theorem dX8_readCode_292 : decode cX8_readCode 292 = .ok (.iload 8, 2) := by decide +kernel
theorem dX8_readCode_294 : decode cX8_readCode 294 = .ok (.invokevirtual 74, 3) := by decide +kernel
theorem dX8_readCode_297 : decode cX8_readCode 297 = .ok (.aload_n 0, 1) := by decide +kernel
theorem dX8_readCode_298 : decode cX8_readCode 298 = .ok (.dup, 1) := by decide +kernel
theorem dX8_readCode_299 : decode cX8_readCode 299 = .ok (.getfield 64, 3) := by decide +kernel
theorem dX8_readCode_302 : decode cX8_readCode 302 = .ok (.iload 5, 2) := by decide +kernel
theorem dX8_readCode_304 : decode cX8_readCode 304 = .ok (.ifCond .eq 12, 3) := by decide +kernel
theorem dX8_readCode_307 : decode cX8_readCode 307 = .ok (.aload_n 0, 1) := by decide +kernel
theorem dX8_readCode_308 : decode cX8_readCode 308 = .ok (.iload 8, 2) := by decide +kernel
theorem dX8_readCode_310 : decode cX8_readCode 310 = .ok (.invokevirtual 78, 3) := by decide +kernel
theorem dX8_readCode_313 : decode cX8_readCode 313 = .ok (.goto 11, 3) := by decide +kernel
theorem dX8_readCode_316 : decode cX8_readCode 316 = .ok (.aload_n 0, 1) := by decide +kernel
theorem dX8_readCode_317 : decode cX8_readCode 317 = .ok (.iload 6, 2) := by decide +kernel
theorem dX8_readCode_319 : decode cX8_readCode 319 = .ok (.iload 8, 2) := by decide +kernel
theorem dX8_readCode_321 : decode cX8_readCode 321 = .ok (.invokevirtual 81, 3) := by decide +kernel
theorem dX8_readCode_324 : decode cX8_readCode 324 = .ok (.iadd, 1) := by decide +kernel
theorem dX8_readCode_325 : decode cX8_readCode 325 = .ok (.putfield 64, 3) := by decide +kernel
theorem dX8_readCode_328 : decode cX8_readCode 328 = .ok (.iload 6, 2) := by decide +kernel
theorem dX8_readCode_330 : decode cX8_readCode 330 = .ok (.istore_n 1, 1) := by decide +kernel
theorem dX8_readCode_331 : decode cX8_readCode 331 = .ok (.aload_n 0, 1) := by decide +kernel
theorem dX8_readCode_332 : decode cX8_readCode 332 = .ok (.dup, 1) := by decide +kernel
theorem dX8_readCode_333 : decode cX8_readCode 333 = .ok (.getfield 67, 3) := by decide +kernel
theorem dX8_readCode_336 : decode cX8_readCode 336 = .ok (.iconst 1, 1) := by decide +kernel
theorem dX8_readCode_337 : decode cX8_readCode 337 = .ok (.iadd, 1) := by decide +kernel
theorem dX8_readCode_338 : decode cX8_readCode 338 = .ok (.putfield 67, 3) := by decide +kernel
theorem dX8_readCode_341 : decode cX8_readCode 341 = .ok (.aload_n 0, 1) := by decide +kernel
theorem dX8_readCode_342 : decode cX8_readCode 342 = .ok (.iload 7, 2) := by decide +kernel
theorem dX8_readCode_344 : decode cX8_readCode 344 = .ok (.putfield 70, 3) := by decide +kernel
theorem dX8_readCode_347 : decode cX8_readCode 347 = .ok (.iload 7, 2) := by decide +kernel
theorem dX8_readCode_349 : decode cX8_readCode 349 = .ok (.ifCond .eq 18, 3) := by decide +kernel
theorem dX8_readCode_352 : decode cX8_readCode 352 = .ok (.aload_n 0, 1) := by decide +kernel
theorem dX8_readCode_353 : decode cX8_readCode 353 = .ok (.getfield 67, 3) := by decide +kernel
theorem dX8_readCode_356 : decode cX8_readCode 356 = .ok (.aload_n 0, 1) := by decide +kernel
theorem dX8_readCode_357 : decode cX8_readCode 357 = .ok (.getfield 53, 3) := by decide +kernel
theorem dX8_readCode_360 : decode cX8_readCode 360 = .ok (.if_icmp .ge 7, 3) := by decide +kernel
theorem dX8_readCode_363 : decode cX8_readCode 363 = .ok (.iconst 1, 1) := by decide +kernel
theorem dX8_readCode_364 : decode cX8_readCode 364 = .ok (.goto 4, 3) := by decide +kernel
theorem dX8_readCode_367 : decode cX8_readCode 367 = .ok (.iconst 0, 1) := by decide +kernel
theorem dX8_readCode_368 : decode cX8_readCode 368 = .ok (.istore_n 2, 1) := by decide +kernel
theorem dX8_readCode_369 : decode cX8_readCode 369 = .ok (.goto (-334), 3) := by decide +kernel
theorem dX8_readCode_372 : decode cX8_readCode 372 = .ok (.return_, 1) := by decide +kernel
theorem dX8_fault_0 : decode cX8_fault 0 = .ok (.iload_n 1, 1) := by decide +kernel
theorem dX8_fault_1 : decode cX8_fault 1 = .ok (.ifCond .ne 8, 3) := by decide +kernel
theorem dX8_fault_4 : decode cX8_fault 4 = .ok (.aload_n 0, 1) := by decide +kernel
theorem dX8_fault_5 : decode cX8_fault 5 = .ok (.invokevirtual 85, 3) := by decide +kernel
theorem dX8_fault_8 : decode cX8_fault 8 = .ok (.ireturn, 1) := by decide +kernel
theorem dX8_fault_9 : decode cX8_fault 9 = .ok (.aload_n 0, 1) := by decide +kernel
theorem dX8_fault_10 : decode cX8_fault 10 = .ok (.invokevirtual 89, 3) := by decide +kernel
theorem dX8_fault_13 : decode cX8_fault 13 = .ok (.aload_n 0, 1) := by decide +kernel
theorem dX8_fault_14 : decode cX8_fault 14 = .ok (.getfield 67, 3) := by decide +kernel
theorem dX8_fault_17 : decode cX8_fault 17 = .ok (.ireturn, 1) := by decide +kernel
theorem dX8_text_0 : decode cX8_text 0 = .ok (.aload_n 0, 1) := by decide +kernel
theorem dX8_text_1 : decode cX8_text 1 = .ok (.getfield 53, 3) := by decide +kernel
theorem dX8_text_4 : decode cX8_text 4 = .ok (.ifCond .eq 14, 3) := by decide +kernel
theorem dX8_text_7 : decode cX8_text 7 = .ok (.aload_n 0, 1) := by decide +kernel
theorem dX8_text_8 : decode cX8_text 8 = .ok (.invokevirtual 85, 3) := by decide +kernel
theorem dX8_text_11 : decode cX8_text 11 = .ok (.aload_n 0, 1) := by decide +kernel
theorem dX8_text_12 : decode cX8_text 12 = .ok (.getfield 53, 3) := by decide +kernel
theorem dX8_text_15 : decode cX8_text 15 = .ok (.if_icmp .ge 7, 3) := by decide +kernel
theorem dX8_text_18 : decode cX8_text 18 = .ok (.sipush (-1003), 3) := by decide +kernel
theorem dX8_text_21 : decode cX8_text 21 = .ok (.ireturn, 1) := by decide +kernel
theorem dX8_text_22 : decode cX8_text 22 = .ok (.aload_n 0, 1) := by decide +kernel
theorem dX8_text_23 : decode cX8_text 23 = .ok (.aload_n 0, 1) := by decide +kernel
theorem dX8_text_24 : decode cX8_text 24 = .ok (.getfield 53, 3) := by decide +kernel
theorem dX8_text_27 : decode cX8_text 27 = .ok (.putfield 92, 3) := by decide +kernel
theorem dX8_text_30 : decode cX8_text 30 = .ok (.iconst 0, 1) := by decide +kernel
theorem dX8_text_31 : decode cX8_text 31 = .ok (.istore_n 1, 1) := by decide +kernel
theorem dX8_text_32 : decode cX8_text 32 = .ok (.iload_n 1, 1) := by decide +kernel
theorem dX8_text_33 : decode cX8_text 33 = .ok (.aload_n 0, 1) := by decide +kernel
theorem dX8_text_34 : decode cX8_text 34 = .ok (.getfield 92, 3) := by decide +kernel
theorem dX8_text_37 : decode cX8_text 37 = .ok (.if_icmp .ge 24, 3) := by decide +kernel
theorem dX8_text_40 : decode cX8_text 40 = .ok (.aload_n 0, 1) := by decide +kernel
theorem dX8_text_41 : decode cX8_text 41 = .ok (.getfield 13, 3) := by decide +kernel
theorem dX8_text_44 : decode cX8_text 44 = .ok (.iload_n 1, 1) := by decide +kernel
theorem dX8_text_45 : decode cX8_text 45 = .ok (.aload_n 0, 1) := by decide +kernel
theorem dX8_text_46 : decode cX8_text 46 = .ok (.getfield 7, 3) := by decide +kernel
theorem dX8_text_49 : decode cX8_text 49 = .ok (.iload_n 1, 1) := by decide +kernel
theorem dX8_text_50 : decode cX8_text 50 = .ok (.iaload, 1) := by decide +kernel
theorem dX8_text_51 : decode cX8_text 51 = .ok (.bipush 97, 2) := by decide +kernel
theorem dX8_text_53 : decode cX8_text 53 = .ok (.isub, 1) := by decide +kernel
theorem dX8_text_54 : decode cX8_text 54 = .ok (.iastore, 1) := by decide +kernel
theorem dX8_text_55 : decode cX8_text 55 = .ok (.iinc 1 1, 3) := by decide +kernel
theorem dX8_text_58 : decode cX8_text 58 = .ok (.goto (-26), 3) := by decide +kernel
theorem dX8_text_61 : decode cX8_text 61 = .ok (.aload_n 0, 1) := by decide +kernel
theorem dX8_text_62 : decode cX8_text 62 = .ok (.iconst 0, 1) := by decide +kernel
theorem dX8_text_63 : decode cX8_text 63 = .ok (.putfield 53, 3) := by decide +kernel
theorem dX8_text_66 : decode cX8_text 66 = .ok (.aload_n 0, 1) := by decide +kernel
theorem dX8_text_67 : decode cX8_text 67 = .ok (.dup, 1) := by decide +kernel
theorem dX8_text_68 : decode cX8_text 68 = .ok (.getfield 95, 3) := by decide +kernel
theorem dX8_text_71 : decode cX8_text 71 = .ok (.iconst 1, 1) := by decide +kernel
theorem dX8_text_72 : decode cX8_text 72 = .ok (.iadd, 1) := by decide +kernel
theorem dX8_text_73 : decode cX8_text 73 = .ok (.putfield 95, 3) := by decide +kernel
theorem dX8_text_76 : decode cX8_text 76 = .ok (.aload_n 0, 1) := by decide +kernel
theorem dX8_text_77 : decode cX8_text 77 = .ok (.getfield 92, 3) := by decide +kernel
theorem dX8_text_80 : decode cX8_text 80 = .ok (.ireturn, 1) := by decide +kernel
theorem dX8_decode_0 : decode cX8_decode 0 = .ok (.aload_n 0, 1) := by decide +kernel
theorem dX8_decode_1 : decode cX8_decode 1 = .ok (.invokevirtual 89, 3) := by decide +kernel
theorem dX8_decode_4 : decode cX8_decode 4 = .ok (.aload_n 0, 1) := by decide +kernel
theorem dX8_decode_5 : decode cX8_decode 5 = .ok (.getfield 70, 3) := by decide +kernel
theorem dX8_decode_8 : decode cX8_decode 8 = .ok (.ifCond .ne 7, 3) := by decide +kernel
theorem dX8_decode_11 : decode cX8_decode 11 = .ok (.sipush (-1003), 3) := by decide +kernel
theorem dX8_decode_14 : decode cX8_decode 14 = .ok (.ireturn, 1) := by decide +kernel
theorem dX8_decode_15 : decode cX8_decode 15 = .ok (.aload_n 0, 1) := by decide +kernel
theorem dX8_decode_16 : decode cX8_decode 16 = .ok (.aload_n 0, 1) := by decide +kernel
theorem dX8_decode_17 : decode cX8_decode 17 = .ok (.getfield 61, 3) := by decide +kernel
theorem dX8_decode_20 : decode cX8_decode 20 = .ok (.putfield 92, 3) := by decide +kernel
theorem dX8_decode_23 : decode cX8_decode 23 = .ok (.iconst 0, 1) := by decide +kernel
theorem dX8_decode_24 : decode cX8_decode 24 = .ok (.istore_n 1, 1) := by decide +kernel
theorem dX8_decode_25 : decode cX8_decode 25 = .ok (.iload_n 1, 1) := by decide +kernel
theorem dX8_decode_26 : decode cX8_decode 26 = .ok (.aload_n 0, 1) := by decide +kernel
theorem dX8_decode_27 : decode cX8_decode 27 = .ok (.getfield 92, 3) := by decide +kernel
theorem dX8_decode_30 : decode cX8_decode 30 = .ok (.if_icmp .ge 21, 3) := by decide +kernel
theorem dX8_decode_33 : decode cX8_decode 33 = .ok (.aload_n 0, 1) := by decide +kernel
theorem dX8_decode_34 : decode cX8_decode 34 = .ok (.getfield 13, 3) := by decide +kernel
theorem dX8_decode_37 : decode cX8_decode 37 = .ok (.iload_n 1, 1) := by decide +kernel
theorem dX8_decode_38 : decode cX8_decode 38 = .ok (.aload_n 0, 1) := by decide +kernel
theorem dX8_decode_39 : decode cX8_decode 39 = .ok (.getfield 19, 3) := by decide +kernel
theorem dX8_decode_42 : decode cX8_decode 42 = .ok (.iload_n 1, 1) := by decide +kernel
theorem dX8_decode_43 : decode cX8_decode 43 = .ok (.iaload, 1) := by decide +kernel
theorem dX8_decode_44 : decode cX8_decode 44 = .ok (.iastore, 1) := by decide +kernel
theorem dX8_decode_45 : decode cX8_decode 45 = .ok (.iinc 1 1, 3) := by decide +kernel
theorem dX8_decode_48 : decode cX8_decode 48 = .ok (.goto (-23), 3) := by decide +kernel
theorem dX8_decode_51 : decode cX8_decode 51 = .ok (.aload_n 0, 1) := by decide +kernel
theorem dX8_decode_52 : decode cX8_decode 52 = .ok (.iconst 0, 1) := by decide +kernel
theorem dX8_decode_53 : decode cX8_decode 53 = .ok (.putfield 53, 3) := by decide +kernel
theorem dX8_decode_56 : decode cX8_decode 56 = .ok (.aload_n 0, 1) := by decide +kernel
theorem dX8_decode_57 : decode cX8_decode 57 = .ok (.dup, 1) := by decide +kernel
theorem dX8_decode_58 : decode cX8_decode 58 = .ok (.getfield 98, 3) := by decide +kernel
theorem dX8_decode_61 : decode cX8_decode 61 = .ok (.iconst 1, 1) := by decide +kernel
theorem dX8_decode_62 : decode cX8_decode 62 = .ok (.iadd, 1) := by decide +kernel
theorem dX8_decode_63 : decode cX8_decode 63 = .ok (.putfield 98, 3) := by decide +kernel
theorem dX8_decode_66 : decode cX8_decode 66 = .ok (.aload_n 0, 1) := by decide +kernel
theorem dX8_decode_67 : decode cX8_decode 67 = .ok (.getfield 92, 3) := by decide +kernel
theorem dX8_decode_70 : decode cX8_decode 70 = .ok (.ireturn, 1) := by decide +kernel
theorem dX8_priced_0 : decode cX8_priced 0 = .ok (.aload_n 0, 1) := by decide +kernel
theorem dX8_priced_1 : decode cX8_priced 1 = .ok (.invokevirtual 89, 3) := by decide +kernel
theorem dX8_priced_4 : decode cX8_priced 4 = .ok (.aload_n 0, 1) := by decide +kernel
theorem dX8_priced_5 : decode cX8_priced 5 = .ok (.getfield 70, 3) := by decide +kernel
theorem dX8_priced_8 : decode cX8_priced 8 = .ok (.ifCond .eq 10, 3) := by decide +kernel
theorem dX8_priced_11 : decode cX8_priced 11 = .ok (.aload_n 0, 1) := by decide +kernel
theorem dX8_priced_12 : decode cX8_priced 12 = .ok (.getfield 64, 3) := by decide +kernel
theorem dX8_priced_15 : decode cX8_priced 15 = .ok (.goto 6, 3) := by decide +kernel
theorem dX8_priced_18 : decode cX8_priced 18 = .ok (.sipush (-1003), 3) := by decide +kernel
theorem dX8_priced_21 : decode cX8_priced 21 = .ok (.ireturn, 1) := by decide +kernel
theorem dX8_isPrice_0 : decode cX8_isPrice 0 = .ok (.iload_n 0, 1) := by decide +kernel
theorem dX8_isPrice_1 : decode cX8_isPrice 1 = .ok (.iconst 0, 1) := by decide +kernel
theorem dX8_isPrice_2 : decode cX8_isPrice 2 = .ok (.bipush 17, 2) := by decide +kernel
theorem dX8_isPrice_4 : decode cX8_isPrice 4 = .ok (.invokestatic 49, 3) := by decide +kernel
theorem dX8_isPrice_7 : decode cX8_isPrice 7 = .ok (.ireturn, 1) := by decide +kernel
theorem dX8_price_0 : decode cX8_price 0 = .ok (.iload_n 1, 1) := by decide +kernel
theorem dX8_price_1 : decode cX8_price 1 = .ok (.invokestatic 101, 3) := by decide +kernel
theorem dX8_price_4 : decode cX8_price 4 = .ok (.ifCond .ne 7, 3) := by decide +kernel
theorem dX8_price_7 : decode cX8_price 7 = .ok (.sipush (-1001), 3) := by decide +kernel
theorem dX8_price_10 : decode cX8_price 10 = .ok (.ireturn, 1) := by decide +kernel
theorem dX8_price_11 : decode cX8_price 11 = .ok (.iload_n 2, 1) := by decide +kernel
theorem dX8_price_12 : decode cX8_price 12 = .ok (.iconst 1, 1) := by decide +kernel
theorem dX8_price_13 : decode cX8_price 13 = .ok (.bipush 30, 2) := by decide +kernel
theorem dX8_price_15 : decode cX8_price 15 = .ok (.invokestatic 49, 3) := by decide +kernel
theorem dX8_price_18 : decode cX8_price 18 = .ok (.ifCond .ne 7, 3) := by decide +kernel
theorem dX8_price_21 : decode cX8_price 21 = .ok (.sipush (-1002), 3) := by decide +kernel
theorem dX8_price_24 : decode cX8_price 24 = .ok (.ireturn, 1) := by decide +kernel
theorem dX8_price_25 : decode cX8_price 25 = .ok (.aload_n 0, 1) := by decide +kernel
theorem dX8_price_26 : decode cX8_price 26 = .ok (.getfield 16, 3) := by decide +kernel
theorem dX8_price_29 : decode cX8_price 29 = .ok (.iload_n 1, 1) := by decide +kernel
theorem dX8_price_30 : decode cX8_price 30 = .ok (.iaload, 1) := by decide +kernel
theorem dX8_price_31 : decode cX8_price 31 = .ok (.istore_n 3, 1) := by decide +kernel
theorem dX8_price_32 : decode cX8_price 32 = .ok (.aload_n 0, 1) := by decide +kernel
theorem dX8_price_33 : decode cX8_price 33 = .ok (.getfield 16, 3) := by decide +kernel
theorem dX8_price_36 : decode cX8_price 36 = .ok (.iload_n 1, 1) := by decide +kernel
theorem dX8_price_37 : decode cX8_price 37 = .ok (.iload_n 2, 1) := by decide +kernel
theorem dX8_price_38 : decode cX8_price 38 = .ok (.iastore, 1) := by decide +kernel
theorem dX8_price_39 : decode cX8_price 39 = .ok (.iload_n 3, 1) := by decide +kernel
theorem dX8_price_40 : decode cX8_price 40 = .ok (.ireturn, 1) := by decide +kernel
theorem dX8_priceOf_0 : decode cX8_priceOf 0 = .ok (.iload_n 1, 1) := by decide +kernel
theorem dX8_priceOf_1 : decode cX8_priceOf 1 = .ok (.invokestatic 101, 3) := by decide +kernel
theorem dX8_priceOf_4 : decode cX8_priceOf 4 = .ok (.ifCond .eq 12, 3) := by decide +kernel
theorem dX8_priceOf_7 : decode cX8_priceOf 7 = .ok (.aload_n 0, 1) := by decide +kernel
theorem dX8_priceOf_8 : decode cX8_priceOf 8 = .ok (.getfield 16, 3) := by decide +kernel
theorem dX8_priceOf_11 : decode cX8_priceOf 11 = .ok (.iload_n 1, 1) := by decide +kernel
theorem dX8_priceOf_12 : decode cX8_priceOf 12 = .ok (.iaload, 1) := by decide +kernel
theorem dX8_priceOf_13 : decode cX8_priceOf 13 = .ok (.goto 6, 3) := by decide +kernel
theorem dX8_priceOf_16 : decode cX8_priceOf 16 = .ok (.sipush (-1001), 3) := by decide +kernel
theorem dX8_priceOf_19 : decode cX8_priceOf 19 = .ok (.ireturn, 1) := by decide +kernel
theorem dX8_likeness_0 : decode cX8_likeness 0 = .ok (.iconst 0, 1) := by decide +kernel
theorem dX8_likeness_1 : decode cX8_likeness 1 = .ok (.istore 4, 2) := by decide +kernel
theorem dX8_likeness_3 : decode cX8_likeness 3 = .ok (.iload 4, 2) := by decide +kernel
theorem dX8_likeness_5 : decode cX8_likeness 5 = .ok (.bipush 8, 2) := by decide +kernel
theorem dX8_likeness_7 : decode cX8_likeness 7 = .ok (.if_icmp .ge 40, 3) := by decide +kernel
theorem dX8_likeness_10 : decode cX8_likeness 10 = .ok (.iload_n 1, 1) := by decide +kernel
theorem dX8_likeness_11 : decode cX8_likeness 11 = .ok (.iload 4, 2) := by decide +kernel
theorem dX8_likeness_13 : decode cX8_likeness 13 = .ok (.iadd, 1) := by decide +kernel
theorem dX8_likeness_14 : decode cX8_likeness 14 = .ok (.iload_n 3, 1) := by decide +kernel
theorem dX8_likeness_15 : decode cX8_likeness 15 = .ok (.if_icmp .ge 32, 3) := by decide +kernel
theorem dX8_likeness_18 : decode cX8_likeness 18 = .ok (.aload_n 0, 1) := by decide +kernel
theorem dX8_likeness_19 : decode cX8_likeness 19 = .ok (.getfield 13, 3) := by decide +kernel
theorem dX8_likeness_22 : decode cX8_likeness 22 = .ok (.iload_n 1, 1) := by decide +kernel
theorem dX8_likeness_23 : decode cX8_likeness 23 = .ok (.iload 4, 2) := by decide +kernel
theorem dX8_likeness_25 : decode cX8_likeness 25 = .ok (.iadd, 1) := by decide +kernel
theorem dX8_likeness_26 : decode cX8_likeness 26 = .ok (.iaload, 1) := by decide +kernel
theorem dX8_likeness_27 : decode cX8_likeness 27 = .ok (.aload_n 0, 1) := by decide +kernel
theorem dX8_likeness_28 : decode cX8_likeness 28 = .ok (.getfield 13, 3) := by decide +kernel
theorem dX8_likeness_31 : decode cX8_likeness 31 = .ok (.iload_n 1, 1) := by decide +kernel
theorem dX8_likeness_32 : decode cX8_likeness 32 = .ok (.iload 4, 2) := by decide +kernel
theorem dX8_likeness_34 : decode cX8_likeness 34 = .ok (.iadd, 1) := by decide +kernel
theorem dX8_likeness_35 : decode cX8_likeness 35 = .ok (.iload_n 2, 1) := by decide +kernel
theorem dX8_likeness_36 : decode cX8_likeness 36 = .ok (.isub, 1) := by decide +kernel
theorem dX8_likeness_37 : decode cX8_likeness 37 = .ok (.iaload, 1) := by decide +kernel
theorem dX8_likeness_38 : decode cX8_likeness 38 = .ok (.if_icmp .ne 9, 3) := by decide +kernel
theorem dX8_likeness_41 : decode cX8_likeness 41 = .ok (.iinc 4 1, 3) := by decide +kernel
theorem dX8_likeness_44 : decode cX8_likeness 44 = .ok (.goto (-41), 3) := by decide +kernel
theorem dX8_likeness_47 : decode cX8_likeness 47 = .ok (.iload 4, 2) := by decide +kernel
theorem dX8_likeness_49 : decode cX8_likeness 49 = .ok (.ireturn, 1) := by decide +kernel
theorem dX8_isPlace_0 : decode cX8_isPlace 0 = .ok (.iload_n 1, 1) := by decide +kernel
theorem dX8_isPlace_1 : decode cX8_isPlace 1 = .ok (.iconst 0, 1) := by decide +kernel
theorem dX8_isPlace_2 : decode cX8_isPlace 2 = .ok (.aload_n 0, 1) := by decide +kernel
theorem dX8_isPlace_3 : decode cX8_isPlace 3 = .ok (.getfield 92, 3) := by decide +kernel
theorem dX8_isPlace_6 : decode cX8_isPlace 6 = .ok (.iconst 1, 1) := by decide +kernel
theorem dX8_isPlace_7 : decode cX8_isPlace 7 = .ok (.isub, 1) := by decide +kernel
theorem dX8_isPlace_8 : decode cX8_isPlace 8 = .ok (.invokestatic 49, 3) := by decide +kernel
theorem dX8_isPlace_11 : decode cX8_isPlace 11 = .ok (.ireturn, 1) := by decide +kernel
theorem dX8_at_0 : decode cX8_at 0 = .ok (.aload_n 0, 1) := by decide +kernel
theorem dX8_at_1 : decode cX8_at 1 = .ok (.iload_n 1, 1) := by decide +kernel
theorem dX8_at_2 : decode cX8_at 2 = .ok (.invokevirtual 105, 3) := by decide +kernel
theorem dX8_at_5 : decode cX8_at 5 = .ok (.ifCond .eq 12, 3) := by decide +kernel
theorem dX8_at_8 : decode cX8_at 8 = .ok (.aload_n 0, 1) := by decide +kernel
theorem dX8_at_9 : decode cX8_at 9 = .ok (.getfield 13, 3) := by decide +kernel
theorem dX8_at_12 : decode cX8_at 12 = .ok (.iload_n 1, 1) := by decide +kernel
theorem dX8_at_13 : decode cX8_at 13 = .ok (.iaload, 1) := by decide +kernel
theorem dX8_at_14 : decode cX8_at 14 = .ok (.goto 6, 3) := by decide +kernel
theorem dX8_at_17 : decode cX8_at 17 = .ok (.sipush (-1001), 3) := by decide +kernel
theorem dX8_at_20 : decode cX8_at 20 = .ok (.ireturn, 1) := by decide +kernel
theorem dX8_farLongest_0 : decode cX8_farLongest 0 = .ok (.iconst 0, 1) := by decide +kernel
theorem dX8_farLongest_1 : decode cX8_farLongest 1 = .ok (.istore_n 2, 1) := by decide +kernel
theorem dX8_farLongest_2 : decode cX8_farLongest 2 = .ok (.iconst 1, 1) := by decide +kernel
theorem dX8_farLongest_3 : decode cX8_farLongest 3 = .ok (.istore_n 3, 1) := by decide +kernel
theorem dX8_farLongest_4 : decode cX8_farLongest 4 = .ok (.iconst 1, 1) := by decide +kernel
theorem dX8_farLongest_5 : decode cX8_farLongest 5 = .ok (.istore 4, 2) := by decide +kernel
theorem dX8_farLongest_7 : decode cX8_farLongest 7 = .ok (.iload 4, 2) := by decide +kernel
theorem dX8_farLongest_9 : decode cX8_farLongest 9 = .ok (.iload_n 1, 1) := by decide +kernel
theorem dX8_farLongest_10 : decode cX8_farLongest 10 = .ok (.if_icmp .gt 48, 3) := by decide +kernel
theorem dX8_farLongest_13 : decode cX8_farLongest 13 = .ok (.aload_n 0, 1) := by decide +kernel
theorem dX8_farLongest_14 : decode cX8_farLongest 14 = .ok (.iload_n 1, 1) := by decide +kernel
theorem dX8_farLongest_15 : decode cX8_farLongest 15 = .ok (.iload 4, 2) := by decide +kernel
theorem dX8_farLongest_17 : decode cX8_farLongest 17 = .ok (.aload_n 0, 1) := by decide +kernel
theorem dX8_farLongest_18 : decode cX8_farLongest 18 = .ok (.getfield 92, 3) := by decide +kernel
theorem dX8_farLongest_21 : decode cX8_farLongest 21 = .ok (.invokevirtual 108, 3) := by decide +kernel
theorem dX8_farLongest_24 : decode cX8_farLongest 24 = .ok (.istore 5, 2) := by decide +kernel
theorem dX8_farLongest_26 : decode cX8_farLongest 26 = .ok (.iload 5, 2) := by decide +kernel
theorem dX8_farLongest_28 : decode cX8_farLongest 28 = .ok (.iload_n 3, 1) := by decide +kernel
theorem dX8_farLongest_29 : decode cX8_farLongest 29 = .ok (.if_icmp .le 8, 3) := by decide +kernel
theorem dX8_farLongest_32 : decode cX8_farLongest 32 = .ok (.iload 4, 2) := by decide +kernel
theorem dX8_farLongest_34 : decode cX8_farLongest 34 = .ok (.goto 4, 3) := by decide +kernel
theorem dX8_farLongest_37 : decode cX8_farLongest 37 = .ok (.iload_n 2, 1) := by decide +kernel
theorem dX8_farLongest_38 : decode cX8_farLongest 38 = .ok (.istore_n 2, 1) := by decide +kernel
theorem dX8_farLongest_39 : decode cX8_farLongest 39 = .ok (.iload 5, 2) := by decide +kernel
theorem dX8_farLongest_41 : decode cX8_farLongest 41 = .ok (.iload_n 3, 1) := by decide +kernel
theorem dX8_farLongest_42 : decode cX8_farLongest 42 = .ok (.if_icmp .le 8, 3) := by decide +kernel
theorem dX8_farLongest_45 : decode cX8_farLongest 45 = .ok (.iload 5, 2) := by decide +kernel
theorem dX8_farLongest_47 : decode cX8_farLongest 47 = .ok (.goto 4, 3) := by decide +kernel
theorem dX8_farLongest_50 : decode cX8_farLongest 50 = .ok (.iload_n 3, 1) := by decide +kernel
theorem dX8_farLongest_51 : decode cX8_farLongest 51 = .ok (.istore_n 3, 1) := by decide +kernel
theorem dX8_farLongest_52 : decode cX8_farLongest 52 = .ok (.iinc 4 1, 3) := by decide +kernel
theorem dX8_farLongest_55 : decode cX8_farLongest 55 = .ok (.goto (-48), 3) := by decide +kernel
theorem dX8_farLongest_58 : decode cX8_farLongest 58 = .ok (.iload_n 2, 1) := by decide +kernel
theorem dX8_farLongest_59 : decode cX8_farLongest 59 = .ok (.ireturn, 1) := by decide +kernel
theorem dX8_longestNow_0 : decode cX8_longestNow 0 = .ok (.aload_n 0, 1) := by decide +kernel
theorem dX8_longestNow_1 : decode cX8_longestNow 1 = .ok (.iload_n 1, 1) := by decide +kernel
theorem dX8_longestNow_2 : decode cX8_longestNow 2 = .ok (.invokevirtual 112, 3) := by decide +kernel
theorem dX8_longestNow_5 : decode cX8_longestNow 5 = .ok (.istore_n 3, 1) := by decide +kernel
theorem dX8_longestNow_6 : decode cX8_longestNow 6 = .ok (.iload_n 2, 1) := by decide +kernel
theorem dX8_longestNow_7 : decode cX8_longestNow 7 = .ok (.iconst 1, 1) := by decide +kernel
theorem dX8_longestNow_8 : decode cX8_longestNow 8 = .ok (.if_icmp .eq 7, 3) := by decide +kernel
theorem dX8_longestNow_11 : decode cX8_longestNow 11 = .ok (.iload_n 3, 1) := by decide +kernel
theorem dX8_longestNow_12 : decode cX8_longestNow 12 = .ok (.ifCond .ne 7, 3) := by decide +kernel
theorem dX8_longestNow_15 : decode cX8_longestNow 15 = .ok (.iload_n 3, 1) := by decide +kernel
theorem dX8_longestNow_16 : decode cX8_longestNow 16 = .ok (.goto 13, 3) := by decide +kernel
theorem dX8_longestNow_19 : decode cX8_longestNow 19 = .ok (.aload_n 0, 1) := by decide +kernel
theorem dX8_longestNow_20 : decode cX8_longestNow 20 = .ok (.iload_n 1, 1) := by decide +kernel
theorem dX8_longestNow_21 : decode cX8_longestNow 21 = .ok (.iload_n 3, 1) := by decide +kernel
theorem dX8_longestNow_22 : decode cX8_longestNow 22 = .ok (.aload_n 0, 1) := by decide +kernel
theorem dX8_longestNow_23 : decode cX8_longestNow 23 = .ok (.getfield 92, 3) := by decide +kernel
theorem dX8_longestNow_26 : decode cX8_longestNow 26 = .ok (.invokevirtual 108, 3) := by decide +kernel
theorem dX8_longestNow_29 : decode cX8_longestNow 29 = .ok (.ireturn, 1) := by decide +kernel
theorem dX8_longest_0 : decode cX8_longest 0 = .ok (.aload_n 0, 1) := by decide +kernel
theorem dX8_longest_1 : decode cX8_longest 1 = .ok (.iload_n 1, 1) := by decide +kernel
theorem dX8_longest_2 : decode cX8_longest 2 = .ok (.invokevirtual 105, 3) := by decide +kernel
theorem dX8_longest_5 : decode cX8_longest 5 = .ok (.ifCond .ne 7, 3) := by decide +kernel
theorem dX8_longest_8 : decode cX8_longest 8 = .ok (.sipush (-1001), 3) := by decide +kernel
theorem dX8_longest_11 : decode cX8_longest 11 = .ok (.ireturn, 1) := by decide +kernel
theorem dX8_longest_12 : decode cX8_longest 12 = .ok (.iload_n 2, 1) := by decide +kernel
theorem dX8_longest_13 : decode cX8_longest 13 = .ok (.iconst 0, 1) := by decide +kernel
theorem dX8_longest_14 : decode cX8_longest 14 = .ok (.iconst 1, 1) := by decide +kernel
theorem dX8_longest_15 : decode cX8_longest 15 = .ok (.invokestatic 49, 3) := by decide +kernel
theorem dX8_longest_18 : decode cX8_longest 18 = .ok (.ifCond .eq 12, 3) := by decide +kernel
theorem dX8_longest_21 : decode cX8_longest 21 = .ok (.aload_n 0, 1) := by decide +kernel
theorem dX8_longest_22 : decode cX8_longest 22 = .ok (.iload_n 1, 1) := by decide +kernel
theorem dX8_longest_23 : decode cX8_longest 23 = .ok (.iload_n 2, 1) := by decide +kernel
theorem dX8_longest_24 : decode cX8_longest 24 = .ok (.invokevirtual 115, 3) := by decide +kernel
theorem dX8_longest_27 : decode cX8_longest 27 = .ok (.goto 6, 3) := by decide +kernel
theorem dX8_longest_30 : decode cX8_longest 30 = .ok (.sipush (-1002), 3) := by decide +kernel
theorem dX8_longest_33 : decode cX8_longest 33 = .ok (.ireturn, 1) := by decide +kernel
theorem dX8_chainNow_0 : decode cX8_chainNow 0 = .ok (.iload_n 2, 1) := by decide +kernel
theorem dX8_chainNow_1 : decode cX8_chainNow 1 = .ok (.istore_n 3, 1) := by decide +kernel
theorem dX8_chainNow_2 : decode cX8_chainNow 2 = .ok (.iconst 1, 1) := by decide +kernel
theorem dX8_chainNow_3 : decode cX8_chainNow 3 = .ok (.istore 4, 2) := by decide +kernel
theorem dX8_chainNow_5 : decode cX8_chainNow 5 = .ok (.iload 4, 2) := by decide +kernel
theorem dX8_chainNow_7 : decode cX8_chainNow 7 = .ok (.iload_n 1, 1) := by decide +kernel
theorem dX8_chainNow_8 : decode cX8_chainNow 8 = .ok (.if_icmp .gt 40, 3) := by decide +kernel
theorem dX8_chainNow_11 : decode cX8_chainNow 11 = .ok (.iload_n 3, 1) := by decide +kernel
theorem dX8_chainNow_12 : decode cX8_chainNow 12 = .ok (.ifCond .lt 36, 3) := by decide +kernel
theorem dX8_chainNow_15 : decode cX8_chainNow 15 = .ok (.aload_n 0, 1) := by decide +kernel
theorem dX8_chainNow_16 : decode cX8_chainNow 16 = .ok (.iload_n 1, 1) := by decide +kernel
theorem dX8_chainNow_17 : decode cX8_chainNow 17 = .ok (.iload 4, 2) := by decide +kernel
theorem dX8_chainNow_19 : decode cX8_chainNow 19 = .ok (.aload_n 0, 1) := by decide +kernel
theorem dX8_chainNow_20 : decode cX8_chainNow 20 = .ok (.getfield 92, 3) := by decide +kernel
theorem dX8_chainNow_23 : decode cX8_chainNow 23 = .ok (.invokevirtual 108, 3) := by decide +kernel
theorem dX8_chainNow_26 : decode cX8_chainNow 26 = .ok (.iconst 1, 1) := by decide +kernel
theorem dX8_chainNow_27 : decode cX8_chainNow 27 = .ok (.if_icmp .le 15, 3) := by decide +kernel
theorem dX8_chainNow_30 : decode cX8_chainNow 30 = .ok (.iload_n 3, 1) := by decide +kernel
theorem dX8_chainNow_31 : decode cX8_chainNow 31 = .ok (.ifCond .ne 8, 3) := by decide +kernel
theorem dX8_chainNow_34 : decode cX8_chainNow 34 = .ok (.iload_n 1, 1) := by decide +kernel
theorem dX8_chainNow_35 : decode cX8_chainNow 35 = .ok (.iload 4, 2) := by decide +kernel
theorem dX8_chainNow_37 : decode cX8_chainNow 37 = .ok (.isub, 1) := by decide +kernel
theorem dX8_chainNow_38 : decode cX8_chainNow 38 = .ok (.ireturn, 1) := by decide +kernel
theorem dX8_chainNow_39 : decode cX8_chainNow 39 = .ok (.iinc 3 (-1), 3) := by decide +kernel
theorem dX8_chainNow_42 : decode cX8_chainNow 42 = .ok (.iinc 4 1, 3) := by decide +kernel
theorem dX8_chainNow_45 : decode cX8_chainNow 45 = .ok (.goto (-40), 3) := by decide +kernel
theorem dX8_chainNow_48 : decode cX8_chainNow 48 = .ok (.iconst (-1), 1) := by decide +kernel
theorem dX8_chainNow_49 : decode cX8_chainNow 49 = .ok (.ireturn, 1) := by decide +kernel
theorem dX8_chain_0 : decode cX8_chain 0 = .ok (.aload_n 0, 1) := by decide +kernel
theorem dX8_chain_1 : decode cX8_chain 1 = .ok (.iload_n 1, 1) := by decide +kernel
theorem dX8_chain_2 : decode cX8_chain 2 = .ok (.invokevirtual 105, 3) := by decide +kernel
theorem dX8_chain_5 : decode cX8_chain 5 = .ok (.ifCond .eq 12, 3) := by decide +kernel
theorem dX8_chain_8 : decode cX8_chain 8 = .ok (.aload_n 0, 1) := by decide +kernel
theorem dX8_chain_9 : decode cX8_chain 9 = .ok (.iload_n 1, 1) := by decide +kernel
theorem dX8_chain_10 : decode cX8_chain 10 = .ok (.iload_n 2, 1) := by decide +kernel
theorem dX8_chain_11 : decode cX8_chain 11 = .ok (.invokevirtual 118, 3) := by decide +kernel
theorem dX8_chain_14 : decode cX8_chain 14 = .ok (.goto 6, 3) := by decide +kernel
theorem dX8_chain_17 : decode cX8_chain 17 = .ok (.sipush (-1001), 3) := by decide +kernel
theorem dX8_chain_20 : decode cX8_chain 20 = .ok (.ireturn, 1) := by decide +kernel
theorem dX8_way_0 : decode cX8_way 0 = .ok (.iload_n 3, 1) := by decide +kernel
theorem dX8_way_1 : decode cX8_way 1 = .ok (.aload_n 0, 1) := by decide +kernel
theorem dX8_way_2 : decode cX8_way 2 = .ok (.getfield 22, 3) := by decide +kernel
theorem dX8_way_5 : decode cX8_way 5 = .ok (.iload_n 2, 1) := by decide +kernel
theorem dX8_way_6 : decode cX8_way 6 = .ok (.iaload, 1) := by decide +kernel
theorem dX8_way_7 : decode cX8_way 7 = .ok (.iadd, 1) := by decide +kernel
theorem dX8_way_8 : decode cX8_way 8 = .ok (.istore 5, 2) := by decide +kernel
theorem dX8_way_10 : decode cX8_way 10 = .ok (.iconst 1, 1) := by decide +kernel
theorem dX8_way_11 : decode cX8_way 11 = .ok (.aload_n 0, 1) := by decide +kernel
theorem dX8_way_12 : decode cX8_way 12 = .ok (.getfield 25, 3) := by decide +kernel
theorem dX8_way_15 : decode cX8_way 15 = .ok (.iload_n 2, 1) := by decide +kernel
theorem dX8_way_16 : decode cX8_way 16 = .ok (.iaload, 1) := by decide +kernel
theorem dX8_way_17 : decode cX8_way 17 = .ok (.iadd, 1) := by decide +kernel
theorem dX8_way_18 : decode cX8_way 18 = .ok (.istore 6, 2) := by decide +kernel
theorem dX8_way_20 : decode cX8_way 20 = .ok (.iload 5, 2) := by decide +kernel
theorem dX8_way_22 : decode cX8_way 22 = .ok (.aload_n 0, 1) := by decide +kernel
theorem dX8_way_23 : decode cX8_way 23 = .ok (.getfield 22, 3) := by decide +kernel
theorem dX8_way_26 : decode cX8_way 26 = .ok (.iload_n 1, 1) := by decide +kernel
theorem dX8_way_27 : decode cX8_way 27 = .ok (.iaload, 1) := by decide +kernel
theorem dX8_way_28 : decode cX8_way 28 = .ok (.if_icmp .lt 47, 3) := by decide +kernel
theorem dX8_way_31 : decode cX8_way 31 = .ok (.iload 5, 2) := by decide +kernel
theorem dX8_way_33 : decode cX8_way 33 = .ok (.aload_n 0, 1) := by decide +kernel
theorem dX8_way_34 : decode cX8_way 34 = .ok (.getfield 22, 3) := by decide +kernel
theorem dX8_way_37 : decode cX8_way 37 = .ok (.iload_n 1, 1) := by decide +kernel
theorem dX8_way_38 : decode cX8_way 38 = .ok (.iaload, 1) := by decide +kernel
theorem dX8_way_39 : decode cX8_way 39 = .ok (.if_icmp .ne 40, 3) := by decide +kernel
theorem dX8_way_42 : decode cX8_way 42 = .ok (.iload 6, 2) := by decide +kernel
theorem dX8_way_44 : decode cX8_way 44 = .ok (.aload_n 0, 1) := by decide +kernel
theorem dX8_way_45 : decode cX8_way 45 = .ok (.getfield 25, 3) := by decide +kernel
theorem dX8_way_48 : decode cX8_way 48 = .ok (.iload_n 1, 1) := by decide +kernel
theorem dX8_way_49 : decode cX8_way 49 = .ok (.iaload, 1) := by decide +kernel
theorem dX8_way_50 : decode cX8_way 50 = .ok (.if_icmp .lt 25, 3) := by decide +kernel
theorem dX8_way_53 : decode cX8_way 53 = .ok (.iload 6, 2) := by decide +kernel
theorem dX8_way_55 : decode cX8_way 55 = .ok (.aload_n 0, 1) := by decide +kernel
theorem dX8_way_56 : decode cX8_way 56 = .ok (.getfield 25, 3) := by decide +kernel
theorem dX8_way_59 : decode cX8_way 59 = .ok (.iload_n 1, 1) := by decide +kernel
theorem dX8_way_60 : decode cX8_way 60 = .ok (.iaload, 1) := by decide +kernel
theorem dX8_way_61 : decode cX8_way 61 = .ok (.if_icmp .ne 18, 3) := by decide +kernel
theorem dX8_way_64 : decode cX8_way 64 = .ok (.iload 4, 2) := by decide +kernel
theorem dX8_way_66 : decode cX8_way 66 = .ok (.aload_n 0, 1) := by decide +kernel
theorem dX8_way_67 : decode cX8_way 67 = .ok (.getfield 28, 3) := by decide +kernel
theorem dX8_way_70 : decode cX8_way 70 = .ok (.iload_n 1, 1) := by decide +kernel
theorem dX8_way_71 : decode cX8_way 71 = .ok (.iaload, 1) := by decide +kernel
theorem dX8_way_72 : decode cX8_way 72 = .ok (.if_icmp .ge 7, 3) := by decide +kernel
theorem dX8_way_75 : decode cX8_way 75 = .ok (.iconst 1, 1) := by decide +kernel
theorem dX8_way_76 : decode cX8_way 76 = .ok (.goto 4, 3) := by decide +kernel
theorem dX8_way_79 : decode cX8_way 79 = .ok (.iconst 0, 1) := by decide +kernel
theorem dX8_way_80 : decode cX8_way 80 = .ok (.istore 7, 2) := by decide +kernel
theorem dX8_way_82 : decode cX8_way 82 = .ok (.iload 7, 2) := by decide +kernel
theorem dX8_way_84 : decode cX8_way 84 = .ok (.ifCond .eq 27, 3) := by decide +kernel
theorem dX8_way_87 : decode cX8_way 87 = .ok (.aload_n 0, 1) := by decide +kernel
theorem dX8_way_88 : decode cX8_way 88 = .ok (.getfield 22, 3) := by decide +kernel
theorem dX8_way_91 : decode cX8_way 91 = .ok (.iload_n 1, 1) := by decide +kernel
theorem dX8_way_92 : decode cX8_way 92 = .ok (.iload 5, 2) := by decide +kernel
theorem dX8_way_94 : decode cX8_way 94 = .ok (.iastore, 1) := by decide +kernel
theorem dX8_way_95 : decode cX8_way 95 = .ok (.aload_n 0, 1) := by decide +kernel
theorem dX8_way_96 : decode cX8_way 96 = .ok (.getfield 25, 3) := by decide +kernel
theorem dX8_way_99 : decode cX8_way 99 = .ok (.iload_n 1, 1) := by decide +kernel
theorem dX8_way_100 : decode cX8_way 100 = .ok (.iload 6, 2) := by decide +kernel
theorem dX8_way_102 : decode cX8_way 102 = .ok (.iastore, 1) := by decide +kernel
theorem dX8_way_103 : decode cX8_way 103 = .ok (.aload_n 0, 1) := by decide +kernel
theorem dX8_way_104 : decode cX8_way 104 = .ok (.getfield 28, 3) := by decide +kernel
theorem dX8_way_107 : decode cX8_way 107 = .ok (.iload_n 1, 1) := by decide +kernel
theorem dX8_way_108 : decode cX8_way 108 = .ok (.iload 4, 2) := by decide +kernel
theorem dX8_way_110 : decode cX8_way 110 = .ok (.iastore, 1) := by decide +kernel
theorem dX8_way_111 : decode cX8_way 111 = .ok (.return_, 1) := by decide +kernel
theorem dX8_layState_0 : decode cX8_layState 0 = .ok (.bipush 25, 2) := by decide +kernel
theorem dX8_layState_2 : decode cX8_layState 2 = .ok (.iload_n 2, 1) := by decide +kernel
theorem dX8_layState_3 : decode cX8_layState 3 = .ok (.imul, 1) := by decide +kernel
theorem dX8_layState_4 : decode cX8_layState 4 = .ok (.iload_n 3, 1) := by decide +kernel
theorem dX8_layState_5 : decode cX8_layState 5 = .ok (.iadd, 1) := by decide +kernel
theorem dX8_layState_6 : decode cX8_layState 6 = .ok (.istore 4, 2) := by decide +kernel
theorem dX8_layState_8 : decode cX8_layState 8 = .ok (.aload_n 0, 1) := by decide +kernel
theorem dX8_layState_9 : decode cX8_layState 9 = .ok (.getfield 22, 3) := by decide +kernel
theorem dX8_layState_12 : decode cX8_layState 12 = .ok (.iload 4, 2) := by decide +kernel
theorem dX8_layState_14 : decode cX8_layState 14 = .ok (.ldc 121, 2) := by decide +kernel
theorem dX8_layState_16 : decode cX8_layState 16 = .ok (.iastore, 1) := by decide +kernel
theorem dX8_layState_17 : decode cX8_layState 17 = .ok (.aload_n 0, 1) := by decide +kernel
theorem dX8_layState_18 : decode cX8_layState 18 = .ok (.getfield 25, 3) := by decide +kernel
theorem dX8_layState_21 : decode cX8_layState 21 = .ok (.iload 4, 2) := by decide +kernel
theorem dX8_layState_23 : decode cX8_layState 23 = .ok (.iconst 0, 1) := by decide +kernel
theorem dX8_layState_24 : decode cX8_layState 24 = .ok (.iastore, 1) := by decide +kernel
theorem dX8_layState_25 : decode cX8_layState 25 = .ok (.aload_n 0, 1) := by decide +kernel
theorem dX8_layState_26 : decode cX8_layState 26 = .ok (.getfield 28, 3) := by decide +kernel
theorem dX8_layState_29 : decode cX8_layState 29 = .ok (.iload 4, 2) := by decide +kernel
theorem dX8_layState_31 : decode cX8_layState 31 = .ok (.iconst (-1), 1) := by decide +kernel
theorem dX8_layState_32 : decode cX8_layState 32 = .ok (.iastore, 1) := by decide +kernel
theorem dX8_layState_33 : decode cX8_layState 33 = .ok (.aload_n 0, 1) := by decide +kernel
theorem dX8_layState_34 : decode cX8_layState 34 = .ok (.getfield 13, 3) := by decide +kernel
theorem dX8_layState_37 : decode cX8_layState 37 = .ok (.iload_n 1, 1) := by decide +kernel
theorem dX8_layState_38 : decode cX8_layState 38 = .ok (.iload_n 2, 1) := by decide +kernel
theorem dX8_layState_39 : decode cX8_layState 39 = .ok (.iadd, 1) := by decide +kernel
theorem dX8_layState_40 : decode cX8_layState 40 = .ok (.iaload, 1) := by decide +kernel
theorem dX8_layState_41 : decode cX8_layState 41 = .ok (.istore 5, 2) := by decide +kernel
theorem dX8_layState_43 : decode cX8_layState 43 = .ok (.aload_n 0, 1) := by decide +kernel
theorem dX8_layState_44 : decode cX8_layState 44 = .ok (.iload 4, 2) := by decide +kernel
theorem dX8_layState_46 : decode cX8_layState 46 = .ok (.iload 4, 2) := by decide +kernel
theorem dX8_layState_48 : decode cX8_layState 48 = .ok (.bipush 25, 2) := by decide +kernel
theorem dX8_layState_50 : decode cX8_layState 50 = .ok (.iadd, 1) := by decide +kernel
theorem dX8_layState_51 : decode cX8_layState 51 = .ok (.aload_n 0, 1) := by decide +kernel
theorem dX8_layState_52 : decode cX8_layState 52 = .ok (.getfield 16, 3) := by decide +kernel
theorem dX8_layState_55 : decode cX8_layState 55 = .ok (.iload 5, 2) := by decide +kernel
theorem dX8_layState_57 : decode cX8_layState 57 = .ok (.iaload, 1) := by decide +kernel
theorem dX8_layState_58 : decode cX8_layState 58 = .ok (.iload 5, 2) := by decide +kernel
theorem dX8_layState_60 : decode cX8_layState 60 = .ok (.invokevirtual 122, 3) := by decide +kernel
theorem dX8_layState_63 : decode cX8_layState 63 = .ok (.iload_n 3, 1) := by decide +kernel
theorem dX8_layState_64 : decode cX8_layState 64 = .ok (.ifCond .ne 7, 3) := by decide +kernel
theorem dX8_layState_67 : decode cX8_layState 67 = .ok (.iconst 0, 1) := by decide +kernel
theorem dX8_layState_68 : decode cX8_layState 68 = .ok (.goto 14, 3) := by decide +kernel
theorem dX8_layState_71 : decode cX8_layState 71 = .ok (.aload_n 0, 1) := by decide +kernel
theorem dX8_layState_72 : decode cX8_layState 72 = .ok (.getfield 31, 3) := by decide +kernel
theorem dX8_layState_75 : decode cX8_layState 75 = .ok (.bipush 25, 2) := by decide +kernel
theorem dX8_layState_77 : decode cX8_layState 77 = .ok (.iload_n 2, 1) := by decide +kernel
theorem dX8_layState_78 : decode cX8_layState 78 = .ok (.imul, 1) := by decide +kernel
theorem dX8_layState_79 : decode cX8_layState 79 = .ok (.iload_n 3, 1) := by decide +kernel
theorem dX8_layState_80 : decode cX8_layState 80 = .ok (.iadd, 1) := by decide +kernel
theorem dX8_layState_81 : decode cX8_layState 81 = .ok (.iaload, 1) := by decide +kernel
theorem dX8_layState_82 : decode cX8_layState 82 = .ok (.istore 6, 2) := by decide +kernel
theorem dX8_layState_84 : decode cX8_layState 84 = .ok (.iconst 2, 1) := by decide +kernel
theorem dX8_layState_85 : decode cX8_layState 85 = .ok (.istore 7, 2) := by decide +kernel
theorem dX8_layState_87 : decode cX8_layState 87 = .ok (.iload 7, 2) := by decide +kernel
theorem dX8_layState_89 : decode cX8_layState 89 = .ok (.iload 6, 2) := by decide +kernel
theorem dX8_layState_91 : decode cX8_layState 91 = .ok (.if_icmp .gt 34, 3) := by decide +kernel
theorem dX8_layState_94 : decode cX8_layState 94 = .ok (.aload_n 0, 1) := by decide +kernel
theorem dX8_layState_95 : decode cX8_layState 95 = .ok (.iload 4, 2) := by decide +kernel
theorem dX8_layState_97 : decode cX8_layState 97 = .ok (.iload 4, 2) := by decide +kernel
theorem dX8_layState_99 : decode cX8_layState 99 = .ok (.bipush 25, 2) := by decide +kernel
theorem dX8_layState_101 : decode cX8_layState 101 = .ok (.iload 7, 2) := by decide +kernel
theorem dX8_layState_103 : decode cX8_layState 103 = .ok (.imul, 1) := by decide +kernel
theorem dX8_layState_104 : decode cX8_layState 104 = .ok (.iadd, 1) := by decide +kernel
theorem dX8_layState_105 : decode cX8_layState 105 = .ok (.aload_n 0, 1) := by decide +kernel
theorem dX8_layState_106 : decode cX8_layState 106 = .ok (.iload 7, 2) := by decide +kernel
theorem dX8_layState_108 : decode cX8_layState 108 = .ok (.invokevirtual 78, 3) := by decide +kernel
theorem dX8_layState_111 : decode cX8_layState 111 = .ok (.bipush 100, 2) := by decide +kernel
theorem dX8_layState_113 : decode cX8_layState 113 = .ok (.iload 7, 2) := by decide +kernel
theorem dX8_layState_115 : decode cX8_layState 115 = .ok (.iadd, 1) := by decide +kernel
theorem dX8_layState_116 : decode cX8_layState 116 = .ok (.invokevirtual 122, 3) := by decide +kernel
theorem dX8_layState_119 : decode cX8_layState 119 = .ok (.iinc 7 1, 3) := by decide +kernel
theorem dX8_layState_122 : decode cX8_layState 122 = .ok (.goto (-35), 3) := by decide +kernel
theorem dX8_layState_125 : decode cX8_layState 125 = .ok (.iconst 1, 1) := by decide +kernel
theorem dX8_layState_126 : decode cX8_layState 126 = .ok (.istore 7, 2) := by decide +kernel
theorem dX8_layState_128 : decode cX8_layState 128 = .ok (.iload 7, 2) := by decide +kernel
theorem dX8_layState_130 : decode cX8_layState 130 = .ok (.iload_n 2, 1) := by decide +kernel
theorem dX8_layState_131 : decode cX8_layState 131 = .ok (.if_icmp .gt 71, 3) := by decide +kernel
theorem dX8_layState_134 : decode cX8_layState 134 = .ok (.iconst 2, 1) := by decide +kernel
theorem dX8_layState_135 : decode cX8_layState 135 = .ok (.istore 8, 2) := by decide +kernel
theorem dX8_layState_137 : decode cX8_layState 137 = .ok (.iload 8, 2) := by decide +kernel
theorem dX8_layState_139 : decode cX8_layState 139 = .ok (.aload_n 0, 1) := by decide +kernel
theorem dX8_layState_140 : decode cX8_layState 140 = .ok (.getfield 31, 3) := by decide +kernel
theorem dX8_layState_143 : decode cX8_layState 143 = .ok (.bipush 25, 2) := by decide +kernel
theorem dX8_layState_145 : decode cX8_layState 145 = .ok (.iload_n 2, 1) := by decide +kernel
theorem dX8_layState_146 : decode cX8_layState 146 = .ok (.imul, 1) := by decide +kernel
theorem dX8_layState_147 : decode cX8_layState 147 = .ok (.iload 7, 2) := by decide +kernel
theorem dX8_layState_149 : decode cX8_layState 149 = .ok (.iadd, 1) := by decide +kernel
theorem dX8_layState_150 : decode cX8_layState 150 = .ok (.iaload, 1) := by decide +kernel
theorem dX8_layState_151 : decode cX8_layState 151 = .ok (.if_icmp .gt 45, 3) := by decide +kernel
theorem dX8_layState_154 : decode cX8_layState 154 = .ok (.aload_n 0, 1) := by decide +kernel
theorem dX8_layState_155 : decode cX8_layState 155 = .ok (.iload 4, 2) := by decide +kernel
theorem dX8_layState_157 : decode cX8_layState 157 = .ok (.bipush 25, 2) := by decide +kernel
theorem dX8_layState_159 : decode cX8_layState 159 = .ok (.iload_n 2, 1) := by decide +kernel
end
section
theorem dX8_layState_160 : decode cX8_layState 160 = .ok (.iload 8, 2) := by decide +kernel
theorem dX8_layState_162 : decode cX8_layState 162 = .ok (.iadd, 1) := by decide +kernel
theorem dX8_layState_163 : decode cX8_layState 163 = .ok (.imul, 1) := by decide +kernel
theorem dX8_layState_164 : decode cX8_layState 164 = .ok (.iload 7, 2) := by decide +kernel
theorem dX8_layState_166 : decode cX8_layState 166 = .ok (.iadd, 1) := by decide +kernel
theorem dX8_layState_167 : decode cX8_layState 167 = .ok (.aload_n 0, 1) := by decide +kernel
theorem dX8_layState_168 : decode cX8_layState 168 = .ok (.iload 7, 2) := by decide +kernel
theorem dX8_layState_170 : decode cX8_layState 170 = .ok (.iload 8, 2) := by decide +kernel
theorem dX8_layState_172 : decode cX8_layState 172 = .ok (.invokevirtual 81, 3) := by decide +kernel
theorem dX8_layState_175 : decode cX8_layState 175 = .ok (.sipush 1000, 3) := by decide +kernel
theorem dX8_layState_178 : decode cX8_layState 178 = .ok (.bipush 10, 2) := by decide +kernel
theorem dX8_layState_180 : decode cX8_layState 180 = .ok (.iload 7, 2) := by decide +kernel
theorem dX8_layState_182 : decode cX8_layState 182 = .ok (.imul, 1) := by decide +kernel
theorem dX8_layState_183 : decode cX8_layState 183 = .ok (.iadd, 1) := by decide +kernel
theorem dX8_layState_184 : decode cX8_layState 184 = .ok (.iload 8, 2) := by decide +kernel
theorem dX8_layState_186 : decode cX8_layState 186 = .ok (.iadd, 1) := by decide +kernel
theorem dX8_layState_187 : decode cX8_layState 187 = .ok (.invokevirtual 122, 3) := by decide +kernel
theorem dX8_layState_190 : decode cX8_layState 190 = .ok (.iinc 8 1, 3) := by decide +kernel
theorem dX8_layState_193 : decode cX8_layState 193 = .ok (.goto (-56), 3) := by decide +kernel
theorem dX8_layState_196 : decode cX8_layState 196 = .ok (.iinc 7 1, 3) := by decide +kernel
theorem dX8_layState_199 : decode cX8_layState 199 = .ok (.goto (-71), 3) := by decide +kernel
theorem dX8_layState_202 : decode cX8_layState 202 = .ok (.return_, 1) := by decide +kernel
theorem dX8_layCheapest_0 : decode cX8_layCheapest 0 = .ok (.iconst 0, 1) := by decide +kernel
theorem dX8_layCheapest_1 : decode cX8_layCheapest 1 = .ok (.istore_n 3, 1) := by decide +kernel
theorem dX8_layCheapest_2 : decode cX8_layCheapest 2 = .ok (.iload_n 3, 1) := by decide +kernel
theorem dX8_layCheapest_3 : decode cX8_layCheapest 3 = .ok (.iload_n 2, 1) := by decide +kernel
theorem dX8_layCheapest_4 : decode cX8_layCheapest 4 = .ok (.if_icmp .ge 48, 3) := by decide +kernel
theorem dX8_layCheapest_7 : decode cX8_layCheapest 7 = .ok (.iconst 1, 1) := by decide +kernel
theorem dX8_layCheapest_8 : decode cX8_layCheapest 8 = .ok (.istore 4, 2) := by decide +kernel
theorem dX8_layCheapest_10 : decode cX8_layCheapest 10 = .ok (.iload 4, 2) := by decide +kernel
theorem dX8_layCheapest_12 : decode cX8_layCheapest 12 = .ok (.iload_n 3, 1) := by decide +kernel
theorem dX8_layCheapest_13 : decode cX8_layCheapest 13 = .ok (.if_icmp .gt 33, 3) := by decide +kernel
theorem dX8_layCheapest_16 : decode cX8_layCheapest 16 = .ok (.aload_n 0, 1) := by decide +kernel
theorem dX8_layCheapest_17 : decode cX8_layCheapest 17 = .ok (.getfield 31, 3) := by decide +kernel
theorem dX8_layCheapest_20 : decode cX8_layCheapest 20 = .ok (.bipush 25, 2) := by decide +kernel
theorem dX8_layCheapest_22 : decode cX8_layCheapest 22 = .ok (.iload_n 3, 1) := by decide +kernel
theorem dX8_layCheapest_23 : decode cX8_layCheapest 23 = .ok (.imul, 1) := by decide +kernel
theorem dX8_layCheapest_24 : decode cX8_layCheapest 24 = .ok (.iload 4, 2) := by decide +kernel
theorem dX8_layCheapest_26 : decode cX8_layCheapest 26 = .ok (.iadd, 1) := by decide +kernel
theorem dX8_layCheapest_27 : decode cX8_layCheapest 27 = .ok (.aload_n 0, 1) := by decide +kernel
theorem dX8_layCheapest_28 : decode cX8_layCheapest 28 = .ok (.iload_n 1, 1) := by decide +kernel
theorem dX8_layCheapest_29 : decode cX8_layCheapest 29 = .ok (.iload_n 3, 1) := by decide +kernel
theorem dX8_layCheapest_30 : decode cX8_layCheapest 30 = .ok (.iadd, 1) := by decide +kernel
theorem dX8_layCheapest_31 : decode cX8_layCheapest 31 = .ok (.iload 4, 2) := by decide +kernel
theorem dX8_layCheapest_33 : decode cX8_layCheapest 33 = .ok (.iload_n 1, 1) := by decide +kernel
theorem dX8_layCheapest_34 : decode cX8_layCheapest 34 = .ok (.iload_n 2, 1) := by decide +kernel
theorem dX8_layCheapest_35 : decode cX8_layCheapest 35 = .ok (.iadd, 1) := by decide +kernel
theorem dX8_layCheapest_36 : decode cX8_layCheapest 36 = .ok (.invokevirtual 108, 3) := by decide +kernel
theorem dX8_layCheapest_39 : decode cX8_layCheapest 39 = .ok (.iastore, 1) := by decide +kernel
theorem dX8_layCheapest_40 : decode cX8_layCheapest 40 = .ok (.iinc 4 1, 3) := by decide +kernel
theorem dX8_layCheapest_43 : decode cX8_layCheapest 43 = .ok (.goto (-33), 3) := by decide +kernel
theorem dX8_layCheapest_46 : decode cX8_layCheapest 46 = .ok (.iinc 3 1, 3) := by decide +kernel
theorem dX8_layCheapest_49 : decode cX8_layCheapest 49 = .ok (.goto (-47), 3) := by decide +kernel
theorem dX8_layCheapest_52 : decode cX8_layCheapest 52 = .ok (.iconst 0, 1) := by decide +kernel
theorem dX8_layCheapest_53 : decode cX8_layCheapest 53 = .ok (.istore_n 3, 1) := by decide +kernel
theorem dX8_layCheapest_54 : decode cX8_layCheapest 54 = .ok (.iload_n 3, 1) := by decide +kernel
theorem dX8_layCheapest_55 : decode cX8_layCheapest 55 = .ok (.bipush 25, 2) := by decide +kernel
theorem dX8_layCheapest_57 : decode cX8_layCheapest 57 = .ok (.if_icmp .ge 45, 3) := by decide +kernel
theorem dX8_layCheapest_60 : decode cX8_layCheapest 60 = .ok (.aload_n 0, 1) := by decide +kernel
theorem dX8_layCheapest_61 : decode cX8_layCheapest 61 = .ok (.getfield 22, 3) := by decide +kernel
theorem dX8_layCheapest_64 : decode cX8_layCheapest 64 = .ok (.bipush 25, 2) := by decide +kernel
theorem dX8_layCheapest_66 : decode cX8_layCheapest 66 = .ok (.iload_n 2, 1) := by decide +kernel
theorem dX8_layCheapest_67 : decode cX8_layCheapest 67 = .ok (.imul, 1) := by decide +kernel
theorem dX8_layCheapest_68 : decode cX8_layCheapest 68 = .ok (.iload_n 3, 1) := by decide +kernel
theorem dX8_layCheapest_69 : decode cX8_layCheapest 69 = .ok (.iadd, 1) := by decide +kernel
theorem dX8_layCheapest_70 : decode cX8_layCheapest 70 = .ok (.iconst 0, 1) := by decide +kernel
theorem dX8_layCheapest_71 : decode cX8_layCheapest 71 = .ok (.iastore, 1) := by decide +kernel
theorem dX8_layCheapest_72 : decode cX8_layCheapest 72 = .ok (.aload_n 0, 1) := by decide +kernel
theorem dX8_layCheapest_73 : decode cX8_layCheapest 73 = .ok (.getfield 25, 3) := by decide +kernel
theorem dX8_layCheapest_76 : decode cX8_layCheapest 76 = .ok (.bipush 25, 2) := by decide +kernel
theorem dX8_layCheapest_78 : decode cX8_layCheapest 78 = .ok (.iload_n 2, 1) := by decide +kernel
theorem dX8_layCheapest_79 : decode cX8_layCheapest 79 = .ok (.imul, 1) := by decide +kernel
theorem dX8_layCheapest_80 : decode cX8_layCheapest 80 = .ok (.iload_n 3, 1) := by decide +kernel
theorem dX8_layCheapest_81 : decode cX8_layCheapest 81 = .ok (.iadd, 1) := by decide +kernel
theorem dX8_layCheapest_82 : decode cX8_layCheapest 82 = .ok (.iconst 0, 1) := by decide +kernel
theorem dX8_layCheapest_83 : decode cX8_layCheapest 83 = .ok (.iastore, 1) := by decide +kernel
theorem dX8_layCheapest_84 : decode cX8_layCheapest 84 = .ok (.aload_n 0, 1) := by decide +kernel
theorem dX8_layCheapest_85 : decode cX8_layCheapest 85 = .ok (.getfield 28, 3) := by decide +kernel
theorem dX8_layCheapest_88 : decode cX8_layCheapest 88 = .ok (.bipush 25, 2) := by decide +kernel
theorem dX8_layCheapest_90 : decode cX8_layCheapest 90 = .ok (.iload_n 2, 1) := by decide +kernel
theorem dX8_layCheapest_91 : decode cX8_layCheapest 91 = .ok (.imul, 1) := by decide +kernel
theorem dX8_layCheapest_92 : decode cX8_layCheapest 92 = .ok (.iload_n 3, 1) := by decide +kernel
theorem dX8_layCheapest_93 : decode cX8_layCheapest 93 = .ok (.iadd, 1) := by decide +kernel
theorem dX8_layCheapest_94 : decode cX8_layCheapest 94 = .ok (.iconst (-1), 1) := by decide +kernel
theorem dX8_layCheapest_95 : decode cX8_layCheapest 95 = .ok (.iastore, 1) := by decide +kernel
theorem dX8_layCheapest_96 : decode cX8_layCheapest 96 = .ok (.iinc 3 1, 3) := by decide +kernel
theorem dX8_layCheapest_99 : decode cX8_layCheapest 99 = .ok (.goto (-45), 3) := by decide +kernel
theorem dX8_layCheapest_102 : decode cX8_layCheapest 102 = .ok (.iload_n 2, 1) := by decide +kernel
theorem dX8_layCheapest_103 : decode cX8_layCheapest 103 = .ok (.iconst 1, 1) := by decide +kernel
theorem dX8_layCheapest_104 : decode cX8_layCheapest 104 = .ok (.isub, 1) := by decide +kernel
theorem dX8_layCheapest_105 : decode cX8_layCheapest 105 = .ok (.istore_n 3, 1) := by decide +kernel
theorem dX8_layCheapest_106 : decode cX8_layCheapest 106 = .ok (.iload_n 3, 1) := by decide +kernel
theorem dX8_layCheapest_107 : decode cX8_layCheapest 107 = .ok (.ifCond .lt 44, 3) := by decide +kernel
theorem dX8_layCheapest_110 : decode cX8_layCheapest 110 = .ok (.iconst 0, 1) := by decide +kernel
theorem dX8_layCheapest_111 : decode cX8_layCheapest 111 = .ok (.istore 4, 2) := by decide +kernel
theorem dX8_layCheapest_113 : decode cX8_layCheapest 113 = .ok (.iload 4, 2) := by decide +kernel
theorem dX8_layCheapest_115 : decode cX8_layCheapest 115 = .ok (.bipush 25, 2) := by decide +kernel
theorem dX8_layCheapest_117 : decode cX8_layCheapest 117 = .ok (.if_icmp .ge 28, 3) := by decide +kernel
theorem dX8_layCheapest_120 : decode cX8_layCheapest 120 = .ok (.iload 4, 2) := by decide +kernel
theorem dX8_layCheapest_122 : decode cX8_layCheapest 122 = .ok (.ifCond .eq 9, 3) := by decide +kernel
theorem dX8_layCheapest_125 : decode cX8_layCheapest 125 = .ok (.iload 4, 2) := by decide +kernel
theorem dX8_layCheapest_127 : decode cX8_layCheapest 127 = .ok (.iload_n 3, 1) := by decide +kernel
theorem dX8_layCheapest_128 : decode cX8_layCheapest 128 = .ok (.if_icmp .ge 17, 3) := by decide +kernel
theorem dX8_layCheapest_131 : decode cX8_layCheapest 131 = .ok (.aload_n 0, 1) := by decide +kernel
theorem dX8_layCheapest_132 : decode cX8_layCheapest 132 = .ok (.iload_n 1, 1) := by decide +kernel
theorem dX8_layCheapest_133 : decode cX8_layCheapest 133 = .ok (.iload_n 3, 1) := by decide +kernel
theorem dX8_layCheapest_134 : decode cX8_layCheapest 134 = .ok (.iload 4, 2) := by decide +kernel
theorem dX8_layCheapest_136 : decode cX8_layCheapest 136 = .ok (.invokevirtual 126, 3) := by decide +kernel
theorem dX8_layCheapest_139 : decode cX8_layCheapest 139 = .ok (.iinc 4 1, 3) := by decide +kernel
theorem dX8_layCheapest_142 : decode cX8_layCheapest 142 = .ok (.goto (-29), 3) := by decide +kernel
theorem dX8_layCheapest_145 : decode cX8_layCheapest 145 = .ok (.iinc 3 (-1), 3) := by decide +kernel
theorem dX8_layCheapest_148 : decode cX8_layCheapest 148 = .ok (.goto (-42), 3) := by decide +kernel
theorem dX8_layCheapest_151 : decode cX8_layCheapest 151 = .ok (.aload_n 0, 1) := by decide +kernel
theorem dX8_layCheapest_152 : decode cX8_layCheapest 152 = .ok (.getfield 22, 3) := by decide +kernel
theorem dX8_layCheapest_155 : decode cX8_layCheapest 155 = .ok (.iconst 0, 1) := by decide +kernel
theorem dX8_layCheapest_156 : decode cX8_layCheapest 156 = .ok (.iaload, 1) := by decide +kernel
theorem dX8_layCheapest_157 : decode cX8_layCheapest 157 = .ok (.ireturn, 1) := by decide +kernel
theorem dX8_lengthOf_0 : decode cX8_lengthOf 0 = .ok (.iload_n 0, 1) := by decide +kernel
theorem dX8_lengthOf_1 : decode cX8_lengthOf 1 = .ok (.bipush 100, 2) := by decide +kernel
theorem dX8_lengthOf_3 : decode cX8_lengthOf 3 = .ok (.if_icmp .ge 7, 3) := by decide +kernel
theorem dX8_lengthOf_6 : decode cX8_lengthOf 6 = .ok (.iconst 1, 1) := by decide +kernel
theorem dX8_lengthOf_7 : decode cX8_lengthOf 7 = .ok (.goto 7, 3) := by decide +kernel
theorem dX8_lengthOf_10 : decode cX8_lengthOf 10 = .ok (.iload_n 0, 1) := by decide +kernel
theorem dX8_lengthOf_11 : decode cX8_lengthOf 11 = .ok (.bipush 10, 2) := by decide +kernel
theorem dX8_lengthOf_13 : decode cX8_lengthOf 13 = .ok (.irem, 1) := by decide +kernel
theorem dX8_lengthOf_14 : decode cX8_lengthOf 14 = .ok (.ireturn, 1) := by decide +kernel
theorem dX8_layTokens_0 : decode cX8_layTokens 0 = .ok (.aload_n 0, 1) := by decide +kernel
theorem dX8_layTokens_1 : decode cX8_layTokens 1 = .ok (.iconst 0, 1) := by decide +kernel
theorem dX8_layTokens_2 : decode cX8_layTokens 2 = .ok (.aload_n 0, 1) := by decide +kernel
theorem dX8_layTokens_3 : decode cX8_layTokens 3 = .ok (.getfield 92, 3) := by decide +kernel
theorem dX8_layTokens_6 : decode cX8_layTokens 6 = .ok (.invokevirtual 130, 3) := by decide +kernel
theorem dX8_layTokens_9 : decode cX8_layTokens 9 = .ok (.pop, 1) := by decide +kernel
theorem dX8_layTokens_10 : decode cX8_layTokens 10 = .ok (.aload_n 0, 1) := by decide +kernel
theorem dX8_layTokens_11 : decode cX8_layTokens 11 = .ok (.iconst 0, 1) := by decide +kernel
theorem dX8_layTokens_12 : decode cX8_layTokens 12 = .ok (.putfield 133, 3) := by decide +kernel
theorem dX8_layTokens_15 : decode cX8_layTokens 15 = .ok (.iconst 0, 1) := by decide +kernel
theorem dX8_layTokens_16 : decode cX8_layTokens 16 = .ok (.istore_n 1, 1) := by decide +kernel
theorem dX8_layTokens_17 : decode cX8_layTokens 17 = .ok (.iload_n 1, 1) := by decide +kernel
theorem dX8_layTokens_18 : decode cX8_layTokens 18 = .ok (.bipush 25, 2) := by decide +kernel
theorem dX8_layTokens_20 : decode cX8_layTokens 20 = .ok (.idiv, 1) := by decide +kernel
theorem dX8_layTokens_21 : decode cX8_layTokens 21 = .ok (.aload_n 0, 1) := by decide +kernel
theorem dX8_layTokens_22 : decode cX8_layTokens 22 = .ok (.getfield 92, 3) := by decide +kernel
theorem dX8_layTokens_25 : decode cX8_layTokens 25 = .ok (.if_icmp .ge 71, 3) := by decide +kernel
theorem dX8_layTokens_28 : decode cX8_layTokens 28 = .ok (.aload_n 0, 1) := by decide +kernel
theorem dX8_layTokens_29 : decode cX8_layTokens 29 = .ok (.getfield 28, 3) := by decide +kernel
theorem dX8_layTokens_32 : decode cX8_layTokens 32 = .ok (.iload_n 1, 1) := by decide +kernel
theorem dX8_layTokens_33 : decode cX8_layTokens 33 = .ok (.iaload, 1) := by decide +kernel
theorem dX8_layTokens_34 : decode cX8_layTokens 34 = .ok (.istore_n 2, 1) := by decide +kernel
theorem dX8_layTokens_35 : decode cX8_layTokens 35 = .ok (.iload_n 2, 1) := by decide +kernel
theorem dX8_layTokens_36 : decode cX8_layTokens 36 = .ok (.sipush 1000, 3) := by decide +kernel
theorem dX8_layTokens_39 : decode cX8_layTokens 39 = .ok (.if_icmp .ge 10, 3) := by decide +kernel
theorem dX8_layTokens_42 : decode cX8_layTokens 42 = .ok (.iload_n 1, 1) := by decide +kernel
theorem dX8_layTokens_43 : decode cX8_layTokens 43 = .ok (.bipush 25, 2) := by decide +kernel
theorem dX8_layTokens_45 : decode cX8_layTokens 45 = .ok (.irem, 1) := by decide +kernel
theorem dX8_layTokens_46 : decode cX8_layTokens 46 = .ok (.goto 11, 3) := by decide +kernel
theorem dX8_layTokens_49 : decode cX8_layTokens 49 = .ok (.iload_n 2, 1) := by decide +kernel
theorem dX8_layTokens_50 : decode cX8_layTokens 50 = .ok (.sipush 1000, 3) := by decide +kernel
theorem dX8_layTokens_53 : decode cX8_layTokens 53 = .ok (.isub, 1) := by decide +kernel
theorem dX8_layTokens_54 : decode cX8_layTokens 54 = .ok (.bipush 10, 2) := by decide +kernel
theorem dX8_layTokens_56 : decode cX8_layTokens 56 = .ok (.idiv, 1) := by decide +kernel
theorem dX8_layTokens_57 : decode cX8_layTokens 57 = .ok (.istore_n 3, 1) := by decide +kernel
theorem dX8_layTokens_58 : decode cX8_layTokens 58 = .ok (.aload_n 0, 1) := by decide +kernel
theorem dX8_layTokens_59 : decode cX8_layTokens 59 = .ok (.getfield 34, 3) := by decide +kernel
theorem dX8_layTokens_62 : decode cX8_layTokens 62 = .ok (.aload_n 0, 1) := by decide +kernel
theorem dX8_layTokens_63 : decode cX8_layTokens 63 = .ok (.getfield 133, 3) := by decide +kernel
theorem dX8_layTokens_66 : decode cX8_layTokens 66 = .ok (.iload_n 2, 1) := by decide +kernel
theorem dX8_layTokens_67 : decode cX8_layTokens 67 = .ok (.iastore, 1) := by decide +kernel
theorem dX8_layTokens_68 : decode cX8_layTokens 68 = .ok (.aload_n 0, 1) := by decide +kernel
theorem dX8_layTokens_69 : decode cX8_layTokens 69 = .ok (.dup, 1) := by decide +kernel
theorem dX8_layTokens_70 : decode cX8_layTokens 70 = .ok (.getfield 133, 3) := by decide +kernel
theorem dX8_layTokens_73 : decode cX8_layTokens 73 = .ok (.iconst 1, 1) := by decide +kernel
theorem dX8_layTokens_74 : decode cX8_layTokens 74 = .ok (.iadd, 1) := by decide +kernel
theorem dX8_layTokens_75 : decode cX8_layTokens 75 = .ok (.putfield 133, 3) := by decide +kernel
theorem dX8_layTokens_78 : decode cX8_layTokens 78 = .ok (.bipush 25, 2) := by decide +kernel
theorem dX8_layTokens_80 : decode cX8_layTokens 80 = .ok (.iload_n 1, 1) := by decide +kernel
theorem dX8_layTokens_81 : decode cX8_layTokens 81 = .ok (.bipush 25, 2) := by decide +kernel
theorem dX8_layTokens_83 : decode cX8_layTokens 83 = .ok (.idiv, 1) := by decide +kernel
theorem dX8_layTokens_84 : decode cX8_layTokens 84 = .ok (.iload_n 2, 1) := by decide +kernel
theorem dX8_layTokens_85 : decode cX8_layTokens 85 = .ok (.invokestatic 136, 3) := by decide +kernel
theorem dX8_layTokens_88 : decode cX8_layTokens 88 = .ok (.iadd, 1) := by decide +kernel
theorem dX8_layTokens_89 : decode cX8_layTokens 89 = .ok (.imul, 1) := by decide +kernel
theorem dX8_layTokens_90 : decode cX8_layTokens 90 = .ok (.iload_n 3, 1) := by decide +kernel
theorem dX8_layTokens_91 : decode cX8_layTokens 91 = .ok (.iadd, 1) := by decide +kernel
theorem dX8_layTokens_92 : decode cX8_layTokens 92 = .ok (.istore_n 1, 1) := by decide +kernel
theorem dX8_layTokens_93 : decode cX8_layTokens 93 = .ok (.goto (-76), 3) := by decide +kernel
theorem dX8_layTokens_96 : decode cX8_layTokens 96 = .ok (.return_, 1) := by decide +kernel
theorem dX8_lettersOf_0 : decode cX8_lettersOf 0 = .ok (.iconst 0, 1) := by decide +kernel
theorem dX8_lettersOf_1 : decode cX8_lettersOf 1 = .ok (.istore_n 1, 1) := by decide +kernel
theorem dX8_lettersOf_2 : decode cX8_lettersOf 2 = .ok (.iconst 0, 1) := by decide +kernel
theorem dX8_lettersOf_3 : decode cX8_lettersOf 3 = .ok (.istore_n 2, 1) := by decide +kernel
theorem dX8_lettersOf_4 : decode cX8_lettersOf 4 = .ok (.iload_n 2, 1) := by decide +kernel
theorem dX8_lettersOf_5 : decode cX8_lettersOf 5 = .ok (.aload_n 0, 1) := by decide +kernel
theorem dX8_lettersOf_6 : decode cX8_lettersOf 6 = .ok (.getfield 133, 3) := by decide +kernel
theorem dX8_lettersOf_9 : decode cX8_lettersOf 9 = .ok (.if_icmp .ge 28, 3) := by decide +kernel
theorem dX8_lettersOf_12 : decode cX8_lettersOf 12 = .ok (.iload_n 1, 1) := by decide +kernel
theorem dX8_lettersOf_13 : decode cX8_lettersOf 13 = .ok (.aload_n 0, 1) := by decide +kernel
theorem dX8_lettersOf_14 : decode cX8_lettersOf 14 = .ok (.getfield 34, 3) := by decide +kernel
theorem dX8_lettersOf_17 : decode cX8_lettersOf 17 = .ok (.iload_n 2, 1) := by decide +kernel
theorem dX8_lettersOf_18 : decode cX8_lettersOf 18 = .ok (.iaload, 1) := by decide +kernel
theorem dX8_lettersOf_19 : decode cX8_lettersOf 19 = .ok (.bipush 100, 2) := by decide +kernel
theorem dX8_lettersOf_21 : decode cX8_lettersOf 21 = .ok (.if_icmp .ge 7, 3) := by decide +kernel
theorem dX8_lettersOf_24 : decode cX8_lettersOf 24 = .ok (.iconst 1, 1) := by decide +kernel
theorem dX8_lettersOf_25 : decode cX8_lettersOf 25 = .ok (.goto 4, 3) := by decide +kernel
theorem dX8_lettersOf_28 : decode cX8_lettersOf 28 = .ok (.iconst 2, 1) := by decide +kernel
theorem dX8_lettersOf_29 : decode cX8_lettersOf 29 = .ok (.iadd, 1) := by decide +kernel
theorem dX8_lettersOf_30 : decode cX8_lettersOf 30 = .ok (.istore_n 1, 1) := by decide +kernel
theorem dX8_lettersOf_31 : decode cX8_lettersOf 31 = .ok (.iinc 2 1, 3) := by decide +kernel
theorem dX8_lettersOf_34 : decode cX8_lettersOf 34 = .ok (.goto (-30), 3) := by decide +kernel
theorem dX8_lettersOf_37 : decode cX8_lettersOf 37 = .ok (.iload_n 1, 1) := by decide +kernel
theorem dX8_lettersOf_38 : decode cX8_lettersOf 38 = .ok (.ireturn, 1) := by decide +kernel
theorem dX8_cheapestTold_0 : decode cX8_cheapestTold 0 = .ok (.iload_n 1, 1) := by decide +kernel
theorem dX8_cheapestTold_1 : decode cX8_cheapestTold 1 = .ok (.ifCond .ne 12, 3) := by decide +kernel
theorem dX8_cheapestTold_4 : decode cX8_cheapestTold 4 = .ok (.aload_n 0, 1) := by decide +kernel
theorem dX8_cheapestTold_5 : decode cX8_cheapestTold 5 = .ok (.getfield 22, 3) := by decide +kernel
theorem dX8_cheapestTold_8 : decode cX8_cheapestTold 8 = .ok (.iconst 0, 1) := by decide +kernel
theorem dX8_cheapestTold_9 : decode cX8_cheapestTold 9 = .ok (.iaload, 1) := by decide +kernel
theorem dX8_cheapestTold_10 : decode cX8_cheapestTold 10 = .ok (.goto 51, 3) := by decide +kernel
theorem dX8_cheapestTold_13 : decode cX8_cheapestTold 13 = .ok (.iload_n 1, 1) := by decide +kernel
theorem dX8_cheapestTold_14 : decode cX8_cheapestTold 14 = .ok (.iconst 1, 1) := by decide +kernel
theorem dX8_cheapestTold_15 : decode cX8_cheapestTold 15 = .ok (.if_icmp .ne 10, 3) := by decide +kernel
theorem dX8_cheapestTold_18 : decode cX8_cheapestTold 18 = .ok (.aload_n 0, 1) := by decide +kernel
theorem dX8_cheapestTold_19 : decode cX8_cheapestTold 19 = .ok (.getfield 133, 3) := by decide +kernel
theorem dX8_cheapestTold_22 : decode cX8_cheapestTold 22 = .ok (.goto 39, 3) := by decide +kernel
theorem dX8_cheapestTold_25 : decode cX8_cheapestTold 25 = .ok (.iload_n 1, 1) := by decide +kernel
theorem dX8_cheapestTold_26 : decode cX8_cheapestTold 26 = .ok (.iconst 2, 1) := by decide +kernel
theorem dX8_cheapestTold_27 : decode cX8_cheapestTold 27 = .ok (.if_icmp .ne 10, 3) := by decide +kernel
theorem dX8_cheapestTold_30 : decode cX8_cheapestTold 30 = .ok (.aload_n 0, 1) := by decide +kernel
theorem dX8_cheapestTold_31 : decode cX8_cheapestTold 31 = .ok (.invokevirtual 139, 3) := by decide +kernel
theorem dX8_cheapestTold_34 : decode cX8_cheapestTold 34 = .ok (.goto 27, 3) := by decide +kernel
theorem dX8_cheapestTold_37 : decode cX8_cheapestTold 37 = .ok (.iload_n 1, 1) := by decide +kernel
theorem dX8_cheapestTold_38 : decode cX8_cheapestTold 38 = .ok (.bipush 10, 2) := by decide +kernel
theorem dX8_cheapestTold_40 : decode cX8_cheapestTold 40 = .ok (.isub, 1) := by decide +kernel
theorem dX8_cheapestTold_41 : decode cX8_cheapestTold 41 = .ok (.aload_n 0, 1) := by decide +kernel
theorem dX8_cheapestTold_42 : decode cX8_cheapestTold 42 = .ok (.getfield 133, 3) := by decide +kernel
theorem dX8_cheapestTold_45 : decode cX8_cheapestTold 45 = .ok (.if_icmp .ge 15, 3) := by decide +kernel
theorem dX8_cheapestTold_48 : decode cX8_cheapestTold 48 = .ok (.aload_n 0, 1) := by decide +kernel
theorem dX8_cheapestTold_49 : decode cX8_cheapestTold 49 = .ok (.getfield 34, 3) := by decide +kernel
theorem dX8_cheapestTold_52 : decode cX8_cheapestTold 52 = .ok (.iload_n 1, 1) := by decide +kernel
theorem dX8_cheapestTold_53 : decode cX8_cheapestTold 53 = .ok (.bipush 10, 2) := by decide +kernel
theorem dX8_cheapestTold_55 : decode cX8_cheapestTold 55 = .ok (.isub, 1) := by decide +kernel
theorem dX8_cheapestTold_56 : decode cX8_cheapestTold 56 = .ok (.iaload, 1) := by decide +kernel
theorem dX8_cheapestTold_57 : decode cX8_cheapestTold 57 = .ok (.goto 4, 3) := by decide +kernel
theorem dX8_cheapestTold_60 : decode cX8_cheapestTold 60 = .ok (.iconst (-1), 1) := by decide +kernel
theorem dX8_cheapestTold_61 : decode cX8_cheapestTold 61 = .ok (.ireturn, 1) := by decide +kernel
theorem dX8_cheapest_0 : decode cX8_cheapest 0 = .ok (.aload_n 0, 1) := by decide +kernel
theorem dX8_cheapest_1 : decode cX8_cheapest 1 = .ok (.getfield 92, 3) := by decide +kernel
theorem dX8_cheapest_4 : decode cX8_cheapest 4 = .ok (.ifCond .ne 7, 3) := by decide +kernel
theorem dX8_cheapest_7 : decode cX8_cheapest 7 = .ok (.sipush (-1003), 3) := by decide +kernel
theorem dX8_cheapest_10 : decode cX8_cheapest 10 = .ok (.ireturn, 1) := by decide +kernel
theorem dX8_cheapest_11 : decode cX8_cheapest 11 = .ok (.iload_n 1, 1) := by decide +kernel
theorem dX8_cheapest_12 : decode cX8_cheapest 12 = .ok (.iconst 0, 1) := by decide +kernel
theorem dX8_cheapest_13 : decode cX8_cheapest 13 = .ok (.iconst 2, 1) := by decide +kernel
theorem dX8_cheapest_14 : decode cX8_cheapest 14 = .ok (.invokestatic 49, 3) := by decide +kernel
theorem dX8_cheapest_17 : decode cX8_cheapest 17 = .ok (.ifCond .ne 18, 3) := by decide +kernel
theorem dX8_cheapest_20 : decode cX8_cheapest 20 = .ok (.iload_n 1, 1) := by decide +kernel
theorem dX8_cheapest_21 : decode cX8_cheapest 21 = .ok (.bipush 10, 2) := by decide +kernel
theorem dX8_cheapest_23 : decode cX8_cheapest 23 = .ok (.bipush 33, 2) := by decide +kernel
theorem dX8_cheapest_25 : decode cX8_cheapest 25 = .ok (.invokestatic 49, 3) := by decide +kernel
theorem dX8_cheapest_28 : decode cX8_cheapest 28 = .ok (.ifCond .ne 7, 3) := by decide +kernel
theorem dX8_cheapest_31 : decode cX8_cheapest 31 = .ok (.sipush (-1002), 3) := by decide +kernel
theorem dX8_cheapest_34 : decode cX8_cheapest 34 = .ok (.ireturn, 1) := by decide +kernel
theorem dX8_cheapest_35 : decode cX8_cheapest 35 = .ok (.aload_n 0, 1) := by decide +kernel
theorem dX8_cheapest_36 : decode cX8_cheapest 36 = .ok (.invokevirtual 142, 3) := by decide +kernel
theorem dX8_cheapest_39 : decode cX8_cheapest 39 = .ok (.aload_n 0, 1) := by decide +kernel
theorem dX8_cheapest_40 : decode cX8_cheapest 40 = .ok (.iload_n 1, 1) := by decide +kernel
theorem dX8_cheapest_41 : decode cX8_cheapest 41 = .ok (.invokevirtual 145, 3) := by decide +kernel
theorem dX8_cheapest_44 : decode cX8_cheapest 44 = .ok (.ireturn, 1) := by decide +kernel
theorem dX8_codeNow_0 : decode cX8_codeNow 0 = .ok (.iconst 0, 1) := by decide +kernel
theorem dX8_codeNow_1 : decode cX8_codeNow 1 = .ok (.istore_n 2, 1) := by decide +kernel
theorem dX8_codeNow_2 : decode cX8_codeNow 2 = .ok (.iconst 0, 1) := by decide +kernel
theorem dX8_codeNow_3 : decode cX8_codeNow 3 = .ok (.istore_n 3, 1) := by decide +kernel
theorem dX8_codeNow_4 : decode cX8_codeNow 4 = .ok (.iload_n 3, 1) := by decide +kernel
theorem dX8_codeNow_5 : decode cX8_codeNow 5 = .ok (.aload_n 0, 1) := by decide +kernel
theorem dX8_codeNow_6 : decode cX8_codeNow 6 = .ok (.getfield 133, 3) := by decide +kernel
theorem dX8_codeNow_9 : decode cX8_codeNow 9 = .ok (.if_icmp .ge 108, 3) := by decide +kernel
theorem dX8_codeNow_12 : decode cX8_codeNow 12 = .ok (.iload_n 2, 1) := by decide +kernel
theorem dX8_codeNow_13 : decode cX8_codeNow 13 = .ok (.iload_n 1, 1) := by decide +kernel
theorem dX8_codeNow_14 : decode cX8_codeNow 14 = .ok (.if_icmp .gt 103, 3) := by decide +kernel
theorem dX8_codeNow_17 : decode cX8_codeNow 17 = .ok (.aload_n 0, 1) := by decide +kernel
theorem dX8_codeNow_18 : decode cX8_codeNow 18 = .ok (.getfield 34, 3) := by decide +kernel
theorem dX8_codeNow_21 : decode cX8_codeNow 21 = .ok (.iload_n 3, 1) := by decide +kernel
theorem dX8_codeNow_22 : decode cX8_codeNow 22 = .ok (.iaload, 1) := by decide +kernel
theorem dX8_codeNow_23 : decode cX8_codeNow 23 = .ok (.istore 4, 2) := by decide +kernel
theorem dX8_codeNow_25 : decode cX8_codeNow 25 = .ok (.iload_n 2, 1) := by decide +kernel
theorem dX8_codeNow_26 : decode cX8_codeNow 26 = .ok (.iload_n 1, 1) := by decide +kernel
theorem dX8_codeNow_27 : decode cX8_codeNow 27 = .ok (.if_icmp .ne 46, 3) := by decide +kernel
theorem dX8_codeNow_30 : decode cX8_codeNow 30 = .ok (.iload 4, 2) := by decide +kernel
theorem dX8_codeNow_32 : decode cX8_codeNow 32 = .ok (.bipush 100, 2) := by decide +kernel
theorem dX8_codeNow_34 : decode cX8_codeNow 34 = .ok (.if_icmp .ge 11, 3) := by decide +kernel
theorem dX8_codeNow_37 : decode cX8_codeNow 37 = .ok (.bipush 97, 2) := by decide +kernel
theorem dX8_codeNow_39 : decode cX8_codeNow 39 = .ok (.iload 4, 2) := by decide +kernel
theorem dX8_codeNow_41 : decode cX8_codeNow 41 = .ok (.iadd, 1) := by decide +kernel
theorem dX8_codeNow_42 : decode cX8_codeNow 42 = .ok (.goto 30, 3) := by decide +kernel
theorem dX8_codeNow_45 : decode cX8_codeNow 45 = .ok (.iload 4, 2) := by decide +kernel
theorem dX8_codeNow_47 : decode cX8_codeNow 47 = .ok (.sipush 1000, 3) := by decide +kernel
theorem dX8_codeNow_50 : decode cX8_codeNow 50 = .ok (.if_icmp .ge 8, 3) := by decide +kernel
theorem dX8_codeNow_53 : decode cX8_codeNow 53 = .ok (.bipush 61, 2) := by decide +kernel
theorem dX8_codeNow_55 : decode cX8_codeNow 55 = .ok (.goto 17, 3) := by decide +kernel
theorem dX8_codeNow_58 : decode cX8_codeNow 58 = .ok (.bipush 65, 2) := by decide +kernel
theorem dX8_codeNow_60 : decode cX8_codeNow 60 = .ok (.iload 4, 2) := by decide +kernel
theorem dX8_codeNow_62 : decode cX8_codeNow 62 = .ok (.sipush 1000, 3) := by decide +kernel
theorem dX8_codeNow_65 : decode cX8_codeNow 65 = .ok (.isub, 1) := by decide +kernel
theorem dX8_codeNow_66 : decode cX8_codeNow 66 = .ok (.bipush 10, 2) := by decide +kernel
theorem dX8_codeNow_68 : decode cX8_codeNow 68 = .ok (.idiv, 1) := by decide +kernel
theorem dX8_codeNow_69 : decode cX8_codeNow 69 = .ok (.iadd, 1) := by decide +kernel
theorem dX8_codeNow_70 : decode cX8_codeNow 70 = .ok (.iconst 1, 1) := by decide +kernel
theorem dX8_codeNow_71 : decode cX8_codeNow 71 = .ok (.isub, 1) := by decide +kernel
theorem dX8_codeNow_72 : decode cX8_codeNow 72 = .ok (.ireturn, 1) := by decide +kernel
theorem dX8_codeNow_73 : decode cX8_codeNow 73 = .ok (.iload 4, 2) := by decide +kernel
theorem dX8_codeNow_75 : decode cX8_codeNow 75 = .ok (.bipush 100, 2) := by decide +kernel
theorem dX8_codeNow_77 : decode cX8_codeNow 77 = .ok (.if_icmp .lt 19, 3) := by decide +kernel
theorem dX8_codeNow_80 : decode cX8_codeNow 80 = .ok (.iload_n 2, 1) := by decide +kernel
theorem dX8_codeNow_81 : decode cX8_codeNow 81 = .ok (.iconst 1, 1) := by decide +kernel
theorem dX8_codeNow_82 : decode cX8_codeNow 82 = .ok (.iadd, 1) := by decide +kernel
theorem dX8_codeNow_83 : decode cX8_codeNow 83 = .ok (.iload_n 1, 1) := by decide +kernel
theorem dX8_codeNow_84 : decode cX8_codeNow 84 = .ok (.if_icmp .ne 12, 3) := by decide +kernel
theorem dX8_codeNow_87 : decode cX8_codeNow 87 = .ok (.bipush 48, 2) := by decide +kernel
theorem dX8_codeNow_89 : decode cX8_codeNow 89 = .ok (.iload 4, 2) := by decide +kernel
theorem dX8_codeNow_91 : decode cX8_codeNow 91 = .ok (.bipush 10, 2) := by decide +kernel
theorem dX8_codeNow_93 : decode cX8_codeNow 93 = .ok (.irem, 1) := by decide +kernel
theorem dX8_codeNow_94 : decode cX8_codeNow 94 = .ok (.iadd, 1) := by decide +kernel
theorem dX8_codeNow_95 : decode cX8_codeNow 95 = .ok (.ireturn, 1) := by decide +kernel
theorem dX8_codeNow_96 : decode cX8_codeNow 96 = .ok (.iload_n 2, 1) := by decide +kernel
theorem dX8_codeNow_97 : decode cX8_codeNow 97 = .ok (.iload 4, 2) := by decide +kernel
theorem dX8_codeNow_99 : decode cX8_codeNow 99 = .ok (.bipush 100, 2) := by decide +kernel
theorem dX8_codeNow_101 : decode cX8_codeNow 101 = .ok (.if_icmp .ge 7, 3) := by decide +kernel
theorem dX8_codeNow_104 : decode cX8_codeNow 104 = .ok (.iconst 1, 1) := by decide +kernel
theorem dX8_codeNow_105 : decode cX8_codeNow 105 = .ok (.goto 4, 3) := by decide +kernel
theorem dX8_codeNow_108 : decode cX8_codeNow 108 = .ok (.iconst 2, 1) := by decide +kernel
theorem dX8_codeNow_109 : decode cX8_codeNow 109 = .ok (.iadd, 1) := by decide +kernel
theorem dX8_codeNow_110 : decode cX8_codeNow 110 = .ok (.istore_n 2, 1) := by decide +kernel
theorem dX8_codeNow_111 : decode cX8_codeNow 111 = .ok (.iinc 3 1, 3) := by decide +kernel
theorem dX8_codeNow_114 : decode cX8_codeNow 114 = .ok (.goto (-110), 3) := by decide +kernel
theorem dX8_codeNow_117 : decode cX8_codeNow 117 = .ok (.iconst (-1), 1) := by decide +kernel
theorem dX8_codeNow_118 : decode cX8_codeNow 118 = .ok (.ireturn, 1) := by decide +kernel
theorem dX8_codeOf_0 : decode cX8_codeOf 0 = .ok (.aload_n 0, 1) := by decide +kernel
theorem dX8_codeOf_1 : decode cX8_codeOf 1 = .ok (.getfield 92, 3) := by decide +kernel
theorem dX8_codeOf_4 : decode cX8_codeOf 4 = .ok (.ifCond .ne 7, 3) := by decide +kernel
theorem dX8_codeOf_7 : decode cX8_codeOf 7 = .ok (.sipush (-1003), 3) := by decide +kernel
theorem dX8_codeOf_10 : decode cX8_codeOf 10 = .ok (.ireturn, 1) := by decide +kernel
theorem dX8_codeOf_11 : decode cX8_codeOf 11 = .ok (.aload_n 0, 1) := by decide +kernel
theorem dX8_codeOf_12 : decode cX8_codeOf 12 = .ok (.invokevirtual 142, 3) := by decide +kernel
theorem dX8_codeOf_15 : decode cX8_codeOf 15 = .ok (.aload_n 0, 1) := by decide +kernel
theorem dX8_codeOf_16 : decode cX8_codeOf 16 = .ok (.iload_n 1, 1) := by decide +kernel
theorem dX8_codeOf_17 : decode cX8_codeOf 17 = .ok (.invokevirtual 148, 3) := by decide +kernel
theorem dX8_codeOf_20 : decode cX8_codeOf 20 = .ok (.ireturn, 1) := by decide +kernel
theorem dX8_greedyNow_0 : decode cX8_greedyNow 0 = .ok (.iconst 0, 1) := by decide +kernel
theorem dX8_greedyNow_1 : decode cX8_greedyNow 1 = .ok (.istore_n 2, 1) := by decide +kernel
theorem dX8_greedyNow_2 : decode cX8_greedyNow 2 = .ok (.iconst 0, 1) := by decide +kernel
theorem dX8_greedyNow_3 : decode cX8_greedyNow 3 = .ok (.istore_n 3, 1) := by decide +kernel
theorem dX8_greedyNow_4 : decode cX8_greedyNow 4 = .ok (.iconst 0, 1) := by decide +kernel
theorem dX8_greedyNow_5 : decode cX8_greedyNow 5 = .ok (.istore 4, 2) := by decide +kernel
theorem dX8_greedyNow_7 : decode cX8_greedyNow 7 = .ok (.iconst 0, 1) := by decide +kernel
theorem dX8_greedyNow_8 : decode cX8_greedyNow 8 = .ok (.istore 5, 2) := by decide +kernel
theorem dX8_greedyNow_10 : decode cX8_greedyNow 10 = .ok (.iload 5, 2) := by decide +kernel
theorem dX8_greedyNow_12 : decode cX8_greedyNow 12 = .ok (.aload_n 0, 1) := by decide +kernel
theorem dX8_greedyNow_13 : decode cX8_greedyNow 13 = .ok (.getfield 92, 3) := by decide +kernel
theorem dX8_greedyNow_16 : decode cX8_greedyNow 16 = .ok (.if_icmp .ge 108, 3) := by decide +kernel
theorem dX8_greedyNow_19 : decode cX8_greedyNow 19 = .ok (.aload_n 0, 1) := by decide +kernel
theorem dX8_greedyNow_20 : decode cX8_greedyNow 20 = .ok (.iload 5, 2) := by decide +kernel
theorem dX8_greedyNow_22 : decode cX8_greedyNow 22 = .ok (.invokevirtual 112, 3) := by decide +kernel
theorem dX8_greedyNow_25 : decode cX8_greedyNow 25 = .ok (.istore 6, 2) := by decide +kernel
theorem dX8_greedyNow_27 : decode cX8_greedyNow 27 = .ok (.iload 6, 2) := by decide +kernel
theorem dX8_greedyNow_29 : decode cX8_greedyNow 29 = .ok (.ifCond .ne 7, 3) := by decide +kernel
theorem dX8_greedyNow_32 : decode cX8_greedyNow 32 = .ok (.iconst 1, 1) := by decide +kernel
theorem dX8_greedyNow_33 : decode cX8_greedyNow 33 = .ok (.goto 15, 3) := by decide +kernel
theorem dX8_greedyNow_36 : decode cX8_greedyNow 36 = .ok (.aload_n 0, 1) := by decide +kernel
theorem dX8_greedyNow_37 : decode cX8_greedyNow 37 = .ok (.iload 5, 2) := by decide +kernel
theorem dX8_greedyNow_39 : decode cX8_greedyNow 39 = .ok (.iload 6, 2) := by decide +kernel
theorem dX8_greedyNow_41 : decode cX8_greedyNow 41 = .ok (.aload_n 0, 1) := by decide +kernel
theorem dX8_greedyNow_42 : decode cX8_greedyNow 42 = .ok (.getfield 92, 3) := by decide +kernel
theorem dX8_greedyNow_45 : decode cX8_greedyNow 45 = .ok (.invokevirtual 108, 3) := by decide +kernel
theorem dX8_greedyNow_48 : decode cX8_greedyNow 48 = .ok (.istore 7, 2) := by decide +kernel
theorem dX8_greedyNow_50 : decode cX8_greedyNow 50 = .ok (.iload_n 2, 1) := by decide +kernel
theorem dX8_greedyNow_51 : decode cX8_greedyNow 51 = .ok (.iload 6, 2) := by decide +kernel
theorem dX8_greedyNow_53 : decode cX8_greedyNow 53 = .ok (.ifCond .ne 18, 3) := by decide +kernel
theorem dX8_greedyNow_56 : decode cX8_greedyNow 56 = .ok (.aload_n 0, 1) := by decide +kernel
theorem dX8_greedyNow_57 : decode cX8_greedyNow 57 = .ok (.getfield 16, 3) := by decide +kernel
theorem dX8_greedyNow_60 : decode cX8_greedyNow 60 = .ok (.aload_n 0, 1) := by decide +kernel
theorem dX8_greedyNow_61 : decode cX8_greedyNow 61 = .ok (.getfield 13, 3) := by decide +kernel
theorem dX8_greedyNow_64 : decode cX8_greedyNow 64 = .ok (.iload 5, 2) := by decide +kernel
theorem dX8_greedyNow_66 : decode cX8_greedyNow 66 = .ok (.iaload, 1) := by decide +kernel
theorem dX8_greedyNow_67 : decode cX8_greedyNow 67 = .ok (.iaload, 1) := by decide +kernel
theorem dX8_greedyNow_68 : decode cX8_greedyNow 68 = .ok (.goto 27, 3) := by decide +kernel
theorem dX8_greedyNow_71 : decode cX8_greedyNow 71 = .ok (.iload 6, 2) := by decide +kernel
theorem dX8_greedyNow_73 : decode cX8_greedyNow 73 = .ok (.iload 4, 2) := by decide +kernel
theorem dX8_greedyNow_75 : decode cX8_greedyNow 75 = .ok (.if_icmp .ne 12, 3) := by decide +kernel
theorem dX8_greedyNow_78 : decode cX8_greedyNow 78 = .ok (.aload_n 0, 1) := by decide +kernel
theorem dX8_greedyNow_79 : decode cX8_greedyNow 79 = .ok (.iload 7, 2) := by decide +kernel
theorem dX8_greedyNow_81 : decode cX8_greedyNow 81 = .ok (.invokevirtual 78, 3) := by decide +kernel
theorem dX8_greedyNow_84 : decode cX8_greedyNow 84 = .ok (.goto 11, 3) := by decide +kernel
theorem dX8_greedyNow_87 : decode cX8_greedyNow 87 = .ok (.aload_n 0, 1) := by decide +kernel
theorem dX8_greedyNow_88 : decode cX8_greedyNow 88 = .ok (.iload 6, 2) := by decide +kernel
theorem dX8_greedyNow_90 : decode cX8_greedyNow 90 = .ok (.iload 7, 2) := by decide +kernel
theorem dX8_greedyNow_92 : decode cX8_greedyNow 92 = .ok (.invokevirtual 81, 3) := by decide +kernel
theorem dX8_greedyNow_95 : decode cX8_greedyNow 95 = .ok (.iadd, 1) := by decide +kernel
theorem dX8_greedyNow_96 : decode cX8_greedyNow 96 = .ok (.istore_n 2, 1) := by decide +kernel
theorem dX8_greedyNow_97 : decode cX8_greedyNow 97 = .ok (.iload 6, 2) := by decide +kernel
theorem dX8_greedyNow_99 : decode cX8_greedyNow 99 = .ok (.ifCond .ne 8, 3) := by decide +kernel
theorem dX8_greedyNow_102 : decode cX8_greedyNow 102 = .ok (.iload 4, 2) := by decide +kernel
theorem dX8_greedyNow_104 : decode cX8_greedyNow 104 = .ok (.goto 5, 3) := by decide +kernel
theorem dX8_greedyNow_107 : decode cX8_greedyNow 107 = .ok (.iload 6, 2) := by decide +kernel
theorem dX8_greedyNow_109 : decode cX8_greedyNow 109 = .ok (.istore 4, 2) := by decide +kernel
theorem dX8_greedyNow_111 : decode cX8_greedyNow 111 = .ok (.iload 5, 2) := by decide +kernel
theorem dX8_greedyNow_113 : decode cX8_greedyNow 113 = .ok (.iload 7, 2) := by decide +kernel
theorem dX8_greedyNow_115 : decode cX8_greedyNow 115 = .ok (.iadd, 1) := by decide +kernel
theorem dX8_greedyNow_116 : decode cX8_greedyNow 116 = .ok (.istore 5, 2) := by decide +kernel
theorem dX8_greedyNow_118 : decode cX8_greedyNow 118 = .ok (.iinc 3 1, 3) := by decide +kernel
theorem dX8_greedyNow_121 : decode cX8_greedyNow 121 = .ok (.goto (-111), 3) := by decide +kernel
theorem dX8_greedyNow_124 : decode cX8_greedyNow 124 = .ok (.iload_n 1, 1) := by decide +kernel
theorem dX8_greedyNow_125 : decode cX8_greedyNow 125 = .ok (.ifCond .ne 7, 3) := by decide +kernel
theorem dX8_greedyNow_128 : decode cX8_greedyNow 128 = .ok (.iload_n 2, 1) := by decide +kernel
theorem dX8_greedyNow_129 : decode cX8_greedyNow 129 = .ok (.goto 4, 3) := by decide +kernel
theorem dX8_greedyNow_132 : decode cX8_greedyNow 132 = .ok (.iload_n 3, 1) := by decide +kernel
theorem dX8_greedyNow_133 : decode cX8_greedyNow 133 = .ok (.ireturn, 1) := by decide +kernel
theorem dX8_greedy_0 : decode cX8_greedy 0 = .ok (.aload_n 0, 1) := by decide +kernel
theorem dX8_greedy_1 : decode cX8_greedy 1 = .ok (.getfield 92, 3) := by decide +kernel
theorem dX8_greedy_4 : decode cX8_greedy 4 = .ok (.ifCond .ne 7, 3) := by decide +kernel
theorem dX8_greedy_7 : decode cX8_greedy 7 = .ok (.sipush (-1003), 3) := by decide +kernel
theorem dX8_greedy_10 : decode cX8_greedy 10 = .ok (.ireturn, 1) := by decide +kernel
theorem dX8_greedy_11 : decode cX8_greedy 11 = .ok (.iload_n 1, 1) := by decide +kernel
theorem dX8_greedy_12 : decode cX8_greedy 12 = .ok (.iconst 0, 1) := by decide +kernel
theorem dX8_greedy_13 : decode cX8_greedy 13 = .ok (.iconst 1, 1) := by decide +kernel
theorem dX8_greedy_14 : decode cX8_greedy 14 = .ok (.invokestatic 49, 3) := by decide +kernel
theorem dX8_greedy_17 : decode cX8_greedy 17 = .ok (.ifCond .eq 11, 3) := by decide +kernel
theorem dX8_greedy_20 : decode cX8_greedy 20 = .ok (.aload_n 0, 1) := by decide +kernel
theorem dX8_greedy_21 : decode cX8_greedy 21 = .ok (.iload_n 1, 1) := by decide +kernel
theorem dX8_greedy_22 : decode cX8_greedy 22 = .ok (.invokevirtual 151, 3) := by decide +kernel
theorem dX8_greedy_25 : decode cX8_greedy 25 = .ok (.goto 6, 3) := by decide +kernel
theorem dX8_greedy_28 : decode cX8_greedy 28 = .ok (.sipush (-1002), 3) := by decide +kernel
theorem dX8_greedy_31 : decode cX8_greedy 31 = .ok (.ireturn, 1) := by decide +kernel
theorem dX8_partsPrice_0 : decode cX8_partsPrice 0 = .ok (.iconst 0, 1) := by decide +kernel
theorem dX8_partsPrice_1 : decode cX8_partsPrice 1 = .ok (.istore_n 2, 1) := by decide +kernel
theorem dX8_partsPrice_2 : decode cX8_partsPrice 2 = .ok (.iconst 0, 1) := by decide +kernel
theorem dX8_partsPrice_3 : decode cX8_partsPrice 3 = .ok (.istore_n 3, 1) := by decide +kernel
theorem dX8_partsPrice_4 : decode cX8_partsPrice 4 = .ok (.iload_n 3, 1) := by decide +kernel
theorem dX8_partsPrice_5 : decode cX8_partsPrice 5 = .ok (.aload_n 0, 1) := by decide +kernel
theorem dX8_partsPrice_6 : decode cX8_partsPrice 6 = .ok (.getfield 92, 3) := by decide +kernel
theorem dX8_partsPrice_9 : decode cX8_partsPrice 9 = .ok (.if_icmp .ge 38, 3) := by decide +kernel
theorem dX8_partsPrice_12 : decode cX8_partsPrice 12 = .ok (.iload_n 2, 1) := by decide +kernel
theorem dX8_partsPrice_13 : decode cX8_partsPrice 13 = .ok (.aload_n 0, 1) := by decide +kernel
theorem dX8_partsPrice_14 : decode cX8_partsPrice 14 = .ok (.iload_n 3, 1) := by decide +kernel
theorem dX8_partsPrice_15 : decode cX8_partsPrice 15 = .ok (.iload_n 3, 1) := by decide +kernel
theorem dX8_partsPrice_16 : decode cX8_partsPrice 16 = .ok (.iload_n 1, 1) := by decide +kernel
theorem dX8_partsPrice_17 : decode cX8_partsPrice 17 = .ok (.iadd, 1) := by decide +kernel
theorem dX8_partsPrice_18 : decode cX8_partsPrice 18 = .ok (.aload_n 0, 1) := by decide +kernel
theorem dX8_partsPrice_19 : decode cX8_partsPrice 19 = .ok (.getfield 92, 3) := by decide +kernel
theorem dX8_partsPrice_22 : decode cX8_partsPrice 22 = .ok (.if_icmp .ge 7, 3) := by decide +kernel
theorem dX8_partsPrice_25 : decode cX8_partsPrice 25 = .ok (.iload_n 1, 1) := by decide +kernel
theorem dX8_partsPrice_26 : decode cX8_partsPrice 26 = .ok (.goto 9, 3) := by decide +kernel
theorem dX8_partsPrice_29 : decode cX8_partsPrice 29 = .ok (.aload_n 0, 1) := by decide +kernel
theorem dX8_partsPrice_30 : decode cX8_partsPrice 30 = .ok (.getfield 92, 3) := by decide +kernel
theorem dX8_partsPrice_33 : decode cX8_partsPrice 33 = .ok (.iload_n 3, 1) := by decide +kernel
theorem dX8_partsPrice_34 : decode cX8_partsPrice 34 = .ok (.isub, 1) := by decide +kernel
theorem dX8_partsPrice_35 : decode cX8_partsPrice 35 = .ok (.invokevirtual 130, 3) := by decide +kernel
theorem dX8_partsPrice_38 : decode cX8_partsPrice 38 = .ok (.iadd, 1) := by decide +kernel
theorem dX8_partsPrice_39 : decode cX8_partsPrice 39 = .ok (.istore_n 2, 1) := by decide +kernel
theorem dX8_partsPrice_40 : decode cX8_partsPrice 40 = .ok (.iload_n 3, 1) := by decide +kernel
theorem dX8_partsPrice_41 : decode cX8_partsPrice 41 = .ok (.iload_n 1, 1) := by decide +kernel
theorem dX8_partsPrice_42 : decode cX8_partsPrice 42 = .ok (.iadd, 1) := by decide +kernel
theorem dX8_partsPrice_43 : decode cX8_partsPrice 43 = .ok (.istore_n 3, 1) := by decide +kernel
theorem dX8_partsPrice_44 : decode cX8_partsPrice 44 = .ok (.goto (-40), 3) := by decide +kernel
theorem dX8_partsPrice_47 : decode cX8_partsPrice 47 = .ok (.iload_n 2, 1) := by decide +kernel
theorem dX8_partsPrice_48 : decode cX8_partsPrice 48 = .ok (.ireturn, 1) := by decide +kernel
theorem dX8_partsNow_0 : decode cX8_partsNow 0 = .ok (.iload_n 2, 1) := by decide +kernel
theorem dX8_partsNow_1 : decode cX8_partsNow 1 = .ok (.iconst 1, 1) := by decide +kernel
theorem dX8_partsNow_2 : decode cX8_partsNow 2 = .ok (.if_icmp .ne 14, 3) := by decide +kernel
theorem dX8_partsNow_5 : decode cX8_partsNow 5 = .ok (.aload_n 0, 1) := by decide +kernel
theorem dX8_partsNow_6 : decode cX8_partsNow 6 = .ok (.getfield 92, 3) := by decide +kernel
theorem dX8_partsNow_9 : decode cX8_partsNow 9 = .ok (.iload_n 1, 1) := by decide +kernel
theorem dX8_partsNow_10 : decode cX8_partsNow 10 = .ok (.iadd, 1) := by decide +kernel
theorem dX8_partsNow_11 : decode cX8_partsNow 11 = .ok (.iconst 1, 1) := by decide +kernel
theorem dX8_partsNow_12 : decode cX8_partsNow 12 = .ok (.isub, 1) := by decide +kernel
theorem dX8_partsNow_13 : decode cX8_partsNow 13 = .ok (.iload_n 1, 1) := by decide +kernel
theorem dX8_partsNow_14 : decode cX8_partsNow 14 = .ok (.idiv, 1) := by decide +kernel
theorem dX8_partsNow_15 : decode cX8_partsNow 15 = .ok (.ireturn, 1) := by decide +kernel
theorem dX8_partsNow_16 : decode cX8_partsNow 16 = .ok (.aload_n 0, 1) := by decide +kernel
theorem dX8_partsNow_17 : decode cX8_partsNow 17 = .ok (.iload_n 1, 1) := by decide +kernel
theorem dX8_partsNow_18 : decode cX8_partsNow 18 = .ok (.invokevirtual 154, 3) := by decide +kernel
theorem dX8_partsNow_21 : decode cX8_partsNow 21 = .ok (.istore_n 3, 1) := by decide +kernel
theorem dX8_partsNow_22 : decode cX8_partsNow 22 = .ok (.iload_n 2, 1) := by decide +kernel
theorem dX8_partsNow_23 : decode cX8_partsNow 23 = .ok (.ifCond .ne 7, 3) := by decide +kernel
theorem dX8_partsNow_26 : decode cX8_partsNow 26 = .ok (.iload_n 3, 1) := by decide +kernel
theorem dX8_partsNow_27 : decode cX8_partsNow 27 = .ok (.goto 14, 3) := by decide +kernel
theorem dX8_partsNow_30 : decode cX8_partsNow 30 = .ok (.iload_n 3, 1) := by decide +kernel
theorem dX8_partsNow_31 : decode cX8_partsNow 31 = .ok (.aload_n 0, 1) := by decide +kernel
theorem dX8_partsNow_32 : decode cX8_partsNow 32 = .ok (.iconst 0, 1) := by decide +kernel
theorem dX8_partsNow_33 : decode cX8_partsNow 33 = .ok (.aload_n 0, 1) := by decide +kernel
theorem dX8_partsNow_34 : decode cX8_partsNow 34 = .ok (.getfield 92, 3) := by decide +kernel
theorem dX8_partsNow_37 : decode cX8_partsNow 37 = .ok (.invokevirtual 130, 3) := by decide +kernel
theorem dX8_partsNow_40 : decode cX8_partsNow 40 = .ok (.isub, 1) := by decide +kernel
theorem dX8_partsNow_41 : decode cX8_partsNow 41 = .ok (.ireturn, 1) := by decide +kernel
theorem dX8_parts_0 : decode cX8_parts 0 = .ok (.aload_n 0, 1) := by decide +kernel
theorem dX8_parts_1 : decode cX8_parts 1 = .ok (.getfield 92, 3) := by decide +kernel
theorem dX8_parts_4 : decode cX8_parts 4 = .ok (.ifCond .ne 7, 3) := by decide +kernel
theorem dX8_parts_7 : decode cX8_parts 7 = .ok (.sipush (-1003), 3) := by decide +kernel
theorem dX8_parts_10 : decode cX8_parts 10 = .ok (.ireturn, 1) := by decide +kernel
theorem dX8_parts_11 : decode cX8_parts 11 = .ok (.iload_n 1, 1) := by decide +kernel
theorem dX8_parts_12 : decode cX8_parts 12 = .ok (.iconst 1, 1) := by decide +kernel
theorem dX8_parts_13 : decode cX8_parts 13 = .ok (.bipush 24, 2) := by decide +kernel
theorem dX8_parts_15 : decode cX8_parts 15 = .ok (.invokestatic 49, 3) := by decide +kernel
theorem dX8_parts_18 : decode cX8_parts 18 = .ok (.ifCond .eq 21, 3) := by decide +kernel
theorem dX8_parts_21 : decode cX8_parts 21 = .ok (.iload_n 2, 1) := by decide +kernel
theorem dX8_parts_22 : decode cX8_parts 22 = .ok (.iconst 0, 1) := by decide +kernel
theorem dX8_parts_23 : decode cX8_parts 23 = .ok (.iconst 2, 1) := by decide +kernel
theorem dX8_parts_24 : decode cX8_parts 24 = .ok (.invokestatic 49, 3) := by decide +kernel
theorem dX8_parts_27 : decode cX8_parts 27 = .ok (.ifCond .eq 12, 3) := by decide +kernel
theorem dX8_parts_30 : decode cX8_parts 30 = .ok (.aload_n 0, 1) := by decide +kernel
theorem dX8_parts_31 : decode cX8_parts 31 = .ok (.iload_n 1, 1) := by decide +kernel
theorem dX8_parts_32 : decode cX8_parts 32 = .ok (.iload_n 2, 1) := by decide +kernel
theorem dX8_parts_33 : decode cX8_parts 33 = .ok (.invokevirtual 157, 3) := by decide +kernel
theorem dX8_parts_36 : decode cX8_parts 36 = .ok (.goto 6, 3) := by decide +kernel
theorem dX8_parts_39 : decode cX8_parts 39 = .ok (.sipush (-1002), 3) := by decide +kernel
theorem dX8_parts_42 : decode cX8_parts 42 = .ok (.ireturn, 1) := by decide +kernel
theorem dX8_log_0 : decode cX8_log 0 = .ok (.iconst 0, 1) := by decide +kernel
theorem dX8_log_1 : decode cX8_log 1 = .ok (.istore_n 1, 1) := by decide +kernel
theorem dX8_log_2 : decode cX8_log 2 = .ok (.iload_n 0, 1) := by decide +kernel
theorem dX8_log_3 : decode cX8_log 3 = .ok (.istore_n 2, 1) := by decide +kernel
theorem dX8_log_4 : decode cX8_log 4 = .ok (.iload_n 2, 1) := by decide +kernel
theorem dX8_log_5 : decode cX8_log 5 = .ok (.iconst 1, 1) := by decide +kernel
theorem dX8_log_6 : decode cX8_log 6 = .ok (.if_icmp .le 13, 3) := by decide +kernel
theorem dX8_log_9 : decode cX8_log 9 = .ok (.iinc 1 1, 3) := by decide +kernel
theorem dX8_log_12 : decode cX8_log 12 = .ok (.iload_n 2, 1) := by decide +kernel
theorem dX8_log_13 : decode cX8_log 13 = .ok (.iconst 2, 1) := by decide +kernel
theorem dX8_log_14 : decode cX8_log 14 = .ok (.idiv, 1) := by decide +kernel
theorem dX8_log_15 : decode cX8_log 15 = .ok (.istore_n 2, 1) := by decide +kernel
theorem dX8_log_16 : decode cX8_log 16 = .ok (.goto (-12), 3) := by decide +kernel
theorem dX8_log_19 : decode cX8_log 19 = .ok (.iload_n 1, 1) := by decide +kernel
theorem dX8_log_20 : decode cX8_log 20 = .ok (.ireturn, 1) := by decide +kernel
theorem dX8_layTaken_0 : decode cX8_layTaken 0 = .ok (.iconst 0, 1) := by decide +kernel
theorem dX8_layTaken_1 : decode cX8_layTaken 1 = .ok (.istore_n 1, 1) := by decide +kernel
theorem dX8_layTaken_2 : decode cX8_layTaken 2 = .ok (.iload_n 1, 1) := by decide +kernel
theorem dX8_layTaken_3 : decode cX8_layTaken 3 = .ok (.bipush 18, 2) := by decide +kernel
theorem dX8_layTaken_5 : decode cX8_layTaken 5 = .ok (.if_icmp .ge 16, 3) := by decide +kernel
theorem dX8_layTaken_8 : decode cX8_layTaken 8 = .ok (.aload_n 0, 1) := by decide +kernel
theorem dX8_layTaken_9 : decode cX8_layTaken 9 = .ok (.getfield 37, 3) := by decide +kernel
theorem dX8_layTaken_12 : decode cX8_layTaken 12 = .ok (.iload_n 1, 1) := by decide +kernel
theorem dX8_layTaken_13 : decode cX8_layTaken 13 = .ok (.iconst 0, 1) := by decide +kernel
theorem dX8_layTaken_14 : decode cX8_layTaken 14 = .ok (.iastore, 1) := by decide +kernel
theorem dX8_layTaken_15 : decode cX8_layTaken 15 = .ok (.iinc 1 1, 3) := by decide +kernel
theorem dX8_layTaken_18 : decode cX8_layTaken 18 = .ok (.goto (-16), 3) := by decide +kernel
theorem dX8_layTaken_21 : decode cX8_layTaken 21 = .ok (.iconst 0, 1) := by decide +kernel
theorem dX8_layTaken_22 : decode cX8_layTaken 22 = .ok (.istore_n 1, 1) := by decide +kernel
theorem dX8_layTaken_23 : decode cX8_layTaken 23 = .ok (.iload_n 1, 1) := by decide +kernel
theorem dX8_layTaken_24 : decode cX8_layTaken 24 = .ok (.aload_n 0, 1) := by decide +kernel
theorem dX8_layTaken_25 : decode cX8_layTaken 25 = .ok (.getfield 133, 3) := by decide +kernel
theorem dX8_layTaken_28 : decode cX8_layTaken 28 = .ok (.if_icmp .ge 104, 3) := by decide +kernel
theorem dX8_layTaken_31 : decode cX8_layTaken 31 = .ok (.aload_n 0, 1) := by decide +kernel
theorem dX8_layTaken_32 : decode cX8_layTaken 32 = .ok (.getfield 34, 3) := by decide +kernel
theorem dX8_layTaken_35 : decode cX8_layTaken 35 = .ok (.iload_n 1, 1) := by decide +kernel
theorem dX8_layTaken_36 : decode cX8_layTaken 36 = .ok (.iaload, 1) := by decide +kernel
theorem dX8_layTaken_37 : decode cX8_layTaken 37 = .ok (.istore_n 2, 1) := by decide +kernel
theorem dX8_layTaken_38 : decode cX8_layTaken 38 = .ok (.iload_n 2, 1) := by decide +kernel
theorem dX8_layTaken_39 : decode cX8_layTaken 39 = .ok (.bipush 100, 2) := by decide +kernel
theorem dX8_layTaken_41 : decode cX8_layTaken 41 = .ok (.if_icmp .ge 16, 3) := by decide +kernel
theorem dX8_layTaken_44 : decode cX8_layTaken 44 = .ok (.aload_n 0, 1) := by decide +kernel
theorem dX8_layTaken_45 : decode cX8_layTaken 45 = .ok (.getfield 37, 3) := by decide +kernel
theorem dX8_layTaken_48 : decode cX8_layTaken 48 = .ok (.iload_n 2, 1) := by decide +kernel
theorem dX8_layTaken_49 : decode cX8_layTaken 49 = .ok (.dup2, 1) := by decide +kernel
theorem dX8_layTaken_50 : decode cX8_layTaken 50 = .ok (.iaload, 1) := by decide +kernel
theorem dX8_layTaken_51 : decode cX8_layTaken 51 = .ok (.iconst 1, 1) := by decide +kernel
theorem dX8_layTaken_52 : decode cX8_layTaken 52 = .ok (.iadd, 1) := by decide +kernel
theorem dX8_layTaken_53 : decode cX8_layTaken 53 = .ok (.iastore, 1) := by decide +kernel
theorem dX8_layTaken_54 : decode cX8_layTaken 54 = .ok (.goto 43, 3) := by decide +kernel
theorem dX8_layTaken_57 : decode cX8_layTaken 57 = .ok (.aload_n 0, 1) := by decide +kernel
theorem dX8_layTaken_58 : decode cX8_layTaken 58 = .ok (.getfield 37, 3) := by decide +kernel
theorem dX8_layTaken_61 : decode cX8_layTaken 61 = .ok (.bipush 10, 2) := by decide +kernel
theorem dX8_layTaken_63 : decode cX8_layTaken 63 = .ok (.iload_n 2, 1) := by decide +kernel
theorem dX8_layTaken_64 : decode cX8_layTaken 64 = .ok (.bipush 10, 2) := by decide +kernel
theorem dX8_layTaken_66 : decode cX8_layTaken 66 = .ok (.irem, 1) := by decide +kernel
theorem dX8_layTaken_67 : decode cX8_layTaken 67 = .ok (.iadd, 1) := by decide +kernel
theorem dX8_layTaken_68 : decode cX8_layTaken 68 = .ok (.iconst 2, 1) := by decide +kernel
theorem dX8_layTaken_69 : decode cX8_layTaken 69 = .ok (.isub, 1) := by decide +kernel
theorem dX8_layTaken_70 : decode cX8_layTaken 70 = .ok (.dup2, 1) := by decide +kernel
theorem dX8_layTaken_71 : decode cX8_layTaken 71 = .ok (.iaload, 1) := by decide +kernel
theorem dX8_layTaken_72 : decode cX8_layTaken 72 = .ok (.iconst 1, 1) := by decide +kernel
theorem dX8_layTaken_73 : decode cX8_layTaken 73 = .ok (.iadd, 1) := by decide +kernel
theorem dX8_layTaken_74 : decode cX8_layTaken 74 = .ok (.iastore, 1) := by decide +kernel
theorem dX8_layTaken_75 : decode cX8_layTaken 75 = .ok (.aload_n 0, 1) := by decide +kernel
theorem dX8_layTaken_76 : decode cX8_layTaken 76 = .ok (.getfield 37, 3) := by decide +kernel
theorem dX8_layTaken_79 : decode cX8_layTaken 79 = .ok (.iload_n 2, 1) := by decide +kernel
theorem dX8_layTaken_80 : decode cX8_layTaken 80 = .ok (.sipush 1000, 3) := by decide +kernel
theorem dX8_layTaken_83 : decode cX8_layTaken 83 = .ok (.if_icmp .ge 8, 3) := by decide +kernel
theorem dX8_layTaken_86 : decode cX8_layTaken 86 = .ok (.bipush 17, 2) := by decide +kernel
theorem dX8_layTaken_88 : decode cX8_layTaken 88 = .ok (.goto 4, 3) := by decide +kernel
theorem dX8_layTaken_91 : decode cX8_layTaken 91 = .ok (.iconst 4, 1) := by decide +kernel
theorem dX8_layTaken_92 : decode cX8_layTaken 92 = .ok (.dup2, 1) := by decide +kernel
theorem dX8_layTaken_93 : decode cX8_layTaken 93 = .ok (.iaload, 1) := by decide +kernel
theorem dX8_layTaken_94 : decode cX8_layTaken 94 = .ok (.iconst 1, 1) := by decide +kernel
theorem dX8_layTaken_95 : decode cX8_layTaken 95 = .ok (.iadd, 1) := by decide +kernel
theorem dX8_layTaken_96 : decode cX8_layTaken 96 = .ok (.iastore, 1) := by decide +kernel
theorem dX8_layTaken_97 : decode cX8_layTaken 97 = .ok (.iload_n 2, 1) := by decide +kernel
theorem dX8_layTaken_98 : decode cX8_layTaken 98 = .ok (.sipush 1000, 3) := by decide +kernel
theorem dX8_layTaken_101 : decode cX8_layTaken 101 = .ok (.if_icmp .lt 25, 3) := by decide +kernel
theorem dX8_layTaken_104 : decode cX8_layTaken 104 = .ok (.aload_n 0, 1) := by decide +kernel
theorem dX8_layTaken_105 : decode cX8_layTaken 105 = .ok (.getfield 37, 3) := by decide +kernel
theorem dX8_layTaken_108 : decode cX8_layTaken 108 = .ok (.iconst 5, 1) := by decide +kernel
theorem dX8_layTaken_109 : decode cX8_layTaken 109 = .ok (.iload_n 2, 1) := by decide +kernel
theorem dX8_layTaken_110 : decode cX8_layTaken 110 = .ok (.sipush 1000, 3) := by decide +kernel
theorem dX8_layTaken_113 : decode cX8_layTaken 113 = .ok (.isub, 1) := by decide +kernel
theorem dX8_layTaken_114 : decode cX8_layTaken 114 = .ok (.bipush 10, 2) := by decide +kernel
theorem dX8_layTaken_116 : decode cX8_layTaken 116 = .ok (.idiv, 1) := by decide +kernel
theorem dX8_layTaken_117 : decode cX8_layTaken 117 = .ok (.invokestatic 57, 3) := by decide +kernel
theorem dX8_layTaken_120 : decode cX8_layTaken 120 = .ok (.iadd, 1) := by decide +kernel
theorem dX8_layTaken_121 : decode cX8_layTaken 121 = .ok (.dup2, 1) := by decide +kernel
theorem dX8_layTaken_122 : decode cX8_layTaken 122 = .ok (.iaload, 1) := by decide +kernel
theorem dX8_layTaken_123 : decode cX8_layTaken 123 = .ok (.iconst 1, 1) := by decide +kernel
theorem dX8_layTaken_124 : decode cX8_layTaken 124 = .ok (.iadd, 1) := by decide +kernel
theorem dX8_layTaken_125 : decode cX8_layTaken 125 = .ok (.iastore, 1) := by decide +kernel
theorem dX8_layTaken_126 : decode cX8_layTaken 126 = .ok (.iinc 1 1, 3) := by decide +kernel
theorem dX8_layTaken_129 : decode cX8_layTaken 129 = .ok (.goto (-106), 3) := by decide +kernel
theorem dX8_layTaken_132 : decode cX8_layTaken 132 = .ok (.return_, 1) := by decide +kernel
theorem dX8_sum_0 : decode cX8_sum 0 = .ok (.iconst 0, 1) := by decide +kernel
theorem dX8_sum_1 : decode cX8_sum 1 = .ok (.istore_n 3, 1) := by decide +kernel
theorem dX8_sum_2 : decode cX8_sum 2 = .ok (.iload_n 1, 1) := by decide +kernel
theorem dX8_sum_3 : decode cX8_sum 3 = .ok (.istore 4, 2) := by decide +kernel
theorem dX8_sum_5 : decode cX8_sum 5 = .ok (.iload 4, 2) := by decide +kernel
theorem dX8_sum_7 : decode cX8_sum 7 = .ok (.iload_n 2, 1) := by decide +kernel
theorem dX8_sum_8 : decode cX8_sum 8 = .ok (.if_icmp .ge 19, 3) := by decide +kernel
theorem dX8_sum_11 : decode cX8_sum 11 = .ok (.iload_n 3, 1) := by decide +kernel
theorem dX8_sum_12 : decode cX8_sum 12 = .ok (.aload_n 0, 1) := by decide +kernel
theorem dX8_sum_13 : decode cX8_sum 13 = .ok (.getfield 37, 3) := by decide +kernel
theorem dX8_sum_16 : decode cX8_sum 16 = .ok (.iload 4, 2) := by decide +kernel
theorem dX8_sum_18 : decode cX8_sum 18 = .ok (.iaload, 1) := by decide +kernel
theorem dX8_sum_19 : decode cX8_sum 19 = .ok (.iadd, 1) := by decide +kernel
theorem dX8_sum_20 : decode cX8_sum 20 = .ok (.istore_n 3, 1) := by decide +kernel
theorem dX8_sum_21 : decode cX8_sum 21 = .ok (.iinc 4 1, 3) := by decide +kernel
theorem dX8_sum_24 : decode cX8_sum 24 = .ok (.goto (-19), 3) := by decide +kernel
theorem dX8_sum_27 : decode cX8_sum 27 = .ok (.iload_n 3, 1) := by decide +kernel
theorem dX8_sum_28 : decode cX8_sum 28 = .ok (.ireturn, 1) := by decide +kernel
theorem dX8_layThen_0 : decode cX8_layThen 0 = .ok (.aload_n 0, 1) := by decide +kernel
theorem dX8_layThen_1 : decode cX8_layThen 1 = .ok (.invokevirtual 142, 3) := by decide +kernel
theorem dX8_layThen_4 : decode cX8_layThen 4 = .ok (.aload_n 0, 1) := by decide +kernel
theorem dX8_layThen_5 : decode cX8_layThen 5 = .ok (.invokevirtual 160, 3) := by decide +kernel
theorem dX8_layThen_8 : decode cX8_layThen 8 = .ok (.iconst 0, 1) := by decide +kernel
theorem dX8_layThen_9 : decode cX8_layThen 9 = .ok (.istore_n 1, 1) := by decide +kernel
theorem dX8_layThen_10 : decode cX8_layThen 10 = .ok (.iconst 0, 1) := by decide +kernel
theorem dX8_layThen_11 : decode cX8_layThen 11 = .ok (.istore_n 2, 1) := by decide +kernel
theorem dX8_layThen_12 : decode cX8_layThen 12 = .ok (.iload_n 2, 1) := by decide +kernel
theorem dX8_layThen_13 : decode cX8_layThen 13 = .ok (.bipush 18, 2) := by decide +kernel
theorem dX8_layThen_15 : decode cX8_layThen 15 = .ok (.if_icmp .ge 126, 3) := by decide +kernel
theorem dX8_layThen_18 : decode cX8_layThen 18 = .ok (.iload_n 2, 1) := by decide +kernel
theorem dX8_layThen_19 : decode cX8_layThen 19 = .ok (.iconst 4, 1) := by decide +kernel
theorem dX8_layThen_20 : decode cX8_layThen 20 = .ok (.if_icmp .ge 14, 3) := by decide +kernel
theorem dX8_layThen_23 : decode cX8_layThen 23 = .ok (.aload_n 0, 1) := by decide +kernel
theorem dX8_layThen_24 : decode cX8_layThen 24 = .ok (.iconst 0, 1) := by decide +kernel
theorem dX8_layThen_25 : decode cX8_layThen 25 = .ok (.iconst 4, 1) := by decide +kernel
theorem dX8_layThen_26 : decode cX8_layThen 26 = .ok (.invokevirtual 163, 3) := by decide +kernel
theorem dX8_layThen_29 : decode cX8_layThen 29 = .ok (.iconst 4, 1) := by decide +kernel
theorem dX8_layThen_30 : decode cX8_layThen 30 = .ok (.iadd, 1) := by decide +kernel
theorem dX8_layThen_31 : decode cX8_layThen 31 = .ok (.goto 57, 3) := by decide +kernel
theorem dX8_layThen_34 : decode cX8_layThen 34 = .ok (.iload_n 2, 1) := by decide +kernel
theorem dX8_layThen_35 : decode cX8_layThen 35 = .ok (.iconst 4, 1) := by decide +kernel
theorem dX8_layThen_36 : decode cX8_layThen 36 = .ok (.if_icmp .eq 9, 3) := by decide +kernel
theorem dX8_layThen_39 : decode cX8_layThen 39 = .ok (.iload_n 2, 1) := by decide +kernel
theorem dX8_layThen_40 : decode cX8_layThen 40 = .ok (.bipush 17, 2) := by decide +kernel
theorem dX8_layThen_42 : decode cX8_layThen 42 = .ok (.if_icmp .ne 12, 3) := by decide +kernel
theorem dX8_layThen_45 : decode cX8_layThen 45 = .ok (.aload_n 0, 1) := by decide +kernel
theorem dX8_layThen_46 : decode cX8_layThen 46 = .ok (.getfield 133, 3) := by decide +kernel
theorem dX8_layThen_49 : decode cX8_layThen 49 = .ok (.iconst 3, 1) := by decide +kernel
theorem dX8_layThen_50 : decode cX8_layThen 50 = .ok (.iadd, 1) := by decide +kernel
theorem dX8_layThen_51 : decode cX8_layThen 51 = .ok (.goto 37, 3) := by decide +kernel
theorem dX8_layThen_54 : decode cX8_layThen 54 = .ok (.iload_n 2, 1) := by decide +kernel
theorem dX8_layThen_55 : decode cX8_layThen 55 = .ok (.bipush 10, 2) := by decide +kernel
theorem dX8_layThen_57 : decode cX8_layThen 57 = .ok (.if_icmp .ge 14, 3) := by decide +kernel
theorem dX8_layThen_60 : decode cX8_layThen 60 = .ok (.aload_n 0, 1) := by decide +kernel
theorem dX8_layThen_61 : decode cX8_layThen 61 = .ok (.getfield 37, 3) := by decide +kernel
theorem dX8_layThen_64 : decode cX8_layThen 64 = .ok (.iconst 4, 1) := by decide +kernel
theorem dX8_layThen_65 : decode cX8_layThen 65 = .ok (.iaload, 1) := by decide +kernel
theorem dX8_layThen_66 : decode cX8_layThen 66 = .ok (.iconst 5, 1) := by decide +kernel
theorem dX8_layThen_67 : decode cX8_layThen 67 = .ok (.iadd, 1) := by decide +kernel
theorem dX8_layThen_68 : decode cX8_layThen 68 = .ok (.goto 20, 3) := by decide +kernel
theorem dX8_layThen_71 : decode cX8_layThen 71 = .ok (.aload_n 0, 1) := by decide +kernel
theorem dX8_layThen_72 : decode cX8_layThen 72 = .ok (.getfield 37, 3) := by decide +kernel
theorem dX8_layThen_75 : decode cX8_layThen 75 = .ok (.iconst 4, 1) := by decide +kernel
theorem dX8_layThen_76 : decode cX8_layThen 76 = .ok (.iaload, 1) := by decide +kernel
theorem dX8_layThen_77 : decode cX8_layThen 77 = .ok (.aload_n 0, 1) := by decide +kernel
theorem dX8_layThen_78 : decode cX8_layThen 78 = .ok (.getfield 37, 3) := by decide +kernel
theorem dX8_layThen_81 : decode cX8_layThen 81 = .ok (.bipush 17, 2) := by decide +kernel
theorem dX8_layThen_83 : decode cX8_layThen 83 = .ok (.iaload, 1) := by decide +kernel
theorem dX8_layThen_84 : decode cX8_layThen 84 = .ok (.iadd, 1) := by decide +kernel
theorem dX8_layThen_85 : decode cX8_layThen 85 = .ok (.bipush 7, 2) := by decide +kernel
theorem dX8_layThen_87 : decode cX8_layThen 87 = .ok (.iadd, 1) := by decide +kernel
theorem dX8_layThen_88 : decode cX8_layThen 88 = .ok (.istore_n 3, 1) := by decide +kernel
theorem dX8_layThen_89 : decode cX8_layThen 89 = .ok (.aload_n 0, 1) := by decide +kernel
theorem dX8_layThen_90 : decode cX8_layThen 90 = .ok (.getfield 40, 3) := by decide +kernel
theorem dX8_layThen_93 : decode cX8_layThen 93 = .ok (.iload_n 2, 1) := by decide +kernel
theorem dX8_layThen_94 : decode cX8_layThen 94 = .ok (.iconst 1, 1) := by decide +kernel
theorem dX8_layThen_95 : decode cX8_layThen 95 = .ok (.iconst 2, 1) := by decide +kernel
theorem dX8_layThen_96 : decode cX8_layThen 96 = .ok (.iload_n 3, 1) := by decide +kernel
theorem dX8_layThen_97 : decode cX8_layThen 97 = .ok (.iconst 1, 1) := by decide +kernel
theorem dX8_layThen_98 : decode cX8_layThen 98 = .ok (.aload_n 0, 1) := by decide +kernel
theorem dX8_layThen_99 : decode cX8_layThen 99 = .ok (.getfield 37, 3) := by decide +kernel
theorem dX8_layThen_102 : decode cX8_layThen 102 = .ok (.iload_n 2, 1) := by decide +kernel
theorem dX8_layThen_103 : decode cX8_layThen 103 = .ok (.iaload, 1) := by decide +kernel
theorem dX8_layThen_104 : decode cX8_layThen 104 = .ok (.iadd, 1) := by decide +kernel
theorem dX8_layThen_105 : decode cX8_layThen 105 = .ok (.idiv, 1) := by decide +kernel
theorem dX8_layThen_106 : decode cX8_layThen 106 = .ok (.invokestatic 166, 3) := by decide +kernel
theorem dX8_layThen_109 : decode cX8_layThen 109 = .ok (.imul, 1) := by decide +kernel
theorem dX8_layThen_110 : decode cX8_layThen 110 = .ok (.iadd, 1) := by decide +kernel
theorem dX8_layThen_111 : decode cX8_layThen 111 = .ok (.iastore, 1) := by decide +kernel
theorem dX8_layThen_112 : decode cX8_layThen 112 = .ok (.iload_n 1, 1) := by decide +kernel
theorem dX8_layThen_113 : decode cX8_layThen 113 = .ok (.aload_n 0, 1) := by decide +kernel
theorem dX8_layThen_114 : decode cX8_layThen 114 = .ok (.getfield 40, 3) := by decide +kernel
theorem dX8_layThen_117 : decode cX8_layThen 117 = .ok (.iload_n 2, 1) := by decide +kernel
theorem dX8_layThen_118 : decode cX8_layThen 118 = .ok (.iaload, 1) := by decide +kernel
theorem dX8_layThen_119 : decode cX8_layThen 119 = .ok (.aload_n 0, 1) := by decide +kernel
theorem dX8_layThen_120 : decode cX8_layThen 120 = .ok (.getfield 16, 3) := by decide +kernel
theorem dX8_layThen_123 : decode cX8_layThen 123 = .ok (.iload_n 2, 1) := by decide +kernel
theorem dX8_layThen_124 : decode cX8_layThen 124 = .ok (.iaload, 1) := by decide +kernel
theorem dX8_layThen_125 : decode cX8_layThen 125 = .ok (.if_icmp .ne 7, 3) := by decide +kernel
theorem dX8_layThen_128 : decode cX8_layThen 128 = .ok (.iconst 0, 1) := by decide +kernel
theorem dX8_layThen_129 : decode cX8_layThen 129 = .ok (.goto 4, 3) := by decide +kernel
theorem dX8_layThen_132 : decode cX8_layThen 132 = .ok (.iconst 1, 1) := by decide +kernel
theorem dX8_layThen_133 : decode cX8_layThen 133 = .ok (.iadd, 1) := by decide +kernel
theorem dX8_layThen_134 : decode cX8_layThen 134 = .ok (.istore_n 1, 1) := by decide +kernel
theorem dX8_layThen_135 : decode cX8_layThen 135 = .ok (.iinc 2 1, 3) := by decide +kernel
theorem dX8_layThen_138 : decode cX8_layThen 138 = .ok (.goto (-126), 3) := by decide +kernel
theorem dX8_layThen_141 : decode cX8_layThen 141 = .ok (.iload_n 1, 1) := by decide +kernel
theorem dX8_layThen_142 : decode cX8_layThen 142 = .ok (.ireturn, 1) := by decide +kernel
theorem dX8_become_0 : decode cX8_become 0 = .ok (.iconst 0, 1) := by decide +kernel
theorem dX8_become_1 : decode cX8_become 1 = .ok (.istore_n 1, 1) := by decide +kernel
theorem dX8_become_2 : decode cX8_become 2 = .ok (.iload_n 1, 1) := by decide +kernel
theorem dX8_become_3 : decode cX8_become 3 = .ok (.bipush 18, 2) := by decide +kernel
theorem dX8_become_5 : decode cX8_become 5 = .ok (.if_icmp .ge 21, 3) := by decide +kernel
theorem dX8_become_8 : decode cX8_become 8 = .ok (.aload_n 0, 1) := by decide +kernel
theorem dX8_become_9 : decode cX8_become 9 = .ok (.getfield 16, 3) := by decide +kernel
theorem dX8_become_12 : decode cX8_become 12 = .ok (.iload_n 1, 1) := by decide +kernel
theorem dX8_become_13 : decode cX8_become 13 = .ok (.aload_n 0, 1) := by decide +kernel
theorem dX8_become_14 : decode cX8_become 14 = .ok (.getfield 40, 3) := by decide +kernel
theorem dX8_become_17 : decode cX8_become 17 = .ok (.iload_n 1, 1) := by decide +kernel
theorem dX8_become_18 : decode cX8_become 18 = .ok (.iaload, 1) := by decide +kernel
theorem dX8_become_19 : decode cX8_become 19 = .ok (.iastore, 1) := by decide +kernel
theorem dX8_become_20 : decode cX8_become 20 = .ok (.iinc 1 1, 3) := by decide +kernel
theorem dX8_become_23 : decode cX8_become 23 = .ok (.goto (-21), 3) := by decide +kernel
theorem dX8_become_26 : decode cX8_become 26 = .ok (.return_, 1) := by decide +kernel
theorem dX8_roundNow_0 : decode cX8_roundNow 0 = .ok (.aload_n 0, 1) := by decide +kernel
theorem dX8_roundNow_1 : decode cX8_roundNow 1 = .ok (.invokevirtual 169, 3) := by decide +kernel
theorem dX8_roundNow_4 : decode cX8_roundNow 4 = .ok (.istore_n 1, 1) := by decide +kernel
theorem dX8_roundNow_5 : decode cX8_roundNow 5 = .ok (.aload_n 0, 1) := by decide +kernel
theorem dX8_roundNow_6 : decode cX8_roundNow 6 = .ok (.invokevirtual 172, 3) := by decide +kernel
theorem dX8_roundNow_9 : decode cX8_roundNow 9 = .ok (.aload_n 0, 1) := by decide +kernel
theorem dX8_roundNow_10 : decode cX8_roundNow 10 = .ok (.dup, 1) := by decide +kernel
theorem dX8_roundNow_11 : decode cX8_roundNow 11 = .ok (.getfield 175, 3) := by decide +kernel
theorem dX8_roundNow_14 : decode cX8_roundNow 14 = .ok (.iconst 1, 1) := by decide +kernel
theorem dX8_roundNow_15 : decode cX8_roundNow 15 = .ok (.iadd, 1) := by decide +kernel
theorem dX8_roundNow_16 : decode cX8_roundNow 16 = .ok (.putfield 175, 3) := by decide +kernel
theorem dX8_roundNow_19 : decode cX8_roundNow 19 = .ok (.iload_n 1, 1) := by decide +kernel
theorem dX8_roundNow_20 : decode cX8_roundNow 20 = .ok (.ireturn, 1) := by decide +kernel
theorem dX8_round_0 : decode cX8_round 0 = .ok (.aload_n 0, 1) := by decide +kernel
theorem dX8_round_1 : decode cX8_round 1 = .ok (.getfield 92, 3) := by decide +kernel
theorem dX8_round_4 : decode cX8_round 4 = .ok (.ifCond .ne 9, 3) := by decide +kernel
theorem dX8_round_7 : decode cX8_round 7 = .ok (.sipush (-1003), 3) := by decide +kernel
theorem dX8_round_10 : decode cX8_round 10 = .ok (.goto 7, 3) := by decide +kernel
theorem dX8_round_13 : decode cX8_round 13 = .ok (.aload_n 0, 1) := by decide +kernel
theorem dX8_round_14 : decode cX8_round 14 = .ok (.invokevirtual 178, 3) := by decide +kernel
theorem dX8_round_17 : decode cX8_round 17 = .ok (.ireturn, 1) := by decide +kernel
theorem dX8_layRest_0 : decode cX8_layRest 0 = .ok (.iconst 0, 1) := by decide +kernel
theorem dX8_layRest_1 : decode cX8_layRest 1 = .ok (.istore_n 1, 1) := by decide +kernel
theorem dX8_layRest_2 : decode cX8_layRest 2 = .ok (.iload_n 1, 1) := by decide +kernel
theorem dX8_layRest_3 : decode cX8_layRest 3 = .ok (.bipush 18, 2) := by decide +kernel
theorem dX8_layRest_5 : decode cX8_layRest 5 = .ok (.if_icmp .ge 21, 3) := by decide +kernel
theorem dX8_layRest_8 : decode cX8_layRest 8 = .ok (.aload_n 0, 1) := by decide +kernel
theorem dX8_layRest_9 : decode cX8_layRest 9 = .ok (.getfield 43, 3) := by decide +kernel
theorem dX8_layRest_12 : decode cX8_layRest 12 = .ok (.iload_n 1, 1) := by decide +kernel
theorem dX8_layRest_13 : decode cX8_layRest 13 = .ok (.aload_n 0, 1) := by decide +kernel
theorem dX8_layRest_14 : decode cX8_layRest 14 = .ok (.getfield 16, 3) := by decide +kernel
theorem dX8_layRest_17 : decode cX8_layRest 17 = .ok (.iload_n 1, 1) := by decide +kernel
theorem dX8_layRest_18 : decode cX8_layRest 18 = .ok (.iaload, 1) := by decide +kernel
theorem dX8_layRest_19 : decode cX8_layRest 19 = .ok (.iastore, 1) := by decide +kernel
theorem dX8_layRest_20 : decode cX8_layRest 20 = .ok (.iinc 1 1, 3) := by decide +kernel
theorem dX8_layRest_23 : decode cX8_layRest 23 = .ok (.goto (-21), 3) := by decide +kernel
theorem dX8_layRest_26 : decode cX8_layRest 26 = .ok (.iconst 0, 1) := by decide +kernel
theorem dX8_layRest_27 : decode cX8_layRest 27 = .ok (.istore_n 1, 1) := by decide +kernel
theorem dX8_layRest_28 : decode cX8_layRest 28 = .ok (.aload_n 0, 1) := by decide +kernel
theorem dX8_layRest_29 : decode cX8_layRest 29 = .ok (.invokevirtual 169, 3) := by decide +kernel
theorem dX8_layRest_32 : decode cX8_layRest 32 = .ok (.istore_n 2, 1) := by decide +kernel
theorem dX8_layRest_33 : decode cX8_layRest 33 = .ok (.iload_n 2, 1) := by decide +kernel
theorem dX8_layRest_34 : decode cX8_layRest 34 = .ok (.ifCond .le 24, 3) := by decide +kernel
theorem dX8_layRest_37 : decode cX8_layRest 37 = .ok (.iload_n 1, 1) := by decide +kernel
theorem dX8_layRest_38 : decode cX8_layRest 38 = .ok (.bipush 12, 2) := by decide +kernel
theorem dX8_layRest_40 : decode cX8_layRest 40 = .ok (.if_icmp .ge 18, 3) := by decide +kernel
theorem dX8_layRest_43 : decode cX8_layRest 43 = .ok (.aload_n 0, 1) := by decide +kernel
theorem dX8_layRest_44 : decode cX8_layRest 44 = .ok (.invokevirtual 172, 3) := by decide +kernel
theorem dX8_layRest_47 : decode cX8_layRest 47 = .ok (.iinc 1 1, 3) := by decide +kernel
theorem dX8_layRest_50 : decode cX8_layRest 50 = .ok (.aload_n 0, 1) := by decide +kernel
theorem dX8_layRest_51 : decode cX8_layRest 51 = .ok (.invokevirtual 169, 3) := by decide +kernel
theorem dX8_layRest_54 : decode cX8_layRest 54 = .ok (.istore_n 2, 1) := by decide +kernel
theorem dX8_layRest_55 : decode cX8_layRest 55 = .ok (.goto (-22), 3) := by decide +kernel
theorem dX8_layRest_58 : decode cX8_layRest 58 = .ok (.aload_n 0, 1) := by decide +kernel
theorem dX8_layRest_59 : decode cX8_layRest 59 = .ok (.getfield 46, 3) := by decide +kernel
theorem dX8_layRest_62 : decode cX8_layRest 62 = .ok (.iconst 0, 1) := by decide +kernel
theorem dX8_layRest_63 : decode cX8_layRest 63 = .ok (.iload_n 2, 1) := by decide +kernel
theorem dX8_layRest_64 : decode cX8_layRest 64 = .ok (.ifCond .le 7, 3) := by decide +kernel
theorem dX8_layRest_67 : decode cX8_layRest 67 = .ok (.iconst (-1), 1) := by decide +kernel
theorem dX8_layRest_68 : decode cX8_layRest 68 = .ok (.goto 4, 3) := by decide +kernel
theorem dX8_layRest_71 : decode cX8_layRest 71 = .ok (.iload_n 1, 1) := by decide +kernel
theorem dX8_layRest_72 : decode cX8_layRest 72 = .ok (.iastore, 1) := by decide +kernel
theorem dX8_layRest_73 : decode cX8_layRest 73 = .ok (.aload_n 0, 1) := by decide +kernel
theorem dX8_layRest_74 : decode cX8_layRest 74 = .ok (.getfield 46, 3) := by decide +kernel
end
section
theorem dX8_layRest_77 : decode cX8_layRest 77 = .ok (.iconst 1, 1) := by decide +kernel
theorem dX8_layRest_78 : decode cX8_layRest 78 = .ok (.aload_n 0, 1) := by decide +kernel
theorem dX8_layRest_79 : decode cX8_layRest 79 = .ok (.getfield 22, 3) := by decide +kernel
theorem dX8_layRest_82 : decode cX8_layRest 82 = .ok (.iconst 0, 1) := by decide +kernel
theorem dX8_layRest_83 : decode cX8_layRest 83 = .ok (.iaload, 1) := by decide +kernel
theorem dX8_layRest_84 : decode cX8_layRest 84 = .ok (.iastore, 1) := by decide +kernel
theorem dX8_layRest_85 : decode cX8_layRest 85 = .ok (.aload_n 0, 1) := by decide +kernel
theorem dX8_layRest_86 : decode cX8_layRest 86 = .ok (.getfield 46, 3) := by decide +kernel
theorem dX8_layRest_89 : decode cX8_layRest 89 = .ok (.iconst 2, 1) := by decide +kernel
theorem dX8_layRest_90 : decode cX8_layRest 90 = .ok (.aload_n 0, 1) := by decide +kernel
theorem dX8_layRest_91 : decode cX8_layRest 91 = .ok (.getfield 133, 3) := by decide +kernel
theorem dX8_layRest_94 : decode cX8_layRest 94 = .ok (.iastore, 1) := by decide +kernel
theorem dX8_layRest_95 : decode cX8_layRest 95 = .ok (.iconst 0, 1) := by decide +kernel
theorem dX8_layRest_96 : decode cX8_layRest 96 = .ok (.istore_n 3, 1) := by decide +kernel
theorem dX8_layRest_97 : decode cX8_layRest 97 = .ok (.iload_n 3, 1) := by decide +kernel
theorem dX8_layRest_98 : decode cX8_layRest 98 = .ok (.bipush 18, 2) := by decide +kernel
theorem dX8_layRest_100 : decode cX8_layRest 100 = .ok (.if_icmp .ge 21, 3) := by decide +kernel
theorem dX8_layRest_103 : decode cX8_layRest 103 = .ok (.aload_n 0, 1) := by decide +kernel
theorem dX8_layRest_104 : decode cX8_layRest 104 = .ok (.getfield 16, 3) := by decide +kernel
theorem dX8_layRest_107 : decode cX8_layRest 107 = .ok (.iload_n 3, 1) := by decide +kernel
theorem dX8_layRest_108 : decode cX8_layRest 108 = .ok (.aload_n 0, 1) := by decide +kernel
theorem dX8_layRest_109 : decode cX8_layRest 109 = .ok (.getfield 43, 3) := by decide +kernel
theorem dX8_layRest_112 : decode cX8_layRest 112 = .ok (.iload_n 3, 1) := by decide +kernel
theorem dX8_layRest_113 : decode cX8_layRest 113 = .ok (.iaload, 1) := by decide +kernel
theorem dX8_layRest_114 : decode cX8_layRest 114 = .ok (.iastore, 1) := by decide +kernel
theorem dX8_layRest_115 : decode cX8_layRest 115 = .ok (.iinc 3 1, 3) := by decide +kernel
theorem dX8_layRest_118 : decode cX8_layRest 118 = .ok (.goto (-21), 3) := by decide +kernel
theorem dX8_layRest_121 : decode cX8_layRest 121 = .ok (.return_, 1) := by decide +kernel
theorem dX8_rest_0 : decode cX8_rest 0 = .ok (.aload_n 0, 1) := by decide +kernel
theorem dX8_rest_1 : decode cX8_rest 1 = .ok (.getfield 92, 3) := by decide +kernel
theorem dX8_rest_4 : decode cX8_rest 4 = .ok (.ifCond .ne 7, 3) := by decide +kernel
theorem dX8_rest_7 : decode cX8_rest 7 = .ok (.sipush (-1003), 3) := by decide +kernel
theorem dX8_rest_10 : decode cX8_rest 10 = .ok (.ireturn, 1) := by decide +kernel
theorem dX8_rest_11 : decode cX8_rest 11 = .ok (.iload_n 1, 1) := by decide +kernel
theorem dX8_rest_12 : decode cX8_rest 12 = .ok (.iconst 0, 1) := by decide +kernel
theorem dX8_rest_13 : decode cX8_rest 13 = .ok (.iconst 2, 1) := by decide +kernel
theorem dX8_rest_14 : decode cX8_rest 14 = .ok (.invokestatic 49, 3) := by decide +kernel
theorem dX8_rest_17 : decode cX8_rest 17 = .ok (.ifCond .ne 7, 3) := by decide +kernel
theorem dX8_rest_20 : decode cX8_rest 20 = .ok (.sipush (-1002), 3) := by decide +kernel
theorem dX8_rest_23 : decode cX8_rest 23 = .ok (.ireturn, 1) := by decide +kernel
theorem dX8_rest_24 : decode cX8_rest 24 = .ok (.aload_n 0, 1) := by decide +kernel
theorem dX8_rest_25 : decode cX8_rest 25 = .ok (.invokevirtual 181, 3) := by decide +kernel
theorem dX8_rest_28 : decode cX8_rest 28 = .ok (.aload_n 0, 1) := by decide +kernel
theorem dX8_rest_29 : decode cX8_rest 29 = .ok (.getfield 46, 3) := by decide +kernel
theorem dX8_rest_32 : decode cX8_rest 32 = .ok (.iload_n 1, 1) := by decide +kernel
theorem dX8_rest_33 : decode cX8_rest 33 = .ok (.iaload, 1) := by decide +kernel
theorem dX8_rest_34 : decode cX8_rest 34 = .ok (.ireturn, 1) := by decide +kernel
theorem dX8_tokensOf_0 : decode cX8_tokensOf 0 = .ok (.aload_n 0, 1) := by decide +kernel
theorem dX8_tokensOf_1 : decode cX8_tokensOf 1 = .ok (.getfield 92, 3) := by decide +kernel
theorem dX8_tokensOf_4 : decode cX8_tokensOf 4 = .ok (.ifCond .ne 5, 3) := by decide +kernel
theorem dX8_tokensOf_7 : decode cX8_tokensOf 7 = .ok (.iconst 0, 1) := by decide +kernel
theorem dX8_tokensOf_8 : decode cX8_tokensOf 8 = .ok (.ireturn, 1) := by decide +kernel
theorem dX8_tokensOf_9 : decode cX8_tokensOf 9 = .ok (.aload_n 0, 1) := by decide +kernel
theorem dX8_tokensOf_10 : decode cX8_tokensOf 10 = .ok (.invokevirtual 142, 3) := by decide +kernel
theorem dX8_tokensOf_13 : decode cX8_tokensOf 13 = .ok (.iconst 0, 1) := by decide +kernel
theorem dX8_tokensOf_14 : decode cX8_tokensOf 14 = .ok (.istore_n 2, 1) := by decide +kernel
theorem dX8_tokensOf_15 : decode cX8_tokensOf 15 = .ok (.iconst 0, 1) := by decide +kernel
theorem dX8_tokensOf_16 : decode cX8_tokensOf 16 = .ok (.istore_n 3, 1) := by decide +kernel
theorem dX8_tokensOf_17 : decode cX8_tokensOf 17 = .ok (.iload_n 3, 1) := by decide +kernel
theorem dX8_tokensOf_18 : decode cX8_tokensOf 18 = .ok (.aload_n 0, 1) := by decide +kernel
theorem dX8_tokensOf_19 : decode cX8_tokensOf 19 = .ok (.getfield 133, 3) := by decide +kernel
theorem dX8_tokensOf_22 : decode cX8_tokensOf 22 = .ok (.if_icmp .ge 57, 3) := by decide +kernel
theorem dX8_tokensOf_25 : decode cX8_tokensOf 25 = .ok (.aload_n 0, 1) := by decide +kernel
theorem dX8_tokensOf_26 : decode cX8_tokensOf 26 = .ok (.getfield 34, 3) := by decide +kernel
theorem dX8_tokensOf_29 : decode cX8_tokensOf 29 = .ok (.iload_n 3, 1) := by decide +kernel
theorem dX8_tokensOf_30 : decode cX8_tokensOf 30 = .ok (.iaload, 1) := by decide +kernel
theorem dX8_tokensOf_31 : decode cX8_tokensOf 31 = .ok (.bipush 100, 2) := by decide +kernel
theorem dX8_tokensOf_33 : decode cX8_tokensOf 33 = .ok (.if_icmp .ge 7, 3) := by decide +kernel
theorem dX8_tokensOf_36 : decode cX8_tokensOf 36 = .ok (.iconst 0, 1) := by decide +kernel
theorem dX8_tokensOf_37 : decode cX8_tokensOf 37 = .ok (.goto 20, 3) := by decide +kernel
theorem dX8_tokensOf_40 : decode cX8_tokensOf 40 = .ok (.aload_n 0, 1) := by decide +kernel
theorem dX8_tokensOf_41 : decode cX8_tokensOf 41 = .ok (.getfield 34, 3) := by decide +kernel
theorem dX8_tokensOf_44 : decode cX8_tokensOf 44 = .ok (.iload_n 3, 1) := by decide +kernel
theorem dX8_tokensOf_45 : decode cX8_tokensOf 45 = .ok (.iaload, 1) := by decide +kernel
theorem dX8_tokensOf_46 : decode cX8_tokensOf 46 = .ok (.sipush 1000, 3) := by decide +kernel
theorem dX8_tokensOf_49 : decode cX8_tokensOf 49 = .ok (.if_icmp .ge 7, 3) := by decide +kernel
theorem dX8_tokensOf_52 : decode cX8_tokensOf 52 = .ok (.iconst 1, 1) := by decide +kernel
theorem dX8_tokensOf_53 : decode cX8_tokensOf 53 = .ok (.goto 4, 3) := by decide +kernel
theorem dX8_tokensOf_56 : decode cX8_tokensOf 56 = .ok (.iconst 2, 1) := by decide +kernel
theorem dX8_tokensOf_57 : decode cX8_tokensOf 57 = .ok (.istore 4, 2) := by decide +kernel
theorem dX8_tokensOf_59 : decode cX8_tokensOf 59 = .ok (.iload_n 2, 1) := by decide +kernel
theorem dX8_tokensOf_60 : decode cX8_tokensOf 60 = .ok (.iload 4, 2) := by decide +kernel
theorem dX8_tokensOf_62 : decode cX8_tokensOf 62 = .ok (.iload_n 1, 1) := by decide +kernel
theorem dX8_tokensOf_63 : decode cX8_tokensOf 63 = .ok (.if_icmp .ne 7, 3) := by decide +kernel
theorem dX8_tokensOf_66 : decode cX8_tokensOf 66 = .ok (.iconst 1, 1) := by decide +kernel
theorem dX8_tokensOf_67 : decode cX8_tokensOf 67 = .ok (.goto 4, 3) := by decide +kernel
theorem dX8_tokensOf_70 : decode cX8_tokensOf 70 = .ok (.iconst 0, 1) := by decide +kernel
theorem dX8_tokensOf_71 : decode cX8_tokensOf 71 = .ok (.iadd, 1) := by decide +kernel
theorem dX8_tokensOf_72 : decode cX8_tokensOf 72 = .ok (.istore_n 2, 1) := by decide +kernel
theorem dX8_tokensOf_73 : decode cX8_tokensOf 73 = .ok (.iinc 3 1, 3) := by decide +kernel
theorem dX8_tokensOf_76 : decode cX8_tokensOf 76 = .ok (.goto (-59), 3) := by decide +kernel
theorem dX8_tokensOf_79 : decode cX8_tokensOf 79 = .ok (.iload_n 2, 1) := by decide +kernel
theorem dX8_tokensOf_80 : decode cX8_tokensOf 80 = .ok (.ireturn, 1) := by decide +kernel
theorem dX8_howMany_0 : decode cX8_howMany 0 = .ok (.iload_n 1, 1) := by decide +kernel
theorem dX8_howMany_1 : decode cX8_howMany 1 = .ok (.tableswitch 80 0 7 #[47, 52, 57, 57, 57, 65, 70, 75], 47) := by decide +kernel
theorem dX8_howMany_48 : decode cX8_howMany 48 = .ok (.aload_n 0, 1) := by decide +kernel
theorem dX8_howMany_49 : decode cX8_howMany 49 = .ok (.getfield 53, 3) := by decide +kernel
theorem dX8_howMany_52 : decode cX8_howMany 52 = .ok (.ireturn, 1) := by decide +kernel
theorem dX8_howMany_53 : decode cX8_howMany 53 = .ok (.aload_n 0, 1) := by decide +kernel
theorem dX8_howMany_54 : decode cX8_howMany 54 = .ok (.getfield 92, 3) := by decide +kernel
theorem dX8_howMany_57 : decode cX8_howMany 57 = .ok (.ireturn, 1) := by decide +kernel
theorem dX8_howMany_58 : decode cX8_howMany 58 = .ok (.aload_n 0, 1) := by decide +kernel
theorem dX8_howMany_59 : decode cX8_howMany 59 = .ok (.iload_n 1, 1) := by decide +kernel
theorem dX8_howMany_60 : decode cX8_howMany 60 = .ok (.iconst 2, 1) := by decide +kernel
theorem dX8_howMany_61 : decode cX8_howMany 61 = .ok (.isub, 1) := by decide +kernel
theorem dX8_howMany_62 : decode cX8_howMany 62 = .ok (.invokevirtual 184, 3) := by decide +kernel
theorem dX8_howMany_65 : decode cX8_howMany 65 = .ok (.ireturn, 1) := by decide +kernel
theorem dX8_howMany_66 : decode cX8_howMany 66 = .ok (.aload_n 0, 1) := by decide +kernel
theorem dX8_howMany_67 : decode cX8_howMany 67 = .ok (.getfield 175, 3) := by decide +kernel
theorem dX8_howMany_70 : decode cX8_howMany 70 = .ok (.ireturn, 1) := by decide +kernel
theorem dX8_howMany_71 : decode cX8_howMany 71 = .ok (.aload_n 0, 1) := by decide +kernel
theorem dX8_howMany_72 : decode cX8_howMany 72 = .ok (.getfield 95, 3) := by decide +kernel
theorem dX8_howMany_75 : decode cX8_howMany 75 = .ok (.ireturn, 1) := by decide +kernel
theorem dX8_howMany_76 : decode cX8_howMany 76 = .ok (.aload_n 0, 1) := by decide +kernel
theorem dX8_howMany_77 : decode cX8_howMany 77 = .ok (.getfield 98, 3) := by decide +kernel
theorem dX8_howMany_80 : decode cX8_howMany 80 = .ok (.ireturn, 1) := by decide +kernel
theorem dX8_howMany_81 : decode cX8_howMany 81 = .ok (.sipush (-1002), 3) := by decide +kernel
theorem dX8_howMany_84 : decode cX8_howMany 84 = .ok (.ireturn, 1) := by decide +kernel
theorem dX8_count_0 : decode cX8_count 0 = .ok (.aload_n 0, 1) := by decide +kernel
theorem dX8_count_1 : decode cX8_count 1 = .ok (.iload_n 1, 1) := by decide +kernel
theorem dX8_count_2 : decode cX8_count 2 = .ok (.invokevirtual 187, 3) := by decide +kernel
theorem dX8_count_5 : decode cX8_count 5 = .ok (.ireturn, 1) := by decide +kernel
theorem dX8_mix_0 : decode cX8_mix 0 = .ok (.aload_n 0, 1) := by decide +kernel
theorem dX8_mix_1 : decode cX8_mix 1 = .ok (.ldc2_w 190, 3) := by decide +kernel
theorem dX8_mix_4 : decode cX8_mix 4 = .ok (.aload_n 0, 1) := by decide +kernel
theorem dX8_mix_5 : decode cX8_mix 5 = .ok (.getfield 192, 3) := by decide +kernel
theorem dX8_mix_8 : decode cX8_mix 8 = .ok (.lmul, 1) := by decide +kernel
theorem dX8_mix_9 : decode cX8_mix 9 = .ok (.lload_n 1, 1) := by decide +kernel
theorem dX8_mix_10 : decode cX8_mix 10 = .ok (.ladd, 1) := by decide +kernel
theorem dX8_mix_11 : decode cX8_mix 11 = .ok (.putfield 192, 3) := by decide +kernel
theorem dX8_mix_14 : decode cX8_mix 14 = .ok (.return_, 1) := by decide +kernel
theorem dX8_mixText_0 : decode cX8_mixText 0 = .ok (.aload_n 0, 1) := by decide +kernel
theorem dX8_mixText_1 : decode cX8_mixText 1 = .ok (.invokevirtual 142, 3) := by decide +kernel
theorem dX8_mixText_4 : decode cX8_mixText 4 = .ok (.iconst 0, 1) := by decide +kernel
theorem dX8_mixText_5 : decode cX8_mixText 5 = .ok (.istore_n 1, 1) := by decide +kernel
theorem dX8_mixText_6 : decode cX8_mixText 6 = .ok (.iload_n 1, 1) := by decide +kernel
theorem dX8_mixText_7 : decode cX8_mixText 7 = .ok (.iconst 3, 1) := by decide +kernel
theorem dX8_mixText_8 : decode cX8_mixText 8 = .ok (.if_icmp .ge 19, 3) := by decide +kernel
theorem dX8_mixText_11 : decode cX8_mixText 11 = .ok (.aload_n 0, 1) := by decide +kernel
theorem dX8_mixText_12 : decode cX8_mixText 12 = .ok (.aload_n 0, 1) := by decide +kernel
theorem dX8_mixText_13 : decode cX8_mixText 13 = .ok (.iload_n 1, 1) := by decide +kernel
theorem dX8_mixText_14 : decode cX8_mixText 14 = .ok (.invokevirtual 145, 3) := by decide +kernel
theorem dX8_mixText_17 : decode cX8_mixText 17 = .ok (.i2l, 1) := by decide +kernel
theorem dX8_mixText_18 : decode cX8_mixText 18 = .ok (.invokevirtual 196, 3) := by decide +kernel
theorem dX8_mixText_21 : decode cX8_mixText 21 = .ok (.iinc 1 1, 3) := by decide +kernel
theorem dX8_mixText_24 : decode cX8_mixText 24 = .ok (.goto (-18), 3) := by decide +kernel
theorem dX8_mixText_27 : decode cX8_mixText 27 = .ok (.iconst 0, 1) := by decide +kernel
theorem dX8_mixText_28 : decode cX8_mixText 28 = .ok (.istore_n 1, 1) := by decide +kernel
theorem dX8_mixText_29 : decode cX8_mixText 29 = .ok (.iload_n 1, 1) := by decide +kernel
theorem dX8_mixText_30 : decode cX8_mixText 30 = .ok (.aload_n 0, 1) := by decide +kernel
theorem dX8_mixText_31 : decode cX8_mixText 31 = .ok (.getfield 133, 3) := by decide +kernel
theorem dX8_mixText_34 : decode cX8_mixText 34 = .ok (.if_icmp .ge 20, 3) := by decide +kernel
theorem dX8_mixText_37 : decode cX8_mixText 37 = .ok (.aload_n 0, 1) := by decide +kernel
theorem dX8_mixText_38 : decode cX8_mixText 38 = .ok (.aload_n 0, 1) := by decide +kernel
theorem dX8_mixText_39 : decode cX8_mixText 39 = .ok (.getfield 34, 3) := by decide +kernel
theorem dX8_mixText_42 : decode cX8_mixText 42 = .ok (.iload_n 1, 1) := by decide +kernel
theorem dX8_mixText_43 : decode cX8_mixText 43 = .ok (.iaload, 1) := by decide +kernel
theorem dX8_mixText_44 : decode cX8_mixText 44 = .ok (.i2l, 1) := by decide +kernel
theorem dX8_mixText_45 : decode cX8_mixText 45 = .ok (.invokevirtual 196, 3) := by decide +kernel
theorem dX8_mixText_48 : decode cX8_mixText 48 = .ok (.iinc 1 1, 3) := by decide +kernel
theorem dX8_mixText_51 : decode cX8_mixText 51 = .ok (.goto (-22), 3) := by decide +kernel
theorem dX8_mixText_54 : decode cX8_mixText 54 = .ok (.aload_n 0, 1) := by decide +kernel
theorem dX8_mixText_55 : decode cX8_mixText 55 = .ok (.aload_n 0, 1) := by decide +kernel
theorem dX8_mixText_56 : decode cX8_mixText 56 = .ok (.iconst 0, 1) := by decide +kernel
theorem dX8_mixText_57 : decode cX8_mixText 57 = .ok (.invokevirtual 151, 3) := by decide +kernel
theorem dX8_mixText_60 : decode cX8_mixText 60 = .ok (.i2l, 1) := by decide +kernel
theorem dX8_mixText_61 : decode cX8_mixText 61 = .ok (.invokevirtual 196, 3) := by decide +kernel
theorem dX8_mixText_64 : decode cX8_mixText 64 = .ok (.aload_n 0, 1) := by decide +kernel
theorem dX8_mixText_65 : decode cX8_mixText 65 = .ok (.aload_n 0, 1) := by decide +kernel
theorem dX8_mixText_66 : decode cX8_mixText 66 = .ok (.iconst 1, 1) := by decide +kernel
theorem dX8_mixText_67 : decode cX8_mixText 67 = .ok (.invokevirtual 151, 3) := by decide +kernel
theorem dX8_mixText_70 : decode cX8_mixText 70 = .ok (.i2l, 1) := by decide +kernel
theorem dX8_mixText_71 : decode cX8_mixText 71 = .ok (.invokevirtual 196, 3) := by decide +kernel
theorem dX8_mixText_74 : decode cX8_mixText 74 = .ok (.aload_n 0, 1) := by decide +kernel
theorem dX8_mixText_75 : decode cX8_mixText 75 = .ok (.invokevirtual 181, 3) := by decide +kernel
theorem dX8_mixText_78 : decode cX8_mixText 78 = .ok (.iconst 0, 1) := by decide +kernel
theorem dX8_mixText_79 : decode cX8_mixText 79 = .ok (.istore_n 1, 1) := by decide +kernel
theorem dX8_mixText_80 : decode cX8_mixText 80 = .ok (.iload_n 1, 1) := by decide +kernel
theorem dX8_mixText_81 : decode cX8_mixText 81 = .ok (.iconst 3, 1) := by decide +kernel
theorem dX8_mixText_82 : decode cX8_mixText 82 = .ok (.if_icmp .ge 20, 3) := by decide +kernel
theorem dX8_mixText_85 : decode cX8_mixText 85 = .ok (.aload_n 0, 1) := by decide +kernel
theorem dX8_mixText_86 : decode cX8_mixText 86 = .ok (.aload_n 0, 1) := by decide +kernel
theorem dX8_mixText_87 : decode cX8_mixText 87 = .ok (.getfield 46, 3) := by decide +kernel
theorem dX8_mixText_90 : decode cX8_mixText 90 = .ok (.iload_n 1, 1) := by decide +kernel
theorem dX8_mixText_91 : decode cX8_mixText 91 = .ok (.iaload, 1) := by decide +kernel
theorem dX8_mixText_92 : decode cX8_mixText 92 = .ok (.i2l, 1) := by decide +kernel
theorem dX8_mixText_93 : decode cX8_mixText 93 = .ok (.invokevirtual 196, 3) := by decide +kernel
theorem dX8_mixText_96 : decode cX8_mixText 96 = .ok (.iinc 1 1, 3) := by decide +kernel
theorem dX8_mixText_99 : decode cX8_mixText 99 = .ok (.goto (-19), 3) := by decide +kernel
theorem dX8_mixText_102 : decode cX8_mixText 102 = .ok (.aload_n 0, 1) := by decide +kernel
theorem dX8_mixText_103 : decode cX8_mixText 103 = .ok (.aload_n 0, 1) := by decide +kernel
theorem dX8_mixText_104 : decode cX8_mixText 104 = .ok (.iconst 4, 1) := by decide +kernel
theorem dX8_mixText_105 : decode cX8_mixText 105 = .ok (.iconst 0, 1) := by decide +kernel
theorem dX8_mixText_106 : decode cX8_mixText 106 = .ok (.invokevirtual 157, 3) := by decide +kernel
theorem dX8_mixText_109 : decode cX8_mixText 109 = .ok (.i2l, 1) := by decide +kernel
theorem dX8_mixText_110 : decode cX8_mixText 110 = .ok (.invokevirtual 196, 3) := by decide +kernel
theorem dX8_mixText_113 : decode cX8_mixText 113 = .ok (.aload_n 0, 1) := by decide +kernel
theorem dX8_mixText_114 : decode cX8_mixText 114 = .ok (.aload_n 0, 1) := by decide +kernel
theorem dX8_mixText_115 : decode cX8_mixText 115 = .ok (.bipush 10, 2) := by decide +kernel
theorem dX8_mixText_117 : decode cX8_mixText 117 = .ok (.iconst 0, 1) := by decide +kernel
theorem dX8_mixText_118 : decode cX8_mixText 118 = .ok (.invokevirtual 157, 3) := by decide +kernel
theorem dX8_mixText_121 : decode cX8_mixText 121 = .ok (.i2l, 1) := by decide +kernel
theorem dX8_mixText_122 : decode cX8_mixText 122 = .ok (.invokevirtual 196, 3) := by decide +kernel
theorem dX8_mixText_125 : decode cX8_mixText 125 = .ok (.return_, 1) := by decide +kernel
theorem dX8_digest_0 : decode cX8_digest 0 = .ok (.aload_n 0, 1) := by decide +kernel
theorem dX8_digest_1 : decode cX8_digest 1 = .ok (.ldc2_w 200, 3) := by decide +kernel
theorem dX8_digest_4 : decode cX8_digest 4 = .ok (.putfield 192, 3) := by decide +kernel
theorem dX8_digest_7 : decode cX8_digest 7 = .ok (.iconst 0, 1) := by decide +kernel
theorem dX8_digest_8 : decode cX8_digest 8 = .ok (.istore_n 1, 1) := by decide +kernel
theorem dX8_digest_9 : decode cX8_digest 9 = .ok (.iload_n 1, 1) := by decide +kernel
theorem dX8_digest_10 : decode cX8_digest 10 = .ok (.bipush 18, 2) := by decide +kernel
theorem dX8_digest_12 : decode cX8_digest 12 = .ok (.if_icmp .ge 20, 3) := by decide +kernel
theorem dX8_digest_15 : decode cX8_digest 15 = .ok (.aload_n 0, 1) := by decide +kernel
theorem dX8_digest_16 : decode cX8_digest 16 = .ok (.aload_n 0, 1) := by decide +kernel
theorem dX8_digest_17 : decode cX8_digest 17 = .ok (.getfield 16, 3) := by decide +kernel
theorem dX8_digest_20 : decode cX8_digest 20 = .ok (.iload_n 1, 1) := by decide +kernel
theorem dX8_digest_21 : decode cX8_digest 21 = .ok (.iaload, 1) := by decide +kernel
theorem dX8_digest_22 : decode cX8_digest 22 = .ok (.i2l, 1) := by decide +kernel
theorem dX8_digest_23 : decode cX8_digest 23 = .ok (.invokevirtual 196, 3) := by decide +kernel
theorem dX8_digest_26 : decode cX8_digest 26 = .ok (.iinc 1 1, 3) := by decide +kernel
theorem dX8_digest_29 : decode cX8_digest 29 = .ok (.goto (-20), 3) := by decide +kernel
theorem dX8_digest_32 : decode cX8_digest 32 = .ok (.iconst 0, 1) := by decide +kernel
theorem dX8_digest_33 : decode cX8_digest 33 = .ok (.istore_n 1, 1) := by decide +kernel
theorem dX8_digest_34 : decode cX8_digest 34 = .ok (.iload_n 1, 1) := by decide +kernel
theorem dX8_digest_35 : decode cX8_digest 35 = .ok (.aload_n 0, 1) := by decide +kernel
theorem dX8_digest_36 : decode cX8_digest 36 = .ok (.getfield 92, 3) := by decide +kernel
theorem dX8_digest_39 : decode cX8_digest 39 = .ok (.if_icmp .ge 64, 3) := by decide +kernel
theorem dX8_digest_42 : decode cX8_digest 42 = .ok (.aload_n 0, 1) := by decide +kernel
theorem dX8_digest_43 : decode cX8_digest 43 = .ok (.aload_n 0, 1) := by decide +kernel
theorem dX8_digest_44 : decode cX8_digest 44 = .ok (.getfield 13, 3) := by decide +kernel
theorem dX8_digest_47 : decode cX8_digest 47 = .ok (.iload_n 1, 1) := by decide +kernel
theorem dX8_digest_48 : decode cX8_digest 48 = .ok (.iaload, 1) := by decide +kernel
theorem dX8_digest_49 : decode cX8_digest 49 = .ok (.i2l, 1) := by decide +kernel
theorem dX8_digest_50 : decode cX8_digest 50 = .ok (.invokevirtual 196, 3) := by decide +kernel
theorem dX8_digest_53 : decode cX8_digest 53 = .ok (.aload_n 0, 1) := by decide +kernel
theorem dX8_digest_54 : decode cX8_digest 54 = .ok (.aload_n 0, 1) := by decide +kernel
theorem dX8_digest_55 : decode cX8_digest 55 = .ok (.iload_n 1, 1) := by decide +kernel
theorem dX8_digest_56 : decode cX8_digest 56 = .ok (.iconst 0, 1) := by decide +kernel
theorem dX8_digest_57 : decode cX8_digest 57 = .ok (.invokevirtual 115, 3) := by decide +kernel
theorem dX8_digest_60 : decode cX8_digest 60 = .ok (.i2l, 1) := by decide +kernel
theorem dX8_digest_61 : decode cX8_digest 61 = .ok (.invokevirtual 196, 3) := by decide +kernel
theorem dX8_digest_64 : decode cX8_digest 64 = .ok (.aload_n 0, 1) := by decide +kernel
theorem dX8_digest_65 : decode cX8_digest 65 = .ok (.aload_n 0, 1) := by decide +kernel
theorem dX8_digest_66 : decode cX8_digest 66 = .ok (.iload_n 1, 1) := by decide +kernel
theorem dX8_digest_67 : decode cX8_digest 67 = .ok (.iconst 1, 1) := by decide +kernel
theorem dX8_digest_68 : decode cX8_digest 68 = .ok (.invokevirtual 115, 3) := by decide +kernel
theorem dX8_digest_71 : decode cX8_digest 71 = .ok (.i2l, 1) := by decide +kernel
theorem dX8_digest_72 : decode cX8_digest 72 = .ok (.invokevirtual 196, 3) := by decide +kernel
theorem dX8_digest_75 : decode cX8_digest 75 = .ok (.aload_n 0, 1) := by decide +kernel
theorem dX8_digest_76 : decode cX8_digest 76 = .ok (.aload_n 0, 1) := by decide +kernel
theorem dX8_digest_77 : decode cX8_digest 77 = .ok (.iload_n 1, 1) := by decide +kernel
theorem dX8_digest_78 : decode cX8_digest 78 = .ok (.iconst 0, 1) := by decide +kernel
theorem dX8_digest_79 : decode cX8_digest 79 = .ok (.invokevirtual 118, 3) := by decide +kernel
theorem dX8_digest_82 : decode cX8_digest 82 = .ok (.i2l, 1) := by decide +kernel
theorem dX8_digest_83 : decode cX8_digest 83 = .ok (.invokevirtual 196, 3) := by decide +kernel
theorem dX8_digest_86 : decode cX8_digest 86 = .ok (.aload_n 0, 1) := by decide +kernel
theorem dX8_digest_87 : decode cX8_digest 87 = .ok (.aload_n 0, 1) := by decide +kernel
theorem dX8_digest_88 : decode cX8_digest 88 = .ok (.iload_n 1, 1) := by decide +kernel
theorem dX8_digest_89 : decode cX8_digest 89 = .ok (.iconst 1, 1) := by decide +kernel
theorem dX8_digest_90 : decode cX8_digest 90 = .ok (.invokevirtual 118, 3) := by decide +kernel
theorem dX8_digest_93 : decode cX8_digest 93 = .ok (.i2l, 1) := by decide +kernel
theorem dX8_digest_94 : decode cX8_digest 94 = .ok (.invokevirtual 196, 3) := by decide +kernel
theorem dX8_digest_97 : decode cX8_digest 97 = .ok (.iinc 1 1, 3) := by decide +kernel
theorem dX8_digest_100 : decode cX8_digest 100 = .ok (.goto (-66), 3) := by decide +kernel
theorem dX8_digest_103 : decode cX8_digest 103 = .ok (.aload_n 0, 1) := by decide +kernel
theorem dX8_digest_104 : decode cX8_digest 104 = .ok (.getfield 92, 3) := by decide +kernel
theorem dX8_digest_107 : decode cX8_digest 107 = .ok (.ifCond .le 7, 3) := by decide +kernel
theorem dX8_digest_110 : decode cX8_digest 110 = .ok (.aload_n 0, 1) := by decide +kernel
theorem dX8_digest_111 : decode cX8_digest 111 = .ok (.invokevirtual 202, 3) := by decide +kernel
theorem dX8_digest_114 : decode cX8_digest 114 = .ok (.iconst 0, 1) := by decide +kernel
theorem dX8_digest_115 : decode cX8_digest 115 = .ok (.istore_n 1, 1) := by decide +kernel
theorem dX8_digest_116 : decode cX8_digest 116 = .ok (.iload_n 1, 1) := by decide +kernel
theorem dX8_digest_117 : decode cX8_digest 117 = .ok (.aload_n 0, 1) := by decide +kernel
theorem dX8_digest_118 : decode cX8_digest 118 = .ok (.getfield 53, 3) := by decide +kernel
theorem dX8_digest_121 : decode cX8_digest 121 = .ok (.if_icmp .ge 20, 3) := by decide +kernel
theorem dX8_digest_124 : decode cX8_digest 124 = .ok (.aload_n 0, 1) := by decide +kernel
theorem dX8_digest_125 : decode cX8_digest 125 = .ok (.aload_n 0, 1) := by decide +kernel
theorem dX8_digest_126 : decode cX8_digest 126 = .ok (.getfield 7, 3) := by decide +kernel
theorem dX8_digest_129 : decode cX8_digest 129 = .ok (.iload_n 1, 1) := by decide +kernel
theorem dX8_digest_130 : decode cX8_digest 130 = .ok (.iaload, 1) := by decide +kernel
theorem dX8_digest_131 : decode cX8_digest 131 = .ok (.i2l, 1) := by decide +kernel
theorem dX8_digest_132 : decode cX8_digest 132 = .ok (.invokevirtual 196, 3) := by decide +kernel
theorem dX8_digest_135 : decode cX8_digest 135 = .ok (.iinc 1 1, 3) := by decide +kernel
theorem dX8_digest_138 : decode cX8_digest 138 = .ok (.goto (-22), 3) := by decide +kernel
theorem dX8_digest_141 : decode cX8_digest 141 = .ok (.iconst 0, 1) := by decide +kernel
theorem dX8_digest_142 : decode cX8_digest 142 = .ok (.istore_n 1, 1) := by decide +kernel
theorem dX8_digest_143 : decode cX8_digest 143 = .ok (.iload_n 1, 1) := by decide +kernel
theorem dX8_digest_144 : decode cX8_digest 144 = .ok (.bipush 8, 2) := by decide +kernel
theorem dX8_digest_146 : decode cX8_digest 146 = .ok (.if_icmp .ge 19, 3) := by decide +kernel
theorem dX8_digest_149 : decode cX8_digest 149 = .ok (.aload_n 0, 1) := by decide +kernel
theorem dX8_digest_150 : decode cX8_digest 150 = .ok (.aload_n 0, 1) := by decide +kernel
theorem dX8_digest_151 : decode cX8_digest 151 = .ok (.iload_n 1, 1) := by decide +kernel
theorem dX8_digest_152 : decode cX8_digest 152 = .ok (.invokevirtual 187, 3) := by decide +kernel
theorem dX8_digest_155 : decode cX8_digest 155 = .ok (.i2l, 1) := by decide +kernel
theorem dX8_digest_156 : decode cX8_digest 156 = .ok (.invokevirtual 196, 3) := by decide +kernel
theorem dX8_digest_159 : decode cX8_digest 159 = .ok (.iinc 1 1, 3) := by decide +kernel
theorem dX8_digest_162 : decode cX8_digest 162 = .ok (.goto (-19), 3) := by decide +kernel
theorem dX8_digest_165 : decode cX8_digest 165 = .ok (.aload_n 0, 1) := by decide +kernel
theorem dX8_digest_166 : decode cX8_digest 166 = .ok (.getfield 192, 3) := by decide +kernel
theorem dX8_digest_169 : decode cX8_digest 169 = .ok (.lreturn, 1) := by decide +kernel
theorem dL_law_0 : decode cL_law 0 = .ok (.new 7, 3) := by decide +kernel
theorem dL_law_3 : decode cL_law 3 = .ok (.dup, 1) := by decide +kernel
theorem dL_law_4 : decode cL_law 4 = .ok (.invokespecial 9, 3) := by decide +kernel
theorem dL_law_7 : decode cL_law 7 = .ok (.astore_n 1, 1) := by decide +kernel
theorem dL_law_8 : decode cL_law 8 = .ok (.new 10, 3) := by decide +kernel
theorem dL_law_11 : decode cL_law 11 = .ok (.dup, 1) := by decide +kernel
theorem dL_law_12 : decode cL_law 12 = .ok (.invokespecial 12, 3) := by decide +kernel
theorem dL_law_15 : decode cL_law 15 = .ok (.astore_n 2, 1) := by decide +kernel
theorem dL_law_16 : decode cL_law 16 = .ok (.iconst 0, 1) := by decide +kernel
theorem dL_law_17 : decode cL_law 17 = .ok (.istore_n 3, 1) := by decide +kernel
theorem dL_law_18 : decode cL_law 18 = .ok (.iload_n 3, 1) := by decide +kernel
theorem dL_law_19 : decode cL_law 19 = .ok (.aload_n 0, 1) := by decide +kernel
theorem dL_law_20 : decode cL_law 20 = .ok (.arraylength, 1) := by decide +kernel
theorem dL_law_21 : decode cL_law 21 = .ok (.iconst 3, 1) := by decide +kernel
theorem dL_law_22 : decode cL_law 22 = .ok (.isub, 1) := by decide +kernel
theorem dL_law_23 : decode cL_law 23 = .ok (.if_icmp .gt 541, 3) := by decide +kernel
theorem dL_law_26 : decode cL_law 26 = .ok (.aload_n 0, 1) := by decide +kernel
theorem dL_law_27 : decode cL_law 27 = .ok (.iload_n 3, 1) := by decide +kernel
theorem dL_law_28 : decode cL_law 28 = .ok (.iaload, 1) := by decide +kernel
theorem dL_law_29 : decode cL_law 29 = .ok (.bipush 31, 2) := by decide +kernel
theorem dL_law_31 : decode cL_law 31 = .ok (.iand, 1) := by decide +kernel
theorem dL_law_32 : decode cL_law 32 = .ok (.tableswitch 526 0 18 #[92, 115, 128, 167, 180, 193, 206, 239, 262, 275, 298, 321, 354, 387, 410, 433, 456, 489, 512], 92) := by decide +kernel
theorem dL_law_124 : decode cL_law 124 = .ok (.aload_n 1, 1) := by decide +kernel
theorem dL_law_125 : decode cL_law 125 = .ok (.aload_n 0, 1) := by decide +kernel
theorem dL_law_126 : decode cL_law 126 = .ok (.iload_n 3, 1) := by decide +kernel
theorem dL_law_127 : decode cL_law 127 = .ok (.iconst 1, 1) := by decide +kernel
theorem dL_law_128 : decode cL_law 128 = .ok (.iadd, 1) := by decide +kernel
theorem dL_law_129 : decode cL_law 129 = .ok (.iaload, 1) := by decide +kernel
theorem dL_law_130 : decode cL_law 130 = .ok (.invokevirtual 13, 3) := by decide +kernel
theorem dL_law_133 : decode cL_law 133 = .ok (.aload_n 2, 1) := by decide +kernel
theorem dL_law_134 : decode cL_law 134 = .ok (.aload_n 0, 1) := by decide +kernel
theorem dL_law_135 : decode cL_law 135 = .ok (.iload_n 3, 1) := by decide +kernel
theorem dL_law_136 : decode cL_law 136 = .ok (.iconst 1, 1) := by decide +kernel
theorem dL_law_137 : decode cL_law 137 = .ok (.iadd, 1) := by decide +kernel
theorem dL_law_138 : decode cL_law 138 = .ok (.iaload, 1) := by decide +kernel
theorem dL_law_139 : decode cL_law 139 = .ok (.invokevirtual 17, 3) := by decide +kernel
theorem dL_law_142 : decode cL_law 142 = .ok (.if_icmp .eq 416, 3) := by decide +kernel
theorem dL_law_145 : decode cL_law 145 = .ok (.iconst 0, 1) := by decide +kernel
theorem dL_law_146 : decode cL_law 146 = .ok (.ireturn, 1) := by decide +kernel
theorem dL_law_147 : decode cL_law 147 = .ok (.aload_n 1, 1) := by decide +kernel
theorem dL_law_148 : decode cL_law 148 = .ok (.invokevirtual 18, 3) := by decide +kernel
theorem dL_law_151 : decode cL_law 151 = .ok (.aload_n 2, 1) := by decide +kernel
theorem dL_law_152 : decode cL_law 152 = .ok (.invokevirtual 22, 3) := by decide +kernel
theorem dL_law_155 : decode cL_law 155 = .ok (.if_icmp .eq 403, 3) := by decide +kernel
theorem dL_law_158 : decode cL_law 158 = .ok (.iconst 0, 1) := by decide +kernel
theorem dL_law_159 : decode cL_law 159 = .ok (.ireturn, 1) := by decide +kernel
theorem dL_law_160 : decode cL_law 160 = .ok (.aload_n 1, 1) := by decide +kernel
theorem dL_law_161 : decode cL_law 161 = .ok (.aload_n 0, 1) := by decide +kernel
theorem dL_law_162 : decode cL_law 162 = .ok (.iload_n 3, 1) := by decide +kernel
theorem dL_law_163 : decode cL_law 163 = .ok (.iconst 1, 1) := by decide +kernel
theorem dL_law_164 : decode cL_law 164 = .ok (.iadd, 1) := by decide +kernel
theorem dL_law_165 : decode cL_law 165 = .ok (.iaload, 1) := by decide +kernel
theorem dL_law_166 : decode cL_law 166 = .ok (.ifCond .eq 7, 3) := by decide +kernel
theorem dL_law_169 : decode cL_law 169 = .ok (.iconst 1, 1) := by decide +kernel
theorem dL_law_170 : decode cL_law 170 = .ok (.goto 4, 3) := by decide +kernel
theorem dL_law_173 : decode cL_law 173 = .ok (.iconst 0, 1) := by decide +kernel
theorem dL_law_174 : decode cL_law 174 = .ok (.invokevirtual 23, 3) := by decide +kernel
theorem dL_law_177 : decode cL_law 177 = .ok (.aload_n 2, 1) := by decide +kernel
theorem dL_law_178 : decode cL_law 178 = .ok (.aload_n 0, 1) := by decide +kernel
theorem dL_law_179 : decode cL_law 179 = .ok (.iload_n 3, 1) := by decide +kernel
theorem dL_law_180 : decode cL_law 180 = .ok (.iconst 1, 1) := by decide +kernel
theorem dL_law_181 : decode cL_law 181 = .ok (.iadd, 1) := by decide +kernel
theorem dL_law_182 : decode cL_law 182 = .ok (.iaload, 1) := by decide +kernel
theorem dL_law_183 : decode cL_law 183 = .ok (.ifCond .eq 7, 3) := by decide +kernel
theorem dL_law_186 : decode cL_law 186 = .ok (.iconst 1, 1) := by decide +kernel
theorem dL_law_187 : decode cL_law 187 = .ok (.goto 4, 3) := by decide +kernel
theorem dL_law_190 : decode cL_law 190 = .ok (.iconst 0, 1) := by decide +kernel
theorem dL_law_191 : decode cL_law 191 = .ok (.invokevirtual 27, 3) := by decide +kernel
theorem dL_law_194 : decode cL_law 194 = .ok (.if_icmp .eq 364, 3) := by decide +kernel
theorem dL_law_197 : decode cL_law 197 = .ok (.iconst 0, 1) := by decide +kernel
theorem dL_law_198 : decode cL_law 198 = .ok (.ireturn, 1) := by decide +kernel
theorem dL_law_199 : decode cL_law 199 = .ok (.aload_n 1, 1) := by decide +kernel
theorem dL_law_200 : decode cL_law 200 = .ok (.invokevirtual 28, 3) := by decide +kernel
theorem dL_law_203 : decode cL_law 203 = .ok (.aload_n 2, 1) := by decide +kernel
theorem dL_law_204 : decode cL_law 204 = .ok (.invokevirtual 31, 3) := by decide +kernel
theorem dL_law_207 : decode cL_law 207 = .ok (.if_icmp .eq 351, 3) := by decide +kernel
theorem dL_law_210 : decode cL_law 210 = .ok (.iconst 0, 1) := by decide +kernel
theorem dL_law_211 : decode cL_law 211 = .ok (.ireturn, 1) := by decide +kernel
theorem dL_law_212 : decode cL_law 212 = .ok (.aload_n 1, 1) := by decide +kernel
theorem dL_law_213 : decode cL_law 213 = .ok (.invokevirtual 32, 3) := by decide +kernel
theorem dL_law_216 : decode cL_law 216 = .ok (.aload_n 2, 1) := by decide +kernel
theorem dL_law_217 : decode cL_law 217 = .ok (.invokevirtual 35, 3) := by decide +kernel
theorem dL_law_220 : decode cL_law 220 = .ok (.if_icmp .eq 338, 3) := by decide +kernel
theorem dL_law_223 : decode cL_law 223 = .ok (.iconst 0, 1) := by decide +kernel
theorem dL_law_224 : decode cL_law 224 = .ok (.ireturn, 1) := by decide +kernel
theorem dL_law_225 : decode cL_law 225 = .ok (.aload_n 1, 1) := by decide +kernel
theorem dL_law_226 : decode cL_law 226 = .ok (.invokevirtual 36, 3) := by decide +kernel
theorem dL_law_229 : decode cL_law 229 = .ok (.aload_n 2, 1) := by decide +kernel
theorem dL_law_230 : decode cL_law 230 = .ok (.invokevirtual 39, 3) := by decide +kernel
theorem dL_law_233 : decode cL_law 233 = .ok (.if_icmp .eq 325, 3) := by decide +kernel
theorem dL_law_236 : decode cL_law 236 = .ok (.iconst 0, 1) := by decide +kernel
theorem dL_law_237 : decode cL_law 237 = .ok (.ireturn, 1) := by decide +kernel
theorem dL_law_238 : decode cL_law 238 = .ok (.aload_n 1, 1) := by decide +kernel
theorem dL_law_239 : decode cL_law 239 = .ok (.aload_n 0, 1) := by decide +kernel
theorem dL_law_240 : decode cL_law 240 = .ok (.iload_n 3, 1) := by decide +kernel
theorem dL_law_241 : decode cL_law 241 = .ok (.iconst 1, 1) := by decide +kernel
theorem dL_law_242 : decode cL_law 242 = .ok (.iadd, 1) := by decide +kernel
theorem dL_law_243 : decode cL_law 243 = .ok (.iaload, 1) := by decide +kernel
theorem dL_law_244 : decode cL_law 244 = .ok (.aload_n 0, 1) := by decide +kernel
theorem dL_law_245 : decode cL_law 245 = .ok (.iload_n 3, 1) := by decide +kernel
theorem dL_law_246 : decode cL_law 246 = .ok (.iconst 2, 1) := by decide +kernel
theorem dL_law_247 : decode cL_law 247 = .ok (.iadd, 1) := by decide +kernel
theorem dL_law_248 : decode cL_law 248 = .ok (.iaload, 1) := by decide +kernel
theorem dL_law_249 : decode cL_law 249 = .ok (.invokevirtual 40, 3) := by decide +kernel
theorem dL_law_252 : decode cL_law 252 = .ok (.aload_n 2, 1) := by decide +kernel
theorem dL_law_253 : decode cL_law 253 = .ok (.aload_n 0, 1) := by decide +kernel
theorem dL_law_254 : decode cL_law 254 = .ok (.iload_n 3, 1) := by decide +kernel
theorem dL_law_255 : decode cL_law 255 = .ok (.iconst 1, 1) := by decide +kernel
theorem dL_law_256 : decode cL_law 256 = .ok (.iadd, 1) := by decide +kernel
theorem dL_law_257 : decode cL_law 257 = .ok (.iaload, 1) := by decide +kernel
theorem dL_law_258 : decode cL_law 258 = .ok (.aload_n 0, 1) := by decide +kernel
theorem dL_law_259 : decode cL_law 259 = .ok (.iload_n 3, 1) := by decide +kernel
theorem dL_law_260 : decode cL_law 260 = .ok (.iconst 2, 1) := by decide +kernel
theorem dL_law_261 : decode cL_law 261 = .ok (.iadd, 1) := by decide +kernel
theorem dL_law_262 : decode cL_law 262 = .ok (.iaload, 1) := by decide +kernel
theorem dL_law_263 : decode cL_law 263 = .ok (.invokevirtual 44, 3) := by decide +kernel
theorem dL_law_266 : decode cL_law 266 = .ok (.if_icmp .eq 292, 3) := by decide +kernel
theorem dL_law_269 : decode cL_law 269 = .ok (.iconst 0, 1) := by decide +kernel
theorem dL_law_270 : decode cL_law 270 = .ok (.ireturn, 1) := by decide +kernel
theorem dL_law_271 : decode cL_law 271 = .ok (.aload_n 1, 1) := by decide +kernel
theorem dL_law_272 : decode cL_law 272 = .ok (.aload_n 0, 1) := by decide +kernel
theorem dL_law_273 : decode cL_law 273 = .ok (.iload_n 3, 1) := by decide +kernel
theorem dL_law_274 : decode cL_law 274 = .ok (.iconst 1, 1) := by decide +kernel
theorem dL_law_275 : decode cL_law 275 = .ok (.iadd, 1) := by decide +kernel
theorem dL_law_276 : decode cL_law 276 = .ok (.iaload, 1) := by decide +kernel
theorem dL_law_277 : decode cL_law 277 = .ok (.invokevirtual 45, 3) := by decide +kernel
theorem dL_law_280 : decode cL_law 280 = .ok (.aload_n 2, 1) := by decide +kernel
theorem dL_law_281 : decode cL_law 281 = .ok (.aload_n 0, 1) := by decide +kernel
theorem dL_law_282 : decode cL_law 282 = .ok (.iload_n 3, 1) := by decide +kernel
theorem dL_law_283 : decode cL_law 283 = .ok (.iconst 1, 1) := by decide +kernel
theorem dL_law_284 : decode cL_law 284 = .ok (.iadd, 1) := by decide +kernel
theorem dL_law_285 : decode cL_law 285 = .ok (.iaload, 1) := by decide +kernel
theorem dL_law_286 : decode cL_law 286 = .ok (.invokevirtual 48, 3) := by decide +kernel
theorem dL_law_289 : decode cL_law 289 = .ok (.if_icmp .eq 269, 3) := by decide +kernel
theorem dL_law_292 : decode cL_law 292 = .ok (.iconst 0, 1) := by decide +kernel
theorem dL_law_293 : decode cL_law 293 = .ok (.ireturn, 1) := by decide +kernel
theorem dL_law_294 : decode cL_law 294 = .ok (.aload_n 1, 1) := by decide +kernel
theorem dL_law_295 : decode cL_law 295 = .ok (.invokevirtual 49, 3) := by decide +kernel
theorem dL_law_298 : decode cL_law 298 = .ok (.aload_n 2, 1) := by decide +kernel
theorem dL_law_299 : decode cL_law 299 = .ok (.invokevirtual 52, 3) := by decide +kernel
theorem dL_law_302 : decode cL_law 302 = .ok (.if_icmp .eq 256, 3) := by decide +kernel
theorem dL_law_305 : decode cL_law 305 = .ok (.iconst 0, 1) := by decide +kernel
theorem dL_law_306 : decode cL_law 306 = .ok (.ireturn, 1) := by decide +kernel
theorem dL_law_307 : decode cL_law 307 = .ok (.aload_n 1, 1) := by decide +kernel
theorem dL_law_308 : decode cL_law 308 = .ok (.aload_n 0, 1) := by decide +kernel
theorem dL_law_309 : decode cL_law 309 = .ok (.iload_n 3, 1) := by decide +kernel
theorem dL_law_310 : decode cL_law 310 = .ok (.iconst 1, 1) := by decide +kernel
theorem dL_law_311 : decode cL_law 311 = .ok (.iadd, 1) := by decide +kernel
theorem dL_law_312 : decode cL_law 312 = .ok (.iaload, 1) := by decide +kernel
theorem dL_law_313 : decode cL_law 313 = .ok (.invokevirtual 53, 3) := by decide +kernel
theorem dL_law_316 : decode cL_law 316 = .ok (.aload_n 2, 1) := by decide +kernel
theorem dL_law_317 : decode cL_law 317 = .ok (.aload_n 0, 1) := by decide +kernel
theorem dL_law_318 : decode cL_law 318 = .ok (.iload_n 3, 1) := by decide +kernel
theorem dL_law_319 : decode cL_law 319 = .ok (.iconst 1, 1) := by decide +kernel
theorem dL_law_320 : decode cL_law 320 = .ok (.iadd, 1) := by decide +kernel
theorem dL_law_321 : decode cL_law 321 = .ok (.iaload, 1) := by decide +kernel
theorem dL_law_322 : decode cL_law 322 = .ok (.invokevirtual 56, 3) := by decide +kernel
theorem dL_law_325 : decode cL_law 325 = .ok (.if_icmp .eq 233, 3) := by decide +kernel
theorem dL_law_328 : decode cL_law 328 = .ok (.iconst 0, 1) := by decide +kernel
theorem dL_law_329 : decode cL_law 329 = .ok (.ireturn, 1) := by decide +kernel
theorem dL_law_330 : decode cL_law 330 = .ok (.aload_n 1, 1) := by decide +kernel
theorem dL_law_331 : decode cL_law 331 = .ok (.aload_n 0, 1) := by decide +kernel
theorem dL_law_332 : decode cL_law 332 = .ok (.iload_n 3, 1) := by decide +kernel
theorem dL_law_333 : decode cL_law 333 = .ok (.iconst 1, 1) := by decide +kernel
theorem dL_law_334 : decode cL_law 334 = .ok (.iadd, 1) := by decide +kernel
theorem dL_law_335 : decode cL_law 335 = .ok (.iaload, 1) := by decide +kernel
theorem dL_law_336 : decode cL_law 336 = .ok (.invokevirtual 57, 3) := by decide +kernel
theorem dL_law_339 : decode cL_law 339 = .ok (.aload_n 2, 1) := by decide +kernel
theorem dL_law_340 : decode cL_law 340 = .ok (.aload_n 0, 1) := by decide +kernel
theorem dL_law_341 : decode cL_law 341 = .ok (.iload_n 3, 1) := by decide +kernel
theorem dL_law_342 : decode cL_law 342 = .ok (.iconst 1, 1) := by decide +kernel
theorem dL_law_343 : decode cL_law 343 = .ok (.iadd, 1) := by decide +kernel
theorem dL_law_344 : decode cL_law 344 = .ok (.iaload, 1) := by decide +kernel
theorem dL_law_345 : decode cL_law 345 = .ok (.invokevirtual 60, 3) := by decide +kernel
theorem dL_law_348 : decode cL_law 348 = .ok (.if_icmp .eq 210, 3) := by decide +kernel
theorem dL_law_351 : decode cL_law 351 = .ok (.iconst 0, 1) := by decide +kernel
theorem dL_law_352 : decode cL_law 352 = .ok (.ireturn, 1) := by decide +kernel
theorem dL_law_353 : decode cL_law 353 = .ok (.aload_n 1, 1) := by decide +kernel
theorem dL_law_354 : decode cL_law 354 = .ok (.aload_n 0, 1) := by decide +kernel
theorem dL_law_355 : decode cL_law 355 = .ok (.iload_n 3, 1) := by decide +kernel
theorem dL_law_356 : decode cL_law 356 = .ok (.iconst 1, 1) := by decide +kernel
theorem dL_law_357 : decode cL_law 357 = .ok (.iadd, 1) := by decide +kernel
theorem dL_law_358 : decode cL_law 358 = .ok (.iaload, 1) := by decide +kernel
theorem dL_law_359 : decode cL_law 359 = .ok (.aload_n 0, 1) := by decide +kernel
theorem dL_law_360 : decode cL_law 360 = .ok (.iload_n 3, 1) := by decide +kernel
theorem dL_law_361 : decode cL_law 361 = .ok (.iconst 2, 1) := by decide +kernel
theorem dL_law_362 : decode cL_law 362 = .ok (.iadd, 1) := by decide +kernel
theorem dL_law_363 : decode cL_law 363 = .ok (.iaload, 1) := by decide +kernel
theorem dL_law_364 : decode cL_law 364 = .ok (.invokevirtual 61, 3) := by decide +kernel
theorem dL_law_367 : decode cL_law 367 = .ok (.aload_n 2, 1) := by decide +kernel
theorem dL_law_368 : decode cL_law 368 = .ok (.aload_n 0, 1) := by decide +kernel
theorem dL_law_369 : decode cL_law 369 = .ok (.iload_n 3, 1) := by decide +kernel
theorem dL_law_370 : decode cL_law 370 = .ok (.iconst 1, 1) := by decide +kernel
theorem dL_law_371 : decode cL_law 371 = .ok (.iadd, 1) := by decide +kernel
theorem dL_law_372 : decode cL_law 372 = .ok (.iaload, 1) := by decide +kernel
theorem dL_law_373 : decode cL_law 373 = .ok (.aload_n 0, 1) := by decide +kernel
theorem dL_law_374 : decode cL_law 374 = .ok (.iload_n 3, 1) := by decide +kernel
theorem dL_law_375 : decode cL_law 375 = .ok (.iconst 2, 1) := by decide +kernel
theorem dL_law_376 : decode cL_law 376 = .ok (.iadd, 1) := by decide +kernel
theorem dL_law_377 : decode cL_law 377 = .ok (.iaload, 1) := by decide +kernel
theorem dL_law_378 : decode cL_law 378 = .ok (.invokevirtual 64, 3) := by decide +kernel
theorem dL_law_381 : decode cL_law 381 = .ok (.if_icmp .eq 177, 3) := by decide +kernel
theorem dL_law_384 : decode cL_law 384 = .ok (.iconst 0, 1) := by decide +kernel
theorem dL_law_385 : decode cL_law 385 = .ok (.ireturn, 1) := by decide +kernel
theorem dL_law_386 : decode cL_law 386 = .ok (.aload_n 1, 1) := by decide +kernel
theorem dL_law_387 : decode cL_law 387 = .ok (.aload_n 0, 1) := by decide +kernel
theorem dL_law_388 : decode cL_law 388 = .ok (.iload_n 3, 1) := by decide +kernel
theorem dL_law_389 : decode cL_law 389 = .ok (.iconst 1, 1) := by decide +kernel
theorem dL_law_390 : decode cL_law 390 = .ok (.iadd, 1) := by decide +kernel
theorem dL_law_391 : decode cL_law 391 = .ok (.iaload, 1) := by decide +kernel
theorem dL_law_392 : decode cL_law 392 = .ok (.aload_n 0, 1) := by decide +kernel
theorem dL_law_393 : decode cL_law 393 = .ok (.iload_n 3, 1) := by decide +kernel
theorem dL_law_394 : decode cL_law 394 = .ok (.iconst 2, 1) := by decide +kernel
theorem dL_law_395 : decode cL_law 395 = .ok (.iadd, 1) := by decide +kernel
theorem dL_law_396 : decode cL_law 396 = .ok (.iaload, 1) := by decide +kernel
theorem dL_law_397 : decode cL_law 397 = .ok (.invokevirtual 65, 3) := by decide +kernel
theorem dL_law_400 : decode cL_law 400 = .ok (.aload_n 2, 1) := by decide +kernel
theorem dL_law_401 : decode cL_law 401 = .ok (.aload_n 0, 1) := by decide +kernel
theorem dL_law_402 : decode cL_law 402 = .ok (.iload_n 3, 1) := by decide +kernel
theorem dL_law_403 : decode cL_law 403 = .ok (.iconst 1, 1) := by decide +kernel
theorem dL_law_404 : decode cL_law 404 = .ok (.iadd, 1) := by decide +kernel
theorem dL_law_405 : decode cL_law 405 = .ok (.iaload, 1) := by decide +kernel
theorem dL_law_406 : decode cL_law 406 = .ok (.aload_n 0, 1) := by decide +kernel
theorem dL_law_407 : decode cL_law 407 = .ok (.iload_n 3, 1) := by decide +kernel
theorem dL_law_408 : decode cL_law 408 = .ok (.iconst 2, 1) := by decide +kernel
theorem dL_law_409 : decode cL_law 409 = .ok (.iadd, 1) := by decide +kernel
theorem dL_law_410 : decode cL_law 410 = .ok (.iaload, 1) := by decide +kernel
theorem dL_law_411 : decode cL_law 411 = .ok (.invokevirtual 68, 3) := by decide +kernel
theorem dL_law_414 : decode cL_law 414 = .ok (.if_icmp .eq 144, 3) := by decide +kernel
theorem dL_law_417 : decode cL_law 417 = .ok (.iconst 0, 1) := by decide +kernel
theorem dL_law_418 : decode cL_law 418 = .ok (.ireturn, 1) := by decide +kernel
theorem dL_law_419 : decode cL_law 419 = .ok (.aload_n 1, 1) := by decide +kernel
theorem dL_law_420 : decode cL_law 420 = .ok (.aload_n 0, 1) := by decide +kernel
theorem dL_law_421 : decode cL_law 421 = .ok (.iload_n 3, 1) := by decide +kernel
theorem dL_law_422 : decode cL_law 422 = .ok (.iconst 1, 1) := by decide +kernel
theorem dL_law_423 : decode cL_law 423 = .ok (.iadd, 1) := by decide +kernel
theorem dL_law_424 : decode cL_law 424 = .ok (.iaload, 1) := by decide +kernel
theorem dL_law_425 : decode cL_law 425 = .ok (.invokevirtual 69, 3) := by decide +kernel
theorem dL_law_428 : decode cL_law 428 = .ok (.aload_n 2, 1) := by decide +kernel
theorem dL_law_429 : decode cL_law 429 = .ok (.aload_n 0, 1) := by decide +kernel
theorem dL_law_430 : decode cL_law 430 = .ok (.iload_n 3, 1) := by decide +kernel
theorem dL_law_431 : decode cL_law 431 = .ok (.iconst 1, 1) := by decide +kernel
theorem dL_law_432 : decode cL_law 432 = .ok (.iadd, 1) := by decide +kernel
theorem dL_law_433 : decode cL_law 433 = .ok (.iaload, 1) := by decide +kernel
theorem dL_law_434 : decode cL_law 434 = .ok (.invokevirtual 72, 3) := by decide +kernel
theorem dL_law_437 : decode cL_law 437 = .ok (.if_icmp .eq 121, 3) := by decide +kernel
theorem dL_law_440 : decode cL_law 440 = .ok (.iconst 0, 1) := by decide +kernel
theorem dL_law_441 : decode cL_law 441 = .ok (.ireturn, 1) := by decide +kernel
theorem dL_law_442 : decode cL_law 442 = .ok (.aload_n 1, 1) := by decide +kernel
theorem dL_law_443 : decode cL_law 443 = .ok (.aload_n 0, 1) := by decide +kernel
theorem dL_law_444 : decode cL_law 444 = .ok (.iload_n 3, 1) := by decide +kernel
theorem dL_law_445 : decode cL_law 445 = .ok (.iconst 1, 1) := by decide +kernel
theorem dL_law_446 : decode cL_law 446 = .ok (.iadd, 1) := by decide +kernel
theorem dL_law_447 : decode cL_law 447 = .ok (.iaload, 1) := by decide +kernel
theorem dL_law_448 : decode cL_law 448 = .ok (.invokevirtual 73, 3) := by decide +kernel
theorem dL_law_451 : decode cL_law 451 = .ok (.aload_n 2, 1) := by decide +kernel
theorem dL_law_452 : decode cL_law 452 = .ok (.aload_n 0, 1) := by decide +kernel
theorem dL_law_453 : decode cL_law 453 = .ok (.iload_n 3, 1) := by decide +kernel
theorem dL_law_454 : decode cL_law 454 = .ok (.iconst 1, 1) := by decide +kernel
theorem dL_law_455 : decode cL_law 455 = .ok (.iadd, 1) := by decide +kernel
theorem dL_law_456 : decode cL_law 456 = .ok (.iaload, 1) := by decide +kernel
theorem dL_law_457 : decode cL_law 457 = .ok (.invokevirtual 76, 3) := by decide +kernel
theorem dL_law_460 : decode cL_law 460 = .ok (.if_icmp .eq 98, 3) := by decide +kernel
theorem dL_law_463 : decode cL_law 463 = .ok (.iconst 0, 1) := by decide +kernel
theorem dL_law_464 : decode cL_law 464 = .ok (.ireturn, 1) := by decide +kernel
theorem dL_law_465 : decode cL_law 465 = .ok (.aload_n 1, 1) := by decide +kernel
theorem dL_law_466 : decode cL_law 466 = .ok (.aload_n 0, 1) := by decide +kernel
theorem dL_law_467 : decode cL_law 467 = .ok (.iload_n 3, 1) := by decide +kernel
theorem dL_law_468 : decode cL_law 468 = .ok (.iconst 1, 1) := by decide +kernel
theorem dL_law_469 : decode cL_law 469 = .ok (.iadd, 1) := by decide +kernel
theorem dL_law_470 : decode cL_law 470 = .ok (.iaload, 1) := by decide +kernel
theorem dL_law_471 : decode cL_law 471 = .ok (.invokevirtual 77, 3) := by decide +kernel
theorem dL_law_474 : decode cL_law 474 = .ok (.aload_n 2, 1) := by decide +kernel
theorem dL_law_475 : decode cL_law 475 = .ok (.aload_n 0, 1) := by decide +kernel
theorem dL_law_476 : decode cL_law 476 = .ok (.iload_n 3, 1) := by decide +kernel
theorem dL_law_477 : decode cL_law 477 = .ok (.iconst 1, 1) := by decide +kernel
theorem dL_law_478 : decode cL_law 478 = .ok (.iadd, 1) := by decide +kernel
theorem dL_law_479 : decode cL_law 479 = .ok (.iaload, 1) := by decide +kernel
theorem dL_law_480 : decode cL_law 480 = .ok (.invokevirtual 80, 3) := by decide +kernel
theorem dL_law_483 : decode cL_law 483 = .ok (.if_icmp .eq 75, 3) := by decide +kernel
theorem dL_law_486 : decode cL_law 486 = .ok (.iconst 0, 1) := by decide +kernel
theorem dL_law_487 : decode cL_law 487 = .ok (.ireturn, 1) := by decide +kernel
theorem dL_law_488 : decode cL_law 488 = .ok (.aload_n 1, 1) := by decide +kernel
theorem dL_law_489 : decode cL_law 489 = .ok (.aload_n 0, 1) := by decide +kernel
theorem dL_law_490 : decode cL_law 490 = .ok (.iload_n 3, 1) := by decide +kernel
theorem dL_law_491 : decode cL_law 491 = .ok (.iconst 1, 1) := by decide +kernel
theorem dL_law_492 : decode cL_law 492 = .ok (.iadd, 1) := by decide +kernel
theorem dL_law_493 : decode cL_law 493 = .ok (.iaload, 1) := by decide +kernel
theorem dL_law_494 : decode cL_law 494 = .ok (.aload_n 0, 1) := by decide +kernel
theorem dL_law_495 : decode cL_law 495 = .ok (.iload_n 3, 1) := by decide +kernel
theorem dL_law_496 : decode cL_law 496 = .ok (.iconst 2, 1) := by decide +kernel
theorem dL_law_497 : decode cL_law 497 = .ok (.iadd, 1) := by decide +kernel
theorem dL_law_498 : decode cL_law 498 = .ok (.iaload, 1) := by decide +kernel
theorem dL_law_499 : decode cL_law 499 = .ok (.invokevirtual 81, 3) := by decide +kernel
theorem dL_law_502 : decode cL_law 502 = .ok (.aload_n 2, 1) := by decide +kernel
theorem dL_law_503 : decode cL_law 503 = .ok (.aload_n 0, 1) := by decide +kernel
theorem dL_law_504 : decode cL_law 504 = .ok (.iload_n 3, 1) := by decide +kernel
theorem dL_law_505 : decode cL_law 505 = .ok (.iconst 1, 1) := by decide +kernel
theorem dL_law_506 : decode cL_law 506 = .ok (.iadd, 1) := by decide +kernel
theorem dL_law_507 : decode cL_law 507 = .ok (.iaload, 1) := by decide +kernel
theorem dL_law_508 : decode cL_law 508 = .ok (.aload_n 0, 1) := by decide +kernel
theorem dL_law_509 : decode cL_law 509 = .ok (.iload_n 3, 1) := by decide +kernel
theorem dL_law_510 : decode cL_law 510 = .ok (.iconst 2, 1) := by decide +kernel
theorem dL_law_511 : decode cL_law 511 = .ok (.iadd, 1) := by decide +kernel
theorem dL_law_512 : decode cL_law 512 = .ok (.iaload, 1) := by decide +kernel
theorem dL_law_513 : decode cL_law 513 = .ok (.invokevirtual 84, 3) := by decide +kernel
theorem dL_law_516 : decode cL_law 516 = .ok (.if_icmp .eq 42, 3) := by decide +kernel
theorem dL_law_519 : decode cL_law 519 = .ok (.iconst 0, 1) := by decide +kernel
theorem dL_law_520 : decode cL_law 520 = .ok (.ireturn, 1) := by decide +kernel
theorem dL_law_521 : decode cL_law 521 = .ok (.aload_n 1, 1) := by decide +kernel
theorem dL_law_522 : decode cL_law 522 = .ok (.aload_n 0, 1) := by decide +kernel
theorem dL_law_523 : decode cL_law 523 = .ok (.iload_n 3, 1) := by decide +kernel
theorem dL_law_524 : decode cL_law 524 = .ok (.iconst 1, 1) := by decide +kernel
theorem dL_law_525 : decode cL_law 525 = .ok (.iadd, 1) := by decide +kernel
theorem dL_law_526 : decode cL_law 526 = .ok (.iaload, 1) := by decide +kernel
theorem dL_law_527 : decode cL_law 527 = .ok (.invokevirtual 85, 3) := by decide +kernel
theorem dL_law_530 : decode cL_law 530 = .ok (.aload_n 2, 1) := by decide +kernel
theorem dL_law_531 : decode cL_law 531 = .ok (.aload_n 0, 1) := by decide +kernel
theorem dL_law_532 : decode cL_law 532 = .ok (.iload_n 3, 1) := by decide +kernel
theorem dL_law_533 : decode cL_law 533 = .ok (.iconst 1, 1) := by decide +kernel
theorem dL_law_534 : decode cL_law 534 = .ok (.iadd, 1) := by decide +kernel
theorem dL_law_535 : decode cL_law 535 = .ok (.iaload, 1) := by decide +kernel
theorem dL_law_536 : decode cL_law 536 = .ok (.invokevirtual 88, 3) := by decide +kernel
theorem dL_law_539 : decode cL_law 539 = .ok (.if_icmp .eq 19, 3) := by decide +kernel
theorem dL_law_542 : decode cL_law 542 = .ok (.iconst 0, 1) := by decide +kernel
theorem dL_law_543 : decode cL_law 543 = .ok (.ireturn, 1) := by decide +kernel
theorem dL_law_544 : decode cL_law 544 = .ok (.aload_n 1, 1) := by decide +kernel
theorem dL_law_545 : decode cL_law 545 = .ok (.invokevirtual 89, 3) := by decide +kernel
theorem dL_law_548 : decode cL_law 548 = .ok (.aload_n 2, 1) := by decide +kernel
theorem dL_law_549 : decode cL_law 549 = .ok (.invokevirtual 93, 3) := by decide +kernel
theorem dL_law_552 : decode cL_law 552 = .ok (.lcmp, 1) := by decide +kernel
theorem dL_law_553 : decode cL_law 553 = .ok (.ifCond .eq 5, 3) := by decide +kernel
theorem dL_law_556 : decode cL_law 556 = .ok (.iconst 0, 1) := by decide +kernel
theorem dL_law_557 : decode cL_law 557 = .ok (.ireturn, 1) := by decide +kernel
theorem dL_law_558 : decode cL_law 558 = .ok (.iinc 3 3, 3) := by decide +kernel
theorem dL_law_561 : decode cL_law 561 = .ok (.goto (-543), 3) := by decide +kernel
theorem dL_law_564 : decode cL_law 564 = .ok (.iconst 1, 1) := by decide +kernel
theorem dL_law_565 : decode cL_law 565 = .ok (.ireturn, 1) := by decide +kernel
end
section
/-! ===== numbers: an int is zI z, a long zL z, of an Int z ===== -/
def zI (z : Int) : Int32 := Int32.ofInt z
def zL (z : Int) : Int64 := Int64.ofInt z
def iv (z : Int) : Value := .int (zI z)
def lvv (z : Int) : Value := .long (zL z)
def rf (B0 : Nat) (t : Int) : Value := .ref (B0 + t.toNat)
theorem zI_add (a b : Int) : zI (a + b) = zI a + zI b := Int32.ofInt_add a b
theorem zI_mul (a b : Int) : zI (a * b) = zI a * zI b := Int32.ofInt_mul a b
theorem zI_sub (a b : Int) : zI (a - b) = zI a - zI b := Int32.ofInt_sub a b
theorem zL_add (a b : Int) : zL (a + b) = zL a + zL b := Int64.ofInt_add a b
theorem zL_mul (a b : Int) : zL (a * b) = zL a * zL b := Int64.ofInt_mul a b
theorem zI_toInt {z : Int} (h : -2147483648 ≤ z ∧ z ≤ 2147483647) : (zI z).toInt = z := by
  unfold zI
  rw [Int32.toInt_ofInt, show Int32.size = 4294967296 from rfl, Int.bmod_def]
  split <;> omega
theorem zI_self (x : Int32) : zI x.toInt = x := Int32.ofInt_toInt x
theorem zI_of (x : Int32) : ∃ z : Int, (-2147483648 ≤ z ∧ z ≤ 2147483647) ∧ x = zI z := ⟨x.toInt, ⟨Int32.le_toInt x, by have := Int32.toInt_lt x; omega⟩, (zI_self x).symm⟩
theorem zI_lt {a b : Int} (ha : -2147483648 ≤ a ∧ a ≤ 2147483647) (hb : -2147483648 ≤ b ∧ b ≤ 2147483647) : zI a < zI b ↔ a < b := by
  rw [Int32.lt_iff_toInt_lt, zI_toInt ha, zI_toInt hb]
theorem zI_le {a b : Int} (ha : -2147483648 ≤ a ∧ a ≤ 2147483647) (hb : -2147483648 ≤ b ∧ b ≤ 2147483647) : zI a ≤ zI b ↔ a ≤ b := by
  rw [Int32.le_iff_toInt_le, zI_toInt ha, zI_toInt hb]
theorem zI_eq {a b : Int} (ha : -2147483648 ≤ a ∧ a ≤ 2147483647) (hb : -2147483648 ≤ b ∧ b ≤ 2147483647) : zI a = zI b ↔ a = b := by
  rw [← Int32.toInt_inj, zI_toInt ha, zI_toInt hb]
theorem zI_zero : zI 0 = 0 := rfl
theorem zI_long {z : Int} (h : -2147483648 ≤ z ∧ z ≤ 2147483647) : (zI z).toInt64 = zL z := by
  apply Int64.toInt_inj.mp
  rw [Int32.toInt_toInt64, zI_toInt h]
  unfold zL
  rw [Int64.toInt_ofInt, show Int64.size = 18446744073709551616 from rfl, Int.bmod_def]
  split <;> omega
theorem zI_nat {z : Int} (h0 : 0 ≤ z) (h : z ≤ 2147483647) : (zI z).toNatClampNeg = z.toNat := by
  have e : zI z = nI z.toNat := by
    unfold zI nI
    rw [← Int32.ofInt_eq_ofNat]
    congr 1
    omega
  rw [e, nI_clamp (by omega)]
theorem zI_in {z : Int} {N : Nat} (h0 : 0 ≤ z) (h : z < N) (hN : N ≤ 2147483647) : vp_in (zI z) N := by
  unfold vp_in
  rw [zI_nat h0 (by omega)]
  rintro (h1 | h1)
  · have := (zI_lt (a := z) (b := 0) (by omega) (by omega)).mp h1
    omega
  · omega
theorem zI_div {a b : Int} (ha : 0 ≤ a ∧ a ≤ 2147483647) (hb : 0 < b ∧ b ≤ 2147483647) : zI a / zI b = zI (a / b) := by
  have e : ∀ {z : Int}, 0 ≤ z → zI z = nI z.toNat := by
    intro z hz
    unfold zI nI
    rw [← Int32.ofInt_eq_ofNat]
    congr 1
    omega
  have hq : 0 ≤ a / b := Int.ediv_nonneg ha.1 (by omega)
  rw [e ha.1, e (by omega : 0 ≤ b), e hq, pk_div (by omega) (by omega) (by omega)]
  congr 1
  have h1 : ((a.toNat / b.toNat : Nat) : Int) = a / b := by
    rw [Int.natCast_ediv, Int.toNat_of_nonneg ha.1, Int.toNat_of_nonneg (by omega : 0 ≤ b)]
  omega
theorem zI_rem {a b : Int} (ha : 0 ≤ a ∧ a ≤ 2147483647) (hb : 0 < b ∧ b ≤ 2147483647) : zI a - zI a / zI b * zI b = zI (a % b) := by
  rw [zI_div ha hb, ← zI_mul, ← zI_sub]
  congr 1
  have := Int.emod_add_mul_ediv a b
  have h2 : b * (a / b) = a / b * b := Int.mul_comm _ _
  omega
/-! ===== the heap's picture: cells by their numbers from B0 on; what they hold is an Int -/
abbrev jPhi : Type := Int → Int → Int
abbrev jSl : Type := Int ⊕ Nat
abbrev jKd : Type := (Nat × List jSl) ⊕ (Nat ⊕ (Nat × Int))
abbrev jG : Type := va_G × ClassId × ClassId
/-- one place written -/
def zU (φ : jPhi) (i k v : Int) : jPhi := fun a b => if a = i ∧ b = k then v else φ a b
theorem zU_self (φ : jPhi) (i k v : Int) : zU φ i k v i k = v := by simp [zU]
theorem zU_ne {φ : jPhi} {i k v a b : Int} (h : ¬ (a = i ∧ b = k)) : zU φ i k v a b = φ a b := by simp [zU, h]
def jval (B0 : Nat) (c : jSl) (z : Int) : Value := match c with
  | .inl t => rf B0 t
  | .inr 0 => iv z
  | .inr 1 => lvv z
  | .inr _ => .null
abbrev jclasses : List vw_C := [(RX0, TX0, 4), (RX1, TX1, 8), (RX2, TX2, 2), (RX3, TX3, 2), (RX4, TX4, 3), (RX6, TX6, 4), (RX7, TX7, 17), (RX8, TX8, 24)]
def jcell (G : jG) (B0 : Nat) (φ : jPhi) (i : Int) (kd : jKd) (H : Heap) : Prop := match kd with
  | .inl o => t_OB (B0 + i.toNat) (G.1.1 o.1) o.2.length (G.1.2 o.1) H (fun k => jval B0 (o.2.getD k (.inr 2)) (φ i k))
  | .inr (.inl N) => H[B0 + i.toNat]? = some (arrV G.2.1 N (fun j => iv (φ i j)))
  | .inr (.inr q) => H[B0 + i.toNat]? = some (arrV G.2.2 q.1 (fun j => rf B0 (q.2 + j)))
def jP (G : jG) (B0 : Nat) (κ : Int → Option jKd) (n : Nat) (φ : jPhi) (H : Heap) : Prop :=
  H.size = B0 + n ∧ ∀ (i : Int) (kd : jKd), κ i = some kd → (0 ≤ i ∧ i.toNat < n) ∧ jcell G B0 φ i kd H
def jnest : List Cond := [.methodLinkNest RX7 9 yX2_init "PricedCopies", .methodLinkNest RX7 18 yX1_init "PricedCopies", .methodLinkNest RX1 17 yX6_init "PricedCopies", .methodLinkNest RX7 25 yX4_init "PricedCopies", .methodLinkNest RX7 32 yX3_init "PricedCopies", .methodLinkNest RX7 39 yX0_init "PricedCopies", .methodLinkNest RX7 46 yX6_init "PricedCopies", .methodLinkNest RX3 48 yX7_log "PricedCopies", .methodLinkNest RX3 26 yX7_isPrice "PricedCopies", .fieldLinkNest RX3 9 "PricedCopies" "FIRST_PRICES" "[I" "PricedCopies"]
def jK (G : jG) (s : State) : Prop := va_K G.1 jclasses [(G.2.1, .int), (G.2.2, .array .int)] s ∧ ∀ w ∈ jnest, va_Nw w s
theorem jK.warm {G : jG} {s U : State} (hW : s.WarmedH U.vm) (h : jK G s) : jK G U := by
  refine ⟨va_K.moved hW.alike h.1, fun w hw => ?_⟩
  have h1 := h.2 w hw
  simp only [jnest, List.mem_cons, List.not_mem_nil, or_false] at hw
  rcases hw with rfl | rfl | rfl | rfl | rfl | rfl | rfl | rfl | rfl | rfl
  · exact h1.warmM hW
  · exact h1.warmM hW
  · exact h1.warmM hW
  · exact h1.warmM hW
  · exact h1.warmM hW
  · exact h1.warmM hW
  · exact h1.warmM hW
  · exact h1.warmM hW
  · exact h1.warmM hW
  · exact h1.warmF hW
theorem jK.calling {G : jG} {U : State} {a : Array Value} {g : JFrame} {mk : MethodId} (h : jK G U) : jK G (U.calling g mk a) := by
  refine ⟨va_K.moved (u := U) (U := U.calling g mk a) (Vm.Alike.refl U.vm) h.1, fun w hw => ?_⟩
  have h1 := h.2 w hw
  simp only [jnest, List.mem_cons, List.not_mem_nil, or_false] at hw
  rcases hw with rfl | rfl | rfl | rfl | rfl | rfl | rfl | rfl | rfl | rfl <;> exact va_Nw.same rfl (u := U) (U := U.calling g mk a) rfl h1
/-! ===== the locals: a list, none where nothing is known ===== -/
def jprs : Nat → List (Option Value) → List (Nat × Value)
  | _, [] => []
  | k, none :: r => jprs (k + 1) r
  | k, some v :: r => (k, v) :: jprs (k + 1) r
theorem jprs_mem : ∀ (lv : List (Option Value)) (b k : Nat) (v : Value), (k, v) ∈ jprs b lv ↔ b ≤ k ∧ lv[k - b]? = some (some v)
  | [], b, k, v => by simp [jprs]
  | none :: r, b, k, v => by
    rw [jprs, jprs_mem r (b + 1) k v]
    by_cases h : b = k
    · subst h
      simp
      omega
    · by_cases h2 : b + 1 ≤ k
      · have e : k - b = (k - (b + 1)) + 1 := by omega
        rw [e, List.getElem?_cons_succ]
        constructor
        · rintro ⟨_, h3⟩; exact ⟨by omega, h3⟩
        · rintro ⟨_, h3⟩; exact ⟨by omega, h3⟩
      · constructor
        · rintro ⟨h3, _⟩; omega
        · rintro ⟨h3, _⟩; omega
  | some w :: r, b, k, v => by
    rw [jprs, List.mem_cons, jprs_mem r (b + 1) k v]
    by_cases h : b = k
    · subst h
      simp
      constructor
      · rintro (h | h)
        · exact h.symm
        · omega
      · intro h
        exact Or.inl h.symm
    · by_cases h2 : b + 1 ≤ k
      · have e : k - b = (k - (b + 1)) + 1 := by omega
        rw [e, List.getElem?_cons_succ]
        constructor
        · rintro (h3 | ⟨_, h3⟩)
          · cases h3; exact absurd rfl h
          · exact ⟨by omega, h3⟩
        · rintro ⟨_, h3⟩; exact Or.inr ⟨by omega, h3⟩
      · constructor
        · rintro (h3 | ⟨h3, _⟩)
          · cases h3; exact absurd rfl h
          · omega
        · rintro ⟨h3, _⟩; omega
def jlh (ls : Array Slot) (nL : Nat) (lv : List (Option Value)) : Prop := lv_has ls nL (jprs 0 lv)
theorem jlh.get {ls : Array Slot} {nL : Nat} {lv : List (Option Value)} (h : jlh ls nL lv) {k : Nat} {v : Value} (hk : lv[k]? = some (some v)) : ls[k]? = some (.val v) :=
  h.2.2 (k, v) ((jprs_mem lv 0 k v).mpr ⟨Nat.zero_le _, hk⟩)
theorem jlh.set {ls : Array Slot} {nL : Nat} {lv : List (Option Value)} {i : Nat} {v : Value} {t : List (Nat × Value)} (ht : t = (i, v) :: (jprs 0 lv).filter (fun q => !(q.1 == i) && !(q.1 + 1 == i && q.2.category == 2))) (h : lv_has ls nL t) (hc : ∀ w : Value, 0 < i → lv[i - 1]? = some (some w) → w.category = 1) : jlh ls nL (lv.set i (some v)) := by
  refine ⟨h.1, h.2.1, fun q hq => h.2.2 q ?_⟩
  rw [ht]
  obtain ⟨k, w⟩ := q
  obtain ⟨-, h2⟩ := (jprs_mem _ 0 k w).mp hq
  by_cases hk : k = i
  · subst hk
    rw [Nat.sub_zero, List.getElem?_set] at h2
    simp at h2
    rw [h2.2]
    exact List.mem_cons_self
  · rw [Nat.sub_zero, List.getElem?_set_ne (Ne.symm hk)] at h2
    refine List.mem_cons_of_mem _ (List.mem_filter.mpr ⟨(jprs_mem lv 0 k w).mpr ⟨Nat.zero_le _, h2⟩, ?_⟩)
    by_cases hk2 : k + 1 = i
    · have := hc w (by omega) (by rw [← hk2]; exact h2)
      simp [hk, this]
    · simp [hk, hk2]
/-! ===== the walk's judgement ===== -/
abbrev jX : Type := Program × Launch × Env × Room × State × MethodId × Array Value × List Frame × Method × Code
abbrev jX.p (X : jX) : Program := X.1
abbrev jX.l (X : jX) : Launch := X.2.1
abbrev jX.e (X : jX) : Env := X.2.2.1
abbrev jX.R (X : jX) : Room := X.2.2.2.1
abbrev jX.s (X : jX) : State := X.2.2.2.2.1
abbrev jX.m (X : jX) : MethodId := X.2.2.2.2.2.1
abbrev jX.args (X : jX) : Array Value := X.2.2.2.2.2.2.1
abbrev jX.below (X : jX) : List Frame := X.2.2.2.2.2.2.2.1
abbrev jX.meth (X : jX) : Method := X.2.2.2.2.2.2.2.2.1
abbrev jX.c (X : jX) : Code := X.2.2.2.2.2.2.2.2.2
/-- what is fixed in a method's walk: the machine, the code cc of nL locals, the class own, the words, the tables, room for d levels of calls -/
def jF (X : jX) (G : jG) (cc : ByteArray) (nL : Nat) (own : String) (d kc ks : Nat) : Prop :=
  X.p.tables.exec = Jvm.exec ∧ X.c.code = cc ∧ X.c.maxLocals = nL ∧ X.s.vm.findClass own = some X.m.cls ∧ (∀ w ∈ lw_good, w.before X.args X.s = true) ∧ jK G X.s ∧ (d ≤ X.R.frames ∧ 40 * d ≤ X.R.locals) ∧ (kc ≤ X.R.cells ∧ ks ≤ X.R.slots)
def jW (X : jX) (H : Heap) (locs : List Loc) (kc ks : Nat) (Q : State → Prop) (g : JFrame) : Prop := W X.p X.l X.e X.R X.s X.m X.args X.below X.meth X.c H locs kc ks Q g
def jJ (X : jX) (G : jG) (B0 : Nat) (κ : Int → Option jKd) (n kc ks : Nat) (Q : State → Prop) (nL : Nat) (φ : jPhi) (pc : Nat) (lv : List (Option Value)) (st : List Value) : Prop :=
  ∀ (H : Heap) (locs : List Loc) (ls : Array Slot), jP G B0 κ n φ H → va_S (fun q => B0 ≤ q) X.s.heap H locs → jlh ls nL lv → jW X H locs kc ks Q (F0 X.m pc ls st)
section JROWS
variable {X : jX} {G : jG} {B0 : Nat} {κ : Int → Option jKd} {n kc ks : Nat} {Q : State → Prop} {nL : Nat} {φ : jPhi} {pc : Nat} {lv : List (Option Value)} {st : List Value} {cc : ByteArray} {own : String} {d : Nat}
theorem j_iconst (F : jF X G cc nL own d kc ks) {z : Int} {n' : Nat} (hd : decode cc pc = .ok (.iconst z, 1)) (hn : pc + 1 = n') (k : jJ X G B0 κ n kc ks Q nL φ n' lv (iv z :: st)) : jJ X G B0 κ n kc ks Q nL φ pc lv st := by
  subst hn; intro H locs ls hP hS hl
  exact lv_iconst F.1 F.2.1 hd rfl (k H locs ls hP hS hl)
theorem j_bipush (F : jF X G cc nL own d kc ks) {z : Int} {n' : Nat} (hd : decode cc pc = .ok (.bipush z, 2)) (hz : -128 ≤ z ∧ z ≤ 127) (hn : pc + 2 = n') (k : jJ X G B0 κ n kc ks Q nL φ n' lv (iv z :: st)) : jJ X G B0 κ n kc ks Q nL φ pc lv st := by
  subst hn; intro H locs ls hP hS hl
  refine lv_bipush F.1 F.2.1 hd ?_ (k H locs ls hP hS hl)
  apply Int32.toInt_inj.mp
  rw [Int8.toInt_toInt32, zI_toInt (by omega), Int8.toInt_ofInt, show Int8.size = 256 from rfl, Int.bmod_def]
  split <;> omega
theorem j_sipush (F : jF X G cc nL own d kc ks) {z : Int} {n' : Nat} (hd : decode cc pc = .ok (.sipush z, 3)) (hz : -32768 ≤ z ∧ z ≤ 32767) (hn : pc + 3 = n') (k : jJ X G B0 κ n kc ks Q nL φ n' lv (iv z :: st)) : jJ X G B0 κ n kc ks Q nL φ pc lv st := by
  subst hn; intro H locs ls hP hS hl
  refine lv_sipush F.1 F.2.1 hd ?_ (k H locs ls hP hS hl)
  apply Int32.toInt_inj.mp
  rw [Int16.toInt_toInt32, zI_toInt (by omega), Int16.toInt_ofInt, show Int16.size = 65536 from rfl, Int.bmod_def]
  split <;> omega
theorem j_iload_n (F : jF X G cc nL own d kc ks) {i : Fin 4} {z : Int} {n' : Nat} (hl : lv[(i : Nat)]? = some (some (iv z))) (hd : decode cc pc = .ok (.iload_n i, 1)) (hn : pc + 1 = n') (k : jJ X G B0 κ n kc ks Q nL φ n' lv (iv z :: st)) : jJ X G B0 κ n kc ks Q nL φ pc lv st := by
  subst hn; intro H locs ls hP hS hl'
  exact lv_iload_n F.1 F.2.1 hd rfl (hl'.get hl) (k H locs ls hP hS hl')
theorem j_iload (F : jF X G cc nL own d kc ks) {i : Nat} {z : Int} {n' : Nat} (hl : lv[i]? = some (some (iv z))) (hd : decode cc pc = .ok (.iload i, 2)) (hn : pc + 2 = n') (k : jJ X G B0 κ n kc ks Q nL φ n' lv (iv z :: st)) : jJ X G B0 κ n kc ks Q nL φ pc lv st := by
  subst hn; intro H locs ls hP hS hl'
  exact lv_iload F.1 F.2.1 hd (hl'.get hl) (k H locs ls hP hS hl')
theorem j_lload_n (F : jF X G cc nL own d kc ks) {i : Fin 4} {z : Int} {n' : Nat} (hl : lv[(i : Nat)]? = some (some (lvv z))) (hd : decode cc pc = .ok (.lload_n i, 1)) (hn : pc + 1 = n') (k : jJ X G B0 κ n kc ks Q nL φ n' lv (lvv z :: st)) : jJ X G B0 κ n kc ks Q nL φ pc lv st := by
  subst hn; intro H locs ls hP hS hl'
  exact lv_lload_n F.1 F.2.1 hd rfl (hl'.get hl) (k H locs ls hP hS hl')
theorem j_aload_n (F : jF X G cc nL own d kc ks) {i : Fin 4} {z : Int} {n' : Nat} (hl : lv[(i : Nat)]? = some (some (rf B0 z))) (hd : decode cc pc = .ok (.aload_n i, 1)) (hn : pc + 1 = n') (k : jJ X G B0 κ n kc ks Q nL φ n' lv (rf B0 z :: st)) : jJ X G B0 κ n kc ks Q nL φ pc lv st := by
  subst hn; intro H locs ls hP hS hl'
  exact lv_aload_n F.1 F.2.1 hd rfl (hl'.get hl) (k H locs ls hP hS hl')
theorem j_aload (F : jF X G cc nL own d kc ks) {i : Nat} {z : Int} {n' : Nat} (hl : lv[i]? = some (some (rf B0 z))) (hd : decode cc pc = .ok (.aload i, 2)) (hn : pc + 2 = n') (k : jJ X G B0 κ n kc ks Q nL φ n' lv (rf B0 z :: st)) : jJ X G B0 κ n kc ks Q nL φ pc lv st := by
  subst hn; intro H locs ls hP hS hl'
  exact lv_aload F.1 F.2.1 hd (hl'.get hl) (k H locs ls hP hS hl')
theorem j_istore_n (F : jF X G cc nL own d kc ks) {i : Fin 4} {z : Int} {n' : Nat} {lv' : List (Option Value)} (hs : lv.set (i : Nat) (some (iv z)) = lv') (hi : (i : Nat) < nL) (hc : ∀ w : Value, 0 < (i : Nat) → lv[(i : Nat) - 1]? = some (some w) → w.category = 1) (hd : decode cc pc = .ok (.istore_n i, 1)) (hn : pc + 1 = n') (k : jJ X G B0 κ n kc ks Q nL φ n' lv' st) : jJ X G B0 κ n kc ks Q nL φ pc lv (iv z :: st) := by
  subst hn; subst hs; intro H locs ls hP hS hl'
  exact lv_istore_n F.1 F.2.1 hd rfl hl' hi rfl (fun ls' h => k H locs ls' hP hS (jlh.set rfl h hc))
theorem j_istore (F : jF X G cc nL own d kc ks) {i : Nat} {z : Int} {n' : Nat} {lv' : List (Option Value)} (hs : lv.set i (some (iv z)) = lv') (hi : i < nL) (hc : ∀ w : Value, 0 < i → lv[i - 1]? = some (some w) → w.category = 1) (hd : decode cc pc = .ok (.istore i, 2)) (hn : pc + 2 = n') (k : jJ X G B0 κ n kc ks Q nL φ n' lv' st) : jJ X G B0 κ n kc ks Q nL φ pc lv (iv z :: st) := by
  subst hn; subst hs; intro H locs ls hP hS hl'
  exact lv_istore F.1 F.2.1 hd hl' hi rfl (fun ls' h => k H locs ls' hP hS (jlh.set rfl h hc))
theorem j_astore_n (F : jF X G cc nL own d kc ks) {i : Fin 4} {z : Int} {n' : Nat} {lv' : List (Option Value)} (hs : lv.set (i : Nat) (some (rf B0 z)) = lv') (hi : (i : Nat) < nL) (hc : ∀ w : Value, 0 < (i : Nat) → lv[(i : Nat) - 1]? = some (some w) → w.category = 1) (hd : decode cc pc = .ok (.astore_n i, 1)) (hn : pc + 1 = n') (k : jJ X G B0 κ n kc ks Q nL φ n' lv' st) : jJ X G B0 κ n kc ks Q nL φ pc lv (rf B0 z :: st) := by
  subst hn; subst hs; intro H locs ls hP hS hl'
  exact lv_astore_n F.1 F.2.1 hd rfl hl' hi rfl (fun ls' h => k H locs ls' hP hS (jlh.set rfl h hc))
theorem j_iinc (F : jF X G cc nL own d kc ks) {i : Nat} {z c : Int} {n' : Nat} {lv' : List (Option Value)} (hl : lv[i]? = some (some (iv z))) (hs : lv.set i (some (iv (z + c))) = lv') (hi : i < nL) (hc : ∀ w : Value, 0 < i → lv[i - 1]? = some (some w) → w.category = 1) (hd : decode cc pc = .ok (.iinc i c, 3)) (hn : pc + 3 = n') (k : jJ X G B0 κ n kc ks Q nL φ n' lv' st) : jJ X G B0 κ n kc ks Q nL φ pc lv st := by
  subst hn; subst hs; intro H locs ls hP hS hl'
  obtain ⟨q, hq⟩ := List.getElem?_of_mem ((jprs_mem lv 0 i (iv z)).mpr ⟨Nat.zero_le _, hl⟩)
  exact lv_iinc F.1 F.2.1 hd hl' (k := q) hq (zI_add z c).symm hi rfl (fun ls' h => k H locs ls' hP hS (jlh.set rfl h hc))
theorem j_iadd (F : jF X G cc nL own d kc ks) {a b : Int} {n' : Nat} (hd : decode cc pc = .ok (.iadd, 1)) (hn : pc + 1 = n') (k : jJ X G B0 κ n kc ks Q nL φ n' lv (iv (a + b) :: st)) : jJ X G B0 κ n kc ks Q nL φ pc lv (iv b :: iv a :: st) := by
  subst hn; intro H locs ls hP hS hl
  have h := k H locs ls hP hS hl
  rw [iv, zI_add] at h
  exact lv_iadd F.1 F.2.1 hd h
theorem j_isub (F : jF X G cc nL own d kc ks) {a b : Int} {n' : Nat} (hd : decode cc pc = .ok (.isub, 1)) (hn : pc + 1 = n') (k : jJ X G B0 κ n kc ks Q nL φ n' lv (iv (a - b) :: st)) : jJ X G B0 κ n kc ks Q nL φ pc lv (iv b :: iv a :: st) := by
  subst hn; intro H locs ls hP hS hl
  have h := k H locs ls hP hS hl
  rw [iv, zI_sub] at h
  exact lv_isub F.1 F.2.1 hd h
theorem j_imul (F : jF X G cc nL own d kc ks) {a b : Int} {n' : Nat} (hd : decode cc pc = .ok (.imul, 1)) (hn : pc + 1 = n') (k : jJ X G B0 κ n kc ks Q nL φ n' lv (iv (a * b) :: st)) : jJ X G B0 κ n kc ks Q nL φ pc lv (iv b :: iv a :: st) := by
  subst hn; intro H locs ls hP hS hl
  have h := k H locs ls hP hS hl
  rw [iv, zI_mul] at h
  exact lv_imul F.1 F.2.1 hd h
theorem j_idiv (F : jF X G cc nL own d kc ks) {a b : Int} {n' : Nat} (ha : 0 ≤ a ∧ a ≤ 2147483647) (hb : 0 < b ∧ b ≤ 2147483647) (hd : decode cc pc = .ok (.idiv, 1)) (hn : pc + 1 = n') (k : jJ X G B0 κ n kc ks Q nL φ n' lv (iv (a / b) :: st)) : jJ X G B0 κ n kc ks Q nL φ pc lv (iv b :: iv a :: st) := by
  subst hn; intro H locs ls hP hS hl
  have h := k H locs ls hP hS hl
  rw [iv, ← zI_div ha hb] at h
  exact lv_idiv F.1 F.2.1 hd (fun q => by have := (zI_eq (a := b) (b := 0) (by omega) (by omega)).mp q; omega) h
theorem j_irem (F : jF X G cc nL own d kc ks) {a b : Int} {n' : Nat} (ha : 0 ≤ a ∧ a ≤ 2147483647) (hb : 0 < b ∧ b ≤ 2147483647) (hd : decode cc pc = .ok (.irem, 1)) (hn : pc + 1 = n') (k : jJ X G B0 κ n kc ks Q nL φ n' lv (iv (a % b) :: st)) : jJ X G B0 κ n kc ks Q nL φ pc lv (iv b :: iv a :: st) := by
  subst hn; intro H locs ls hP hS hl
  have h := k H locs ls hP hS hl
  rw [iv, ← zI_rem ha hb] at h
  exact lv_irem F.1 F.2.1 hd (fun q => by have := (zI_eq (a := b) (b := 0) (by omega) (by omega)).mp q; omega) h
theorem j_i2l (F : jF X G cc nL own d kc ks) {a : Int} {n' : Nat} (ha : -2147483648 ≤ a ∧ a ≤ 2147483647) (hd : decode cc pc = .ok (.i2l, 1)) (hn : pc + 1 = n') (k : jJ X G B0 κ n kc ks Q nL φ n' lv (lvv a :: st)) : jJ X G B0 κ n kc ks Q nL φ pc lv (iv a :: st) := by
  subst hn; intro H locs ls hP hS hl
  exact lv_i2l F.1 F.2.1 hd (zI_long ha) (k H locs ls hP hS hl)
theorem j_ladd (F : jF X G cc nL own d kc ks) {a b : Int} {n' : Nat} (hd : decode cc pc = .ok (.ladd, 1)) (hn : pc + 1 = n') (k : jJ X G B0 κ n kc ks Q nL φ n' lv (lvv (a + b) :: st)) : jJ X G B0 κ n kc ks Q nL φ pc lv (lvv b :: lvv a :: st) := by
  subst hn; intro H locs ls hP hS hl
  have h := k H locs ls hP hS hl
  rw [lvv, zL_add] at h
  exact lv_ladd F.1 F.2.1 hd h
theorem j_lmul (F : jF X G cc nL own d kc ks) {a b : Int} {n' : Nat} (hd : decode cc pc = .ok (.lmul, 1)) (hn : pc + 1 = n') (k : jJ X G B0 κ n kc ks Q nL φ n' lv (lvv (a * b) :: st)) : jJ X G B0 κ n kc ks Q nL φ pc lv (lvv b :: lvv a :: st) := by
  subst hn; intro H locs ls hP hS hl
  have h := k H locs ls hP hS hl
  rw [lvv, zL_mul] at h
  exact lv_lmul F.1 F.2.1 hd h
theorem j_dup (F : jF X G cc nL own d kc ks) {v : Value} {n' : Nat} (hv : v.category = 1) (hd : decode cc pc = .ok (.dup, 1)) (hn : pc + 1 = n') (k : jJ X G B0 κ n kc ks Q nL φ n' lv (v :: v :: st)) : jJ X G B0 κ n kc ks Q nL φ pc lv (v :: st) := by
  subst hn; intro H locs ls hP hS hl
  exact lv_dup F.1 F.2.1 hd hv (k H locs ls hP hS hl)
theorem j_pop (F : jF X G cc nL own d kc ks) {v : Value} {n' : Nat} (hv : v.category = 1) (hd : decode cc pc = .ok (.pop, 1)) (hn : pc + 1 = n') (k : jJ X G B0 κ n kc ks Q nL φ n' lv st) : jJ X G B0 κ n kc ks Q nL φ pc lv (v :: st) := by
  subst hn; intro H locs ls hP hS hl
  exact lv_pop F.1 F.2.1 hd hv (k H locs ls hP hS hl)
theorem j_dup2 (F : jF X G cc nL own d kc ks) {v w : Value} {n' : Nat} (hv : v.category = 1) (hw : w.category = 1) (hd : decode cc pc = .ok (.dup2, 1)) (hn : pc + 1 = n') (k : jJ X G B0 κ n kc ks Q nL φ n' lv (v :: w :: v :: w :: st)) : jJ X G B0 κ n kc ks Q nL φ pc lv (v :: w :: st) := by
  subst hn; intro H locs ls hP hS hl
  exact lv_dup2_11 F.1 F.2.1 hd hv hw (k H locs ls hP hS hl)
theorem j_goto (F : jF X G cc nL own d kc ks) {off : Int} {t : Nat} (hd : decode cc pc = .ok (.goto off, 3)) (ht : (pc : Int) + off = (t : Int)) (k : jJ X G B0 κ n kc ks Q nL φ t lv st) : jJ X G B0 κ n kc ks Q nL φ pc lv st := by
  intro H locs ls hP hS hl
  exact lv_goto F.1 F.2.1 hd ht (k H locs ls hP hS hl)
theorem j_top {v w : Value} (h : v = w) (k : jJ X G B0 κ n kc ks Q nL φ pc lv (w :: st)) : jJ X G B0 κ n kc ks Q nL φ pc lv (v :: st) := h ▸ k
theorem j_ldc (F : jF X G cc nL own d kc ks) {index : Nat} {z : Int} {v : Int32} {n' : Nat} (hz : zI z = v) (hq : Cond.constant own index v ∈ lw_good) (hd : decode cc pc = .ok (.ldc index, 2)) (hn : pc + 2 = n') (k : jJ X G B0 κ n kc ks Q nL φ n' lv (iv z :: st)) : jJ X G B0 κ n kc ks Q nL φ pc lv st := by
  subst hn; subst hz; intro H locs ls hP hS hl
  exact lv_ldc F.1 F.2.1 F.2.2.2.1 (F.2.2.2.2.1 _ hq) hd (k H locs ls hP hS hl)
theorem j_ldc2 (F : jF X G cc nL own d kc ks) {index : Nat} {z : Int} {v : Int64} {n' : Nat} (hz : zL z = v) (hq : Cond.constantLong own index v ∈ lw_good) (hd : decode cc pc = .ok (.ldc2_w index, 3)) (hn : pc + 3 = n') (k : jJ X G B0 κ n kc ks Q nL φ n' lv (lvv z :: st)) : jJ X G B0 κ n kc ks Q nL φ pc lv st := by
  subst hn; subst hz; intro H locs ls hP hS hl
  exact lv_ldc2 F.1 F.2.1 F.2.2.2.1 (F.2.2.2.2.1 _ hq) hd (k H locs ls hP hS hl)
end JROWS
end
section
section JBR
variable {X : jX} {G : jG} {B0 : Nat} {κ : Int → Option jKd} {n kc ks : Nat} {Q : State → Prop} {nL : Nat} {φ : jPhi} {pc : Nat} {lv : List (Option Value)} {st : List Value} {cc : ByteArray} {own : String} {d : Nat}
theorem j_icmp_eq (F : jF X G cc nL own d kc ks) {a b off : Int} {t n' : Nat} (ha : -2147483648 ≤ a ∧ a ≤ 2147483647) (hb : -2147483648 ≤ b ∧ b ≤ 2147483647) (hd : decode cc pc = .ok (.if_icmp .eq off, 3)) (ht : (pc : Int) + off = (t : Int)) (hn : pc + 3 = n') (kt : a = b → jJ X G B0 κ n kc ks Q nL φ t lv st) (kf : ¬ a = b → jJ X G B0 κ n kc ks Q nL φ n' lv st) : jJ X G B0 κ n kc ks Q nL φ pc lv (iv b :: iv a :: st) := by
  subst hn; intro H locs ls hP hS hl
  have e1 := zI_lt ha hb
  have e2 := zI_lt hb ha
  have e3 := zI_le ha hb
  have e4 := zI_le hb ha
  have e5 := zI_eq ha hb
  refine lv_icmp_eq F.1 F.2.1 hd ht (fun h => kt ?_ H locs ls hP hS hl) (fun h => kf ?_ H locs ls hP hS hl)
  · simp only [e1, e2, e3, e4, e5] at h; omega
  · simp only [e1, e2, e3, e4, e5] at h; omega
theorem j_if_eq (F : jF X G cc nL own d kc ks) {a off : Int} {t n' : Nat} (ha : -2147483648 ≤ a ∧ a ≤ 2147483647) (hd : decode cc pc = .ok (.ifCond .eq off, 3)) (ht : (pc : Int) + off = (t : Int)) (hn : pc + 3 = n') (kt : a = 0 → jJ X G B0 κ n kc ks Q nL φ t lv st) (kf : ¬ a = 0 → jJ X G B0 κ n kc ks Q nL φ n' lv st) : jJ X G B0 κ n kc ks Q nL φ pc lv (iv a :: st) := by
  subst hn; intro H locs ls hP hS hl
  have hb : -2147483648 ≤ (0 : Int) ∧ (0 : Int) ≤ 2147483647 := by decide
  have e1 := zI_lt ha hb
  have e2 := zI_lt hb ha
  have e3 := zI_le ha hb
  have e4 := zI_le hb ha
  have e5 := zI_eq ha hb
  rw [zI_zero] at e1 e2 e3 e4 e5
  refine lv_if_eq F.1 F.2.1 hd ht (fun h => kt ?_ H locs ls hP hS hl) (fun h => kf ?_ H locs ls hP hS hl)
  · simp only [e1, e2, e3, e4, e5] at h; omega
  · simp only [e1, e2, e3, e4, e5] at h; omega
theorem j_icmp_ne (F : jF X G cc nL own d kc ks) {a b off : Int} {t n' : Nat} (ha : -2147483648 ≤ a ∧ a ≤ 2147483647) (hb : -2147483648 ≤ b ∧ b ≤ 2147483647) (hd : decode cc pc = .ok (.if_icmp .ne off, 3)) (ht : (pc : Int) + off = (t : Int)) (hn : pc + 3 = n') (kt : ¬ a = b → jJ X G B0 κ n kc ks Q nL φ t lv st) (kf : a = b → jJ X G B0 κ n kc ks Q nL φ n' lv st) : jJ X G B0 κ n kc ks Q nL φ pc lv (iv b :: iv a :: st) := by
  subst hn; intro H locs ls hP hS hl
  have e1 := zI_lt ha hb
  have e2 := zI_lt hb ha
  have e3 := zI_le ha hb
  have e4 := zI_le hb ha
  have e5 := zI_eq ha hb
  refine lv_icmp_ne F.1 F.2.1 hd ht (fun h => kt ?_ H locs ls hP hS hl) (fun h => kf ?_ H locs ls hP hS hl)
  · simp only [e1, e2, e3, e4, e5] at h; omega
  · simp only [e1, e2, e3, e4, e5] at h; omega
theorem j_if_ne (F : jF X G cc nL own d kc ks) {a off : Int} {t n' : Nat} (ha : -2147483648 ≤ a ∧ a ≤ 2147483647) (hd : decode cc pc = .ok (.ifCond .ne off, 3)) (ht : (pc : Int) + off = (t : Int)) (hn : pc + 3 = n') (kt : ¬ a = 0 → jJ X G B0 κ n kc ks Q nL φ t lv st) (kf : a = 0 → jJ X G B0 κ n kc ks Q nL φ n' lv st) : jJ X G B0 κ n kc ks Q nL φ pc lv (iv a :: st) := by
  subst hn; intro H locs ls hP hS hl
  have hb : -2147483648 ≤ (0 : Int) ∧ (0 : Int) ≤ 2147483647 := by decide
  have e1 := zI_lt ha hb
  have e2 := zI_lt hb ha
  have e3 := zI_le ha hb
  have e4 := zI_le hb ha
  have e5 := zI_eq ha hb
  rw [zI_zero] at e1 e2 e3 e4 e5
  refine lv_if_ne F.1 F.2.1 hd ht (fun h => kt ?_ H locs ls hP hS hl) (fun h => kf ?_ H locs ls hP hS hl)
  · simp only [e1, e2, e3, e4, e5] at h; omega
  · simp only [e1, e2, e3, e4, e5] at h; omega
theorem j_icmp_lt (F : jF X G cc nL own d kc ks) {a b off : Int} {t n' : Nat} (ha : -2147483648 ≤ a ∧ a ≤ 2147483647) (hb : -2147483648 ≤ b ∧ b ≤ 2147483647) (hd : decode cc pc = .ok (.if_icmp .lt off, 3)) (ht : (pc : Int) + off = (t : Int)) (hn : pc + 3 = n') (kt : a < b → jJ X G B0 κ n kc ks Q nL φ t lv st) (kf : b ≤ a → jJ X G B0 κ n kc ks Q nL φ n' lv st) : jJ X G B0 κ n kc ks Q nL φ pc lv (iv b :: iv a :: st) := by
  subst hn; intro H locs ls hP hS hl
  have e1 := zI_lt ha hb
  have e2 := zI_lt hb ha
  have e3 := zI_le ha hb
  have e4 := zI_le hb ha
  have e5 := zI_eq ha hb
  refine lv_icmp_lt F.1 F.2.1 hd ht (fun h => kt ?_ H locs ls hP hS hl) (fun h => kf ?_ H locs ls hP hS hl)
  · simp only [e1, e2, e3, e4, e5] at h; omega
  · simp only [e1, e2, e3, e4, e5] at h; omega
theorem j_if_lt (F : jF X G cc nL own d kc ks) {a off : Int} {t n' : Nat} (ha : -2147483648 ≤ a ∧ a ≤ 2147483647) (hd : decode cc pc = .ok (.ifCond .lt off, 3)) (ht : (pc : Int) + off = (t : Int)) (hn : pc + 3 = n') (kt : a < 0 → jJ X G B0 κ n kc ks Q nL φ t lv st) (kf : 0 ≤ a → jJ X G B0 κ n kc ks Q nL φ n' lv st) : jJ X G B0 κ n kc ks Q nL φ pc lv (iv a :: st) := by
  subst hn; intro H locs ls hP hS hl
  have hb : -2147483648 ≤ (0 : Int) ∧ (0 : Int) ≤ 2147483647 := by decide
  have e1 := zI_lt ha hb
  have e2 := zI_lt hb ha
  have e3 := zI_le ha hb
  have e4 := zI_le hb ha
  have e5 := zI_eq ha hb
  rw [zI_zero] at e1 e2 e3 e4 e5
  refine lv_if_lt F.1 F.2.1 hd ht (fun h => kt ?_ H locs ls hP hS hl) (fun h => kf ?_ H locs ls hP hS hl)
  · simp only [e1, e2, e3, e4, e5] at h; omega
  · simp only [e1, e2, e3, e4, e5] at h; omega
theorem j_icmp_ge (F : jF X G cc nL own d kc ks) {a b off : Int} {t n' : Nat} (ha : -2147483648 ≤ a ∧ a ≤ 2147483647) (hb : -2147483648 ≤ b ∧ b ≤ 2147483647) (hd : decode cc pc = .ok (.if_icmp .ge off, 3)) (ht : (pc : Int) + off = (t : Int)) (hn : pc + 3 = n') (kt : b ≤ a → jJ X G B0 κ n kc ks Q nL φ t lv st) (kf : a < b → jJ X G B0 κ n kc ks Q nL φ n' lv st) : jJ X G B0 κ n kc ks Q nL φ pc lv (iv b :: iv a :: st) := by
  subst hn; intro H locs ls hP hS hl
  have e1 := zI_lt ha hb
  have e2 := zI_lt hb ha
  have e3 := zI_le ha hb
  have e4 := zI_le hb ha
  have e5 := zI_eq ha hb
  refine lv_icmp_ge F.1 F.2.1 hd ht (fun h => kt ?_ H locs ls hP hS hl) (fun h => kf ?_ H locs ls hP hS hl)
  · simp only [e1, e2, e3, e4, e5] at h; omega
  · simp only [e1, e2, e3, e4, e5] at h; omega
theorem j_if_ge (F : jF X G cc nL own d kc ks) {a off : Int} {t n' : Nat} (ha : -2147483648 ≤ a ∧ a ≤ 2147483647) (hd : decode cc pc = .ok (.ifCond .ge off, 3)) (ht : (pc : Int) + off = (t : Int)) (hn : pc + 3 = n') (kt : 0 ≤ a → jJ X G B0 κ n kc ks Q nL φ t lv st) (kf : a < 0 → jJ X G B0 κ n kc ks Q nL φ n' lv st) : jJ X G B0 κ n kc ks Q nL φ pc lv (iv a :: st) := by
  subst hn; intro H locs ls hP hS hl
  have hb : -2147483648 ≤ (0 : Int) ∧ (0 : Int) ≤ 2147483647 := by decide
  have e1 := zI_lt ha hb
  have e2 := zI_lt hb ha
  have e3 := zI_le ha hb
  have e4 := zI_le hb ha
  have e5 := zI_eq ha hb
  rw [zI_zero] at e1 e2 e3 e4 e5
  refine lv_if_ge F.1 F.2.1 hd ht (fun h => kt ?_ H locs ls hP hS hl) (fun h => kf ?_ H locs ls hP hS hl)
  · simp only [e1, e2, e3, e4, e5] at h; omega
  · simp only [e1, e2, e3, e4, e5] at h; omega
theorem j_icmp_gt (F : jF X G cc nL own d kc ks) {a b off : Int} {t n' : Nat} (ha : -2147483648 ≤ a ∧ a ≤ 2147483647) (hb : -2147483648 ≤ b ∧ b ≤ 2147483647) (hd : decode cc pc = .ok (.if_icmp .gt off, 3)) (ht : (pc : Int) + off = (t : Int)) (hn : pc + 3 = n') (kt : b < a → jJ X G B0 κ n kc ks Q nL φ t lv st) (kf : a ≤ b → jJ X G B0 κ n kc ks Q nL φ n' lv st) : jJ X G B0 κ n kc ks Q nL φ pc lv (iv b :: iv a :: st) := by
  subst hn; intro H locs ls hP hS hl
  have e1 := zI_lt ha hb
  have e2 := zI_lt hb ha
  have e3 := zI_le ha hb
  have e4 := zI_le hb ha
  have e5 := zI_eq ha hb
  refine lv_icmp_gt F.1 F.2.1 hd ht (fun h => kt ?_ H locs ls hP hS hl) (fun h => kf ?_ H locs ls hP hS hl)
  · simp only [e1, e2, e3, e4, e5] at h; omega
  · simp only [e1, e2, e3, e4, e5] at h; omega
theorem j_if_gt (F : jF X G cc nL own d kc ks) {a off : Int} {t n' : Nat} (ha : -2147483648 ≤ a ∧ a ≤ 2147483647) (hd : decode cc pc = .ok (.ifCond .gt off, 3)) (ht : (pc : Int) + off = (t : Int)) (hn : pc + 3 = n') (kt : 0 < a → jJ X G B0 κ n kc ks Q nL φ t lv st) (kf : a ≤ 0 → jJ X G B0 κ n kc ks Q nL φ n' lv st) : jJ X G B0 κ n kc ks Q nL φ pc lv (iv a :: st) := by
  subst hn; intro H locs ls hP hS hl
  have hb : -2147483648 ≤ (0 : Int) ∧ (0 : Int) ≤ 2147483647 := by decide
  have e1 := zI_lt ha hb
  have e2 := zI_lt hb ha
  have e3 := zI_le ha hb
  have e4 := zI_le hb ha
  have e5 := zI_eq ha hb
  rw [zI_zero] at e1 e2 e3 e4 e5
  refine lv_if_gt F.1 F.2.1 hd ht (fun h => kt ?_ H locs ls hP hS hl) (fun h => kf ?_ H locs ls hP hS hl)
  · simp only [e1, e2, e3, e4, e5] at h; omega
  · simp only [e1, e2, e3, e4, e5] at h; omega
theorem j_icmp_le (F : jF X G cc nL own d kc ks) {a b off : Int} {t n' : Nat} (ha : -2147483648 ≤ a ∧ a ≤ 2147483647) (hb : -2147483648 ≤ b ∧ b ≤ 2147483647) (hd : decode cc pc = .ok (.if_icmp .le off, 3)) (ht : (pc : Int) + off = (t : Int)) (hn : pc + 3 = n') (kt : a ≤ b → jJ X G B0 κ n kc ks Q nL φ t lv st) (kf : b < a → jJ X G B0 κ n kc ks Q nL φ n' lv st) : jJ X G B0 κ n kc ks Q nL φ pc lv (iv b :: iv a :: st) := by
  subst hn; intro H locs ls hP hS hl
  have e1 := zI_lt ha hb
  have e2 := zI_lt hb ha
  have e3 := zI_le ha hb
  have e4 := zI_le hb ha
  have e5 := zI_eq ha hb
  refine lv_icmp_le F.1 F.2.1 hd ht (fun h => kt ?_ H locs ls hP hS hl) (fun h => kf ?_ H locs ls hP hS hl)
  · simp only [e1, e2, e3, e4, e5] at h; omega
  · simp only [e1, e2, e3, e4, e5] at h; omega
theorem j_if_le (F : jF X G cc nL own d kc ks) {a off : Int} {t n' : Nat} (ha : -2147483648 ≤ a ∧ a ≤ 2147483647) (hd : decode cc pc = .ok (.ifCond .le off, 3)) (ht : (pc : Int) + off = (t : Int)) (hn : pc + 3 = n') (kt : a ≤ 0 → jJ X G B0 κ n kc ks Q nL φ t lv st) (kf : 0 < a → jJ X G B0 κ n kc ks Q nL φ n' lv st) : jJ X G B0 κ n kc ks Q nL φ pc lv (iv a :: st) := by
  subst hn; intro H locs ls hP hS hl
  have hb : -2147483648 ≤ (0 : Int) ∧ (0 : Int) ≤ 2147483647 := by decide
  have e1 := zI_lt ha hb
  have e2 := zI_lt hb ha
  have e3 := zI_le ha hb
  have e4 := zI_le hb ha
  have e5 := zI_eq ha hb
  rw [zI_zero] at e1 e2 e3 e4 e5
  refine lv_if_le F.1 F.2.1 hd ht (fun h => kt ?_ H locs ls hP hS hl) (fun h => kf ?_ H locs ls hP hS hl)
  · simp only [e1, e2, e3, e4, e5] at h; omega
  · simp only [e1, e2, e3, e4, e5] at h; omega
end JBR
end
section
theorem jcell_congr {G : jG} {B0 : Nat} {φ φ' : jPhi} {i : Int} {kd : jKd} {H H' : Heap} (hφ : ∀ b, φ' i b = φ i b) (hH : H'[B0 + i.toNat]? = H[B0 + i.toNat]?) (h : jcell G B0 φ i kd H) : jcell G B0 φ' i kd H' := by
  have e : φ' i = φ i := funext hφ
  match kd, h with
  | .inl o, h =>
    unfold jcell at h ⊢
    simp only [e] at h ⊢
    exact h.kept hH
  | .inr (.inl N), h =>
    unfold jcell at h ⊢
    simp only [e] at h ⊢
    exact hH.trans h
  | .inr (.inr q), h =>
    unfold jcell at h ⊢
    exact hH.trans h
theorem jP.put {G : jG} {B0 : Nat} {κ : Int → Option jKd} {n : Nat} {φ : jPhi} {H H' : Heap} (h : jP G B0 κ n φ H) {i k v : Int} {kd : jKd} (hκ : κ i = some kd) (hz : H'.size = H.size) (oq : ∀ q, q ≠ B0 + i.toNat → H'[q]? = H[q]?) (hc : jcell G B0 (zU φ i k v) i kd H') : jP G B0 κ n (zU φ i k v) H' := by
  refine ⟨hz.trans h.1, fun j kd' hj => ⟨(h.2 j kd' hj).1, ?_⟩⟩
  by_cases e : j = i
  · subst e
    rw [hκ] at hj
    cases hj
    exact hc
  · have h1 := (h.2 j kd' hj).1
    have h2 := (h.2 i kd hκ).1
    exact jcell_congr (fun b => zU_ne (fun q => e q.1)) (oq _ (fun q => e (by omega))) (h.2 j kd' hj).2
/-- what the tables say of a field: by the place of its class and its own -/
def jLF (own : String) (index ci N k : Nat) : Prop := ∃ (C : String) (T : u_T), jclasses[ci]? = some (C, T, N) ∧ k < N ∧ (∀ w ∈ u_ws C T N, w ∈ lw_good) ∧ Cond.fieldLink own index (T k).1 (T k).2.1 (T k).2.2.1 ∈ lw_good
def jLP (own : String) (index ci N k : Nat) (ty : FieldType) : Prop := ∃ (C : String) (T : u_T) (ty0 : Nat → FieldType), jclasses[ci]? = some (C, T, N) ∧ k < N ∧ (∀ w ∈ u_ws C T N, w ∈ lw_good) ∧ Cond.fieldLink own index (T k).1 (T k).2.1 (T k).2.2.1 ∈ lw_good ∧ (∀ k, k < N → parseFieldDescriptor (T k).2.2.1 = some (ty0 k)) ∧ (∀ a, a < N → ∀ b, b < N → a ≠ b → (T a).2.1 ≠ (T b).2.1) ∧ (T k).2.2.2 = false ∧ parseFieldDescriptor (T k).2.2.1 = some ty
section JHEAP
variable {X : jX} {G : jG} {B0 : Nat} {κ : Int → Option jKd} {n kc ks : Nat} {Q : State → Prop} {nL : Nat} {φ : jPhi} {pc : Nat} {lv : List (Option Value)} {st : List Value} {cc : ByteArray} {own : String} {d : Nat}
theorem j_getV (F : jF X G cc nL own d kc ks) {index ci N k : Nat} {i : Int} {cs : List jSl} {sl : jSl} {n' : Nat} (hf : jLF own index ci N k) (hκ : κ i = some (.inl (ci, cs))) (hcs : cs[k]? = some sl) (hd : decode cc pc = .ok (.getfield index, 3)) (hn : pc + 3 = n') (kk : jJ X G B0 κ n kc ks Q nL φ n' lv (jval B0 sl (φ i k) :: st)) : jJ X G B0 κ n kc ks Q nL φ pc lv (rf B0 i :: st) := by
  subst hn; intro H locs ls hP hS hl
  obtain ⟨C, T, hc, hk, hin, hlink⟩ := hf
  obtain ⟨cell, q1, q2, q3, q4⟩ := (hP.2 i _ hκ).2
  obtain ⟨hSl, hfc, kC, hkC, hkind⟩ := F.2.2.2.2.2.1.1.1 ci _ hc
  obtain ⟨cf, kf, fi, f, hi, hsl⟩ := hSl k hk
  have hkl : k < cs.length := (List.getElem?_eq_some_iff.mp hcs).1
  refine W.getf F.1 F.2.1 F.2.2.2.1 (F.2.2.2.2.1 _ hlink) hi (u_facts hfc hkC (u_lays F.2.2.2.2.1 hin hk) hi).1 q1 (by rw [q3]; exact fun h => by cases h) (v := jval B0 sl (φ i k)) ?_ rfl rfl hd (kk H locs ls hP hS hl)
  rw [hsl, q4 k hkl]
  simp [List.getD, hcs]
theorem j_getI (F : jF X G cc nL own d kc ks) {index ci N k : Nat} {i : Int} {cs : List jSl} {n' : Nat} (kz : Int) (hkz : ((k : Nat) : Int) = kz) (hf : jLF own index ci N k) (hκ : κ i = some (.inl (ci, cs))) (hcs : cs[k]? = some (.inr 0)) (hd : decode cc pc = .ok (.getfield index, 3)) (hn : pc + 3 = n') (kk : jJ X G B0 κ n kc ks Q nL φ n' lv (iv (φ i kz) :: st)) : jJ X G B0 κ n kc ks Q nL φ pc lv (rf B0 i :: st) := by
  subst hkz
  exact j_getV F hf hκ hcs hd hn kk
theorem j_getL (F : jF X G cc nL own d kc ks) {index ci N k : Nat} {i : Int} {cs : List jSl} {n' : Nat} (kz : Int) (hkz : ((k : Nat) : Int) = kz) (hf : jLF own index ci N k) (hκ : κ i = some (.inl (ci, cs))) (hcs : cs[k]? = some (.inr 1)) (hd : decode cc pc = .ok (.getfield index, 3)) (hn : pc + 3 = n') (kk : jJ X G B0 κ n kc ks Q nL φ n' lv (lvv (φ i kz) :: st)) : jJ X G B0 κ n kc ks Q nL φ pc lv (rf B0 i :: st) := by
  subst hkz
  exact j_getV F hf hκ hcs hd hn kk
theorem j_getR (F : jF X G cc nL own d kc ks) {index ci N k : Nat} {i t : Int} {cs : List jSl} {n' : Nat} (hf : jLF own index ci N k) (hκ : κ i = some (.inl (ci, cs))) (hcs : cs[k]? = some (.inl t)) (hd : decode cc pc = .ok (.getfield index, 3)) (hn : pc + 3 = n') (kk : jJ X G B0 κ n kc ks Q nL φ n' lv (rf B0 t :: st)) : jJ X G B0 κ n kc ks Q nL φ pc lv (rf B0 i :: st) := j_getV F hf hκ hcs hd hn kk
theorem j_putV (F : jF X G cc nL own d kc ks) {index ci N k : Nat} {ty : FieldType} {i z : Int} {cs : List jSl} {sl : jSl} {v : Value} {n' : Nat} (hf : jLP own index ci N k ty) (hκ : κ i = some (.inl (ci, cs))) (hlen : cs.length = N) (hcs : cs[k]? = some sl) (hv : v = jval B0 sl z) (hnar : narrow ty v = v) (hfit : fits ty v = true) (hd : decode cc pc = .ok (.putfield index, 3)) (hn : pc + 3 = n') (kk : ∀ φ' : jPhi, φ' = zU φ i k z → jJ X G B0 κ n kc ks Q nL φ' n' lv st) : jJ X G B0 κ n kc ks Q nL φ pc lv (v :: rf B0 i :: st) := by
  subst hn; intro H locs ls hP hS hl
  obtain ⟨C, T, ty0, hc, hk, hin, hlink, hty, hnm, hfin, hdty⟩ := hf
  have hap := va_apart (own := own) F.2.2.2.2.1 hin ty0 hty hnm F.2.2.2.2.2.1.1 hc
  obtain ⟨cell, q1, q2, q3, q4⟩ := (hP.2 i _ hκ).2
  obtain ⟨hSl, hfc, kC, hkC, hkind⟩ := F.2.2.2.2.2.1.1.1 ci _ hc
  obtain ⟨cf, kf, fi, f, hi, hsl⟩ := hSl k hk
  have hlay := F.2.2.2.2.1 _ (hin _ (u_in_lay hk))
  unfold u_lay at hlay
  rw [if_neg (by rw [hfin]; decide)] at hlay
  have hst := (u_facts hfc hkC (u_lays F.2.2.2.2.1 hin hk) hi).1
  have h6 := u_store hfc hkC hkind hlay hi hdty hnar hfit
  have hkl : k < cs.length := (List.getElem?_eq_some_iff.mp hcs).1
  refine W.putK F.1 F.2.1 (f := f) ⟨F.2.2.2.1, F.2.2.2.2.1 _ hlink, ⟨_, _, _, hi⟩, hst⟩ (by rw [q2]; exact h6) q1 q3 (by rw [hsl]; exact k2_hasslot (q4 k hkl)) rfl rfl hd fun H' e1 e2 e3 => ?_
  rw [hsl] at e1 ⊢
  refine kk _ rfl H' _ ls (hP.put hκ e2 e3 ?_) (hS.put e2 e3 (Nat.le_add_right _ _)) hl
  unfold jcell
  subst hlen
  refine t_OB.to (V := updV (fun k => jval B0 (cs.getD k (.inr 2)) (φ i k)) k v) ⟨_, e1, q2, q3, t_set q4 hap hkl v⟩ (fun j hj => ?_)
  by_cases e : j = k
  · subst e
    simp [updV, zU, List.getD, hcs, hv]
  · have e2 : ¬ (j : Int) = (k : Int) := fun q => e (by omega)
    simp [updV, zU, e, e2]
theorem j_putI (F : jF X G cc nL own d kc ks) {index ci N k : Nat} {i z : Int} {cs : List jSl} {n' : Nat} (kz : Int) (hkz : ((k : Nat) : Int) = kz) (hf : jLP own index ci N k .int) (hκ : κ i = some (.inl (ci, cs))) (hlen : cs.length = N) (hcs : cs[k]? = some (.inr 0)) (hd : decode cc pc = .ok (.putfield index, 3)) (hn : pc + 3 = n') (kk : ∀ φ' : jPhi, φ' = zU φ i kz z → jJ X G B0 κ n kc ks Q nL φ' n' lv st) : jJ X G B0 κ n kc ks Q nL φ pc lv (iv z :: rf B0 i :: st) := by
  subst hkz
  exact j_putV F hf hκ hlen hcs rfl rfl rfl hd hn kk
theorem j_putB (F : jF X G cc nL own d kc ks) {index ci N k : Nat} {i z : Int} {cs : List jSl} {n' : Nat} (kz : Int) (hkz : ((k : Nat) : Int) = kz) (hz : z = 0 ∨ z = 1) (hf : jLP own index ci N k .boolean) (hκ : κ i = some (.inl (ci, cs))) (hlen : cs.length = N) (hcs : cs[k]? = some (.inr 0)) (hd : decode cc pc = .ok (.putfield index, 3)) (hn : pc + 3 = n') (kk : ∀ φ' : jPhi, φ' = zU φ i kz z → jJ X G B0 κ n kc ks Q nL φ' n' lv st) : jJ X G B0 κ n kc ks Q nL φ pc lv (iv z :: rf B0 i :: st) := by
  subst hkz
  exact j_putV F hf hκ hlen hcs rfl (by rcases hz with rfl | rfl <;> decide) (by rcases hz with rfl | rfl <;> decide) hd hn kk
theorem j_putL (F : jF X G cc nL own d kc ks) {index ci N k : Nat} {i z : Int} {cs : List jSl} {n' : Nat} (kz : Int) (hkz : ((k : Nat) : Int) = kz) (hf : jLP own index ci N k .long) (hκ : κ i = some (.inl (ci, cs))) (hlen : cs.length = N) (hcs : cs[k]? = some (.inr 1)) (hd : decode cc pc = .ok (.putfield index, 3)) (hn : pc + 3 = n') (kk : ∀ φ' : jPhi, φ' = zU φ i kz z → jJ X G B0 κ n kc ks Q nL φ' n' lv st) : jJ X G B0 κ n kc ks Q nL φ pc lv (lvv z :: rf B0 i :: st) := by
  subst hkz
  exact j_putV F hf hκ hlen hcs rfl rfl rfl hd hn kk
theorem j_iald (F : jF X G cc nL own d kc ks) {N : Nat} {i z : Int} {n' : Nat} (hκ : κ i = some (.inr (.inl N))) (hN : N ≤ 2147483647) (hz : 0 ≤ z ∧ z < (N : Int)) (hd : decode cc pc = .ok (.iaload, 1)) (hn : pc + 1 = n') (kk : jJ X G B0 κ n kc ks Q nL φ n' lv (iv (φ i z) :: st)) : jJ X G B0 κ n kc ks Q nL φ pc lv (iv z :: rf B0 i :: st) := by
  subst hn; intro H locs ls hP hS hl
  have hc : H[B0 + i.toNat]? = some (arrV G.2.1 N (fun j => iv (φ i j))) := (hP.2 i _ hκ).2
  have hA : ArrOfT X.s G.2.1 .int := (F.2.2.2.2.2.1.1.2 0 _ rfl).1
  have e1 : (zI z).toNatClampNeg = z.toNat := zI_nat hz.1 (by omega)
  have e2 : ((z.toNat : Nat) : Int) = z := by omega
  refine W.iald (v := iv (φ i z)) F.1 F.2.1 hc (hA N _) (fun q => by cases q) (by rw [arrV_size]; exact zI_in hz.1 hz.2 hN) ?_ rfl rfl hd (kk H locs ls hP hS hl)
  rw [e1, arrV_read _ _ (by omega : z.toNat < N), e2]
theorem j_aald (F : jF X G cc nL own d kc ks) {N : Nat} {i z b : Int} {n' : Nat} (hκ : κ i = some (.inr (.inr (N, b)))) (hN : N ≤ 2147483647) (hz : 0 ≤ z ∧ z < (N : Int)) (hd : decode cc pc = .ok (.aaload, 1)) (hn : pc + 1 = n') (kk : jJ X G B0 κ n kc ks Q nL φ n' lv (rf B0 (b + z) :: st)) : jJ X G B0 κ n kc ks Q nL φ pc lv (iv z :: rf B0 i :: st) := by
  subst hn; intro H locs ls hP hS hl
  have hc : H[B0 + i.toNat]? = some (arrV G.2.2 N (fun j => rf B0 (b + j))) := (hP.2 i _ hκ).2
  have hA : ArrOfT X.s G.2.2 (.array .int) := (F.2.2.2.2.2.1.1.2 1 _ rfl).1
  have e1 : (zI z).toNatClampNeg = z.toNat := zI_nat hz.1 (by omega)
  have e2 : ((z.toNat : Nat) : Int) = z := by omega
  refine W.aald (v := rf B0 (b + z)) (ty := .array .int) F.1 F.2.1 hc (hA N _) rfl (fun q => by cases q) (by rw [arrV_size]; exact zI_in hz.1 hz.2 hN) ?_ rfl rfl hd (kk H locs ls hP hS hl)
  rw [e1, arrV_read _ _ (by omega : z.toNat < N), e2]
theorem j_iast (F : jF X G cc nL own d kc ks) {N : Nat} {i z x : Int} {n' : Nat} (hκ : κ i = some (.inr (.inl N))) (hN : N ≤ 2147483647) (hz : 0 ≤ z ∧ z < (N : Int)) (hd : decode cc pc = .ok (.iastore, 1)) (hn : pc + 1 = n') (kk : ∀ φ' : jPhi, φ' = zU φ i z x → jJ X G B0 κ n kc ks Q nL φ' n' lv st) : jJ X G B0 κ n kc ks Q nL φ pc lv (iv x :: iv z :: rf B0 i :: st) := by
  subst hn; intro H locs ls hP hS hl
  have hc : H[B0 + i.toNat]? = some (arrV G.2.1 N (fun j => iv (φ i j))) := (hP.2 i _ hκ).2
  have hA : ArrOfT X.s G.2.1 .int := (F.2.2.2.2.2.1.1.2 0 _ rfl).1
  have e1 : (zI z).toNatClampNeg = z.toNat := zI_nat hz.1 (by omega)
  refine W.iast F.1 F.2.1 hc (hA N _) (fun q => by cases q) (by rw [arrV_size]; exact zI_in hz.1 hz.2 hN) rfl rfl hd fun H' h1 h2 h3 => ?_
  refine kk _ rfl H' _ ls (hP.put hκ h2 h3 ?_) (hS.put h2 h3 (Nat.le_add_right _ _)) hl
  unfold jcell
  rw [h1, arrV_store, e1]
  congr 2
  funext j
  by_cases e : j = z.toNat
  · have e2 : z = (j : Int) := by omega
    subst e2
    simp [updV, zU, iv]
  · have e2 : ¬ (j : Int) = z := fun q => e (by omega)
    simp [updV, zU, e, e2]
end JHEAP
/-! ===== contracts ===== -/
abbrev jRm (d : Nat) : Room := { frames := d, cells := 0, slots := 0, locals := 40 * d }
abbrev mkI (z : Int) : Option Value := some (iv z)
abbrev mkL (z : Int) : Option Value := some (lvv z)
abbrev mkV (_ : Int) : Option Value := none
abbrev mkR (B0 : Nat) (z : Int) : Option Value := some (rf B0 z)
def jQ (G : jG) (B0 : Nat) (κ : Int → Option jKd) (n : Nat) (mk : Int → Option Value) (post : Int → jPhi → Prop) : Array Value → State → Outcome → State → Prop :=
  fun _ st o t => (∃ (z : Int) (φ' : jPhi), o = .returned (mk z) ∧ post z φ' ∧ jP G B0 κ n φ' t.heap) ∧ va_F (fun q => B0 ≤ q) st t
def jPre (G : jG) (B0 : Nat) (κ : Int → Option jKd) (n : Nat) (φ : jPhi) (U : State) : Prop := jP G B0 κ n φ U.heap ∧ jK G U
/-- method y, called with av where the cells hold φ: it returns mk z, the cells hold φ', post z φ' -/
def jC (l : Launch) (G : jG) (B0 : Nat) (κ : Int → Option jKd) (n : Nat) (y : MethodName) (cc : ByteArray) (maxL : Nat) (ret : Option FieldType) (d : Nat) (av : List Value) (φ : jPhi) (mk : Int → Option Value) (post : Int → jPhi → Prop) : Prop :=
  Met l y (Cond.code y cc maxL ret :: lw_good) (jRm d) (va_Pc av (jPre G B0 κ n φ)) (jQ G B0 κ n mk post) 0 0 (fun q => B0 ≤ q)
theorem jPc_blind {G : jG} {B0 : Nat} {κ : Int → Option jKd} {n : Nat} {φ : jPhi} {av : List Value} : FrameBlind (va_Pc av (jPre G B0 κ n φ)) := fun _ _ _ _ h => ⟨h.1, h.2.1, h.2.2.calling⟩
/-- what the tables say of a call -/
def jLV (own : String) (index : Nat) (C : String) (y : MethodName) (bytes : ByteArray) (maxL : Nat) (ret : Option FieldType) (na : Nat) : Prop :=
  Cond.methodLink own index y ∈ lw_good ∧ Cond.instanceMethod y ∈ lw_good ∧ Cond.selects C y y ∈ lw_good ∧ Cond.initialized C ∈ lw_good ∧ Cond.code y bytes maxL ret ∈ lw_good ∧ (y.cls = C ∧ y.cls ≠ "java/lang/invoke/MethodHandle" ∧ y.cls ≠ "java/lang/invoke/VarHandle" ∧ (parseMethodDescriptor y.desc).map (fun d => d.parameters.length) = some na) ∧ maxL ≤ 21
def jLS (own : String) (index : Nat) (y : MethodName) (bytes : ByteArray) (maxL : Nat) (ret : Option FieldType) (na : Nat) : Prop :=
  Cond.methodLink own index y ∈ lw_good ∧ Cond.static y ∈ lw_good ∧ Cond.initialized y.cls ∈ lw_good ∧ Cond.code y bytes maxL ret ∈ lw_good ∧ (y.cls ≠ "java/lang/invoke/MethodHandle" ∧ y.cls ≠ "java/lang/invoke/VarHandle" ∧ (parseMethodDescriptor y.desc).map (fun d => d.parameters.length) = some na) ∧ maxL ≤ 21
def jLN (own : String) (index : Nat) (y : MethodName) (bytes : ByteArray) (maxL : Nat) (ret : Option FieldType) (na : Nat) : Prop :=
  Cond.methodLinkNest own index y "PricedCopies" ∈ jnest ∧ Cond.static y ∈ lw_good ∧ Cond.initialized y.cls ∈ lw_good ∧ Cond.code y bytes maxL ret ∈ lw_good ∧ (y.cls ≠ "java/lang/invoke/MethodHandle" ∧ y.cls ≠ "java/lang/invoke/VarHandle" ∧ (parseMethodDescriptor y.desc).map (fun d => d.parameters.length) = some na) ∧ maxL ≤ 21
theorem va_S.after {B0 : Nat} {H0 H H1 : Heap} {locs L : List Loc} (hS : va_S (fun q => B0 ≤ q) H0 H locs) (hz : H.size ≤ H1.size) (hk : ∀ q : Nat, q < H.size → ¬ B0 ≤ q → H1[q]? = H[q]?) (hL : ∀ q ∈ L, B0 ≤ q.base) : va_S (fun q => B0 ≤ q) H0 H1 (locs ++ L) :=
  ⟨Nat.le_trans hS.1 hz, fun q h1 h2 => (hk q (Nat.lt_of_lt_of_le h1 hS.1) h2).trans (hS.2.1 q h1 h2), fun q hq => by
    rcases List.mem_append.mp hq with h | h
    · exact hS.2.2 q h
    · exact hL q h⟩
section JCALL
variable {X : jX} {G : jG} {B0 : Nat} {κ : Int → Option jKd} {n kc ks : Nat} {Q : State → Prop} {nL : Nat} {φ : jPhi} {pc : Nat} {lv : List (Option Value)} {st : List Value} {cc : ByteArray} {own : String} {d : Nat}
variable {index : Nat} {C : String} {y : MethodName} {bytes : ByteArray} {maxL : Nat} {ret : Option FieldType} {d' : Nat} {As : List Value} {mk : Int → Option Value} {post : Int → jPhi → Prop}
theorem j_after {av : List Value} {H : Heap} {locs : List Loc} {ls : Array Slot} {st0 : List Value} (hS : va_S (fun q => B0 ≤ q) X.s.heap H locs) (hl : jlh ls nL lv) (hr : va_Run X.p X.l X.e X.R X.s X.m X.args X.below X.meth X.c H locs kc ks 0 0 (F0 X.m pc ls st0) st (jQ G B0 κ n mk post av.toArray) (fun q => B0 ≤ q))
    (kk : ∀ (z : Int) (φ' : jPhi), post z φ' → jJ X G B0 κ n kc ks Q nL φ' (pc + 3) lv ((mk z).toList ++ st)) : jW X H locs kc ks Q (F0 X.m pc ls st0) := by
  intro T hT Xs
  obtain ⟨v, st₀, t, T', L, h0, X', hL, e1, e2, ⟨⟨z, φ', hv, hp, hPt⟩, hz, hk⟩, sg⟩ := hr T hT Xs
  have hv' : v = mk z := by cases hv; rfl
  subst hv'
  rw [h0] at hz hk
  obtain ⟨t2, a1, b1⟩ := kk z φ' hp T'.heap (locs ++ L) ls (by rw [e1]; exact hPt) (hS.after (by rw [e1]; exact hz) (fun q h1 h2 => by rw [e1]; exact hk q h1 h2) hL) hl T' rfl X'
  exact ⟨t2, sg t2 a1, b1⟩
theorem j_callV (F : jF X G cc nL own d kc ks) (hL : jLV own index C y bytes maxL ret As.length) {i : Int} (hM : jC X.l G B0 κ n y bytes maxL ret d' (rf B0 i :: As) φ mk post) {ci N : Nat} {T : u_T} {cs : List jSl} (hκ : κ i = some (.inl (ci, cs))) (hc : jclasses[ci]? = some (C, T, N)) (hdd : d' + 1 ≤ d) (hcat : (st.map fun v => v.category).sum ≤ 8) (hd : decode cc pc = .ok (.invokevirtual index, 3))
    (kk : ∀ (z : Int) (φ' : jPhi), post z φ' → jJ X G B0 κ n kc ks Q nL φ' (pc + 3) lv ((mk z).toList ++ st)) : jJ X G B0 κ n kc ks Q nL φ pc lv (As.reverse ++ rf B0 i :: st) := by
  intro H locs ls hP hS hl
  obtain ⟨w1, w2, w3, w4, w5, w6, w7⟩ := hL
  have hG : GoodIn lw_good (wsV own index C y (Cond.code y bytes maxL ret :: lw_good)) := by
    intro w hw
    unfold wsV at hw
    rcases List.mem_append.mp hw with hw | hw
    · have hw' : w ∈ lw_good := by
        simp only [List.mem_cons, List.not_mem_nil, or_false] at hw
        rcases hw with rfl | rfl | rfl | rfl
        · exact w1
        · exact w2
        · exact w3
        · exact w4
      exact ⟨hw', lw_allgood _ hw'⟩
    · exact lw_goodIn w5 w hw
  obtain ⟨cell, q1, q2, q3, q4⟩ := (hP.2 i _ hκ).2
  have hfc := (F.2.2.2.2.2.1.1.1 ci _ hc).2.1
  refine j_after hS hl (av := rf B0 i :: As) (va_runV (C := C) (As := As) (rest := st) (b := B0 + i.toNat) ⟨F.1, F.2.1, F.2.2.1, F.2.2.2.1, F.2.2.2.2.1⟩ hM (cwV As.length F.2.2.2.2.1 hG rfl rfl rfl w6 ⟨by show d' + 1 ≤ _; have := F.2.2.2.2.2.2.1.1; omega, by show 8 + (maxL + 11) + 40 * d' ≤ _; have := F.2.2.2.2.2.2.1.2; omega⟩) ⟨jPc_blind, ⟨cell, q1, by rw [q3]; rfl, by rw [q2]; exact hfc⟩, fun U hU hW => ⟨rfl, by rw [hU]; exact hP, F.2.2.2.2.2.1.warm hW⟩⟩ rfl rfl hl.1 rfl (lv_room hcat) hd F.2.2.2.2.2.2.2) kk
theorem j_callS (F : jF X G cc nL own d kc ks) (hL : jLS own index y bytes maxL ret As.length) (hM : jC X.l G B0 κ n y bytes maxL ret d' As φ mk post) (hdd : d' + 1 ≤ d) (hcat : (st.map fun v => v.category).sum ≤ 8) (hd : decode cc pc = .ok (.invokestatic index, 3))
    (kk : ∀ (z : Int) (φ' : jPhi), post z φ' → jJ X G B0 κ n kc ks Q nL φ' (pc + 3) lv ((mk z).toList ++ st)) : jJ X G B0 κ n kc ks Q nL φ pc lv (As.reverse ++ st) := by
  intro H locs ls hP hS hl
  obtain ⟨w1, w2, w4, w5, w6, w7⟩ := hL
  have hG : GoodIn lw_good (va_wsS own index y (Cond.code y bytes maxL ret :: lw_good)) := by
    intro w hw
    unfold va_wsS at hw
    rcases List.mem_append.mp hw with hw | hw
    · have hw' : w ∈ lw_good := by
        simp only [List.mem_cons, List.not_mem_nil, or_false] at hw
        rcases hw with rfl | rfl | rfl
        · exact w1
        · exact w2
        · exact w4
      exact ⟨hw', lw_allgood _ hw'⟩
    · exact lw_goodIn w5 w hw
  refine j_after hS hl (av := As) (va_runS (As := As) (rest := st) ⟨F.1, F.2.1, F.2.2.1, F.2.2.2.1, F.2.2.2.2.1⟩ hM (va_cwS As.length F.2.2.2.2.1 hG rfl rfl rfl w6 ⟨by show d' + 1 ≤ _; have := F.2.2.2.2.2.2.1.1; omega, by show 8 + (maxL + 11) + 40 * d' ≤ _; have := F.2.2.2.2.2.2.1.2; omega⟩) ⟨jPc_blind, fun U hU hW => ⟨rfl, by rw [hU]; exact hP, F.2.2.2.2.2.1.warm hW⟩⟩ rfl rfl hl.1 rfl (lv_room hcat) hd F.2.2.2.2.2.2.2) kk
theorem j_callN (F : jF X G cc nL own d kc ks) (hL : jLN own index y bytes maxL ret As.length) (hM : jC X.l G B0 κ n y bytes maxL ret d' As φ mk post) (hdd : d' + 1 ≤ d) (hcat : (st.map fun v => v.category).sum ≤ 8) (hd : decode cc pc = .ok (.invokestatic index, 3))
    (kk : ∀ (z : Int) (φ' : jPhi), post z φ' → jJ X G B0 κ n kc ks Q nL φ' (pc + 3) lv ((mk z).toList ++ st)) : jJ X G B0 κ n kc ks Q nL φ pc lv (As.reverse ++ st) := by
  intro H locs ls hP hS hl
  obtain ⟨w1, w2, w4, w5, w6, w7⟩ := hL
  refine j_after hS hl (av := As) (va_runSN (As := As) (rest := st) ⟨F.1, F.2.1, F.2.2.1, F.2.2.2.1, F.2.2.2.2.1⟩ hM ⟨va_cnB As.length F.2.2.2.2.1 (lw_goodIn w5) rfl rfl rfl (F.2.2.2.2.2.1.2 _ w1) (F.2.2.2.2.1 _ w4) w6 ⟨by show d' + 1 ≤ _; have := F.2.2.2.2.2.2.1.1; omega, by show 8 + (maxL + 11) + 40 * d' ≤ _; have := F.2.2.2.2.2.2.1.2; omega⟩, F.2.2.2.2.1 _ w2, trivial⟩ ⟨jPc_blind, fun U hU hW => ⟨rfl, by rw [hU]; exact hP, F.2.2.2.2.2.1.warm hW⟩⟩ rfl rfl hl.1 rfl (lv_room hcat) hd F.2.2.2.2.2.2.2) kk
end JCALL
end
section
/-- a method's end -/
def jE (X : jX) (G : jG) (B0 : Nat) (κ : Int → Option jKd) (n : Nat) (Q : State → Prop) (ret : Option FieldType) (mk : Int → Option Value) (post : Int → jPhi → Prop) : Prop :=
  X.meth.sig.returnType = ret ∧ X.meth.locks = false ∧ Q = MQ X.below (jQ G B0 κ n mk post) X.args X.s 0 0 (fun q => B0 ≤ q)
theorem jC_start {l : Launch} {G : jG} {B0 : Nat} {κ : Int → Option jKd} {n : Nat} {y : MethodName} {cc : ByteArray} {maxL : Nat} {ret : Option FieldType} {d : Nat} {av : List Value} {φ : jPhi} {mk : Int → Option Value} {post : Int → jPhi → Prop} (own : String) (lv0 : List (Option Value)) (hy : plainName y.cls = true) (hown : y.cls = own) (hlen : (lg_sl av).length ≤ maxL) (hl0 : jprs 0 lv0 = lv_args 0 av)
    (body : ∀ (X : jX) (Q : State → Prop), jF X G cc maxL own d 0 0 → jE X G B0 κ n Q ret mk post → jJ X G B0 κ n 0 0 Q maxL φ 0 lv0 []) : jC l G B0 κ n y cc maxL ret d av φ mk post := by
  subst hown
  refine Met.ofW (cc := cc) (maxL := maxL) (ret := ret) hy rfl ?_
  intro p e s m args below meth c s₁ B hml hv
  obtain ⟨rfl, hP, hK⟩ := hv
  have hts := atoms_spec (ws := Cond.code y cc maxL ret :: lw_good) B.pre
  have hown : s.vm.findClass y.cls = some m.cls := findClass_of_methodNamed B.named
  have hl := lv_entry av (n := maxL) hlen
  rw [lg_entry_eq]
  have h := body (p, l, e, (headSpec (Cond.code y cc maxL ret :: lw_good) (jRm d)).room, s, m, av.toArray, below, meth, c) _ ⟨B.exec, B.bytes, hml, hown, fun w hw => hts w (List.mem_cons_of_mem _ hw), hK, ⟨Nat.le_refl _, Nat.le_refl _⟩, ⟨Nat.zero_le _, Nat.zero_le _⟩⟩ ⟨B.returns, B.notSynchronized, rfl⟩
  refine h s.heap [] _ hP va_S.rf ?_
  unfold jlh
  rw [hl0]
  exact hl
section JEND
variable {X : jX} {G : jG} {B0 : Nat} {κ : Int → Option jKd} {n kc ks : Nat} {Q : State → Prop} {nL : Nat} {φ : jPhi} {pc : Nat} {lv : List (Option Value)} {st : List Value} {cc : ByteArray} {own : String} {d : Nat} {mk : Int → Option Value} {post : Int → jPhi → Prop}
theorem j_ireturn (F : jF X G cc nL own d 0 0) (E : jE X G B0 κ n Q (some .int) mkI post) {z : Int} (hd : decode cc pc = .ok (.ireturn, 1)) (hp : post z φ) : jJ X G B0 κ n 0 0 Q nL φ pc lv [iv z] := by
  obtain ⟨hr, hlk, rfl⟩ := E
  intro H locs ls hP hS hl
  exact W.iret F.1 F.2.1 hr (fun t ht hW => ⟨⟨z, φ, rfl, hp, by rw [ht]; exact hP⟩, hS.F ht⟩) hS.2.2 hd (hlocks := hlk)
theorem j_zreturn (F : jF X G cc nL own d 0 0) (E : jE X G B0 κ n Q (some .boolean) mkI post) {z : Int} (hz : z = 0 ∨ z = 1) (hd : decode cc pc = .ok (.ireturn, 1)) (hp : post z φ) : jJ X G B0 κ n 0 0 Q nL φ pc lv [iv z] := by
  obtain ⟨hr, hlk, rfl⟩ := E
  intro H locs ls hP hS hl
  exact W.zret F.1 F.2.1 hr (by rcases hz with rfl | rfl <;> decide) (fun t ht hW => ⟨⟨z, φ, rfl, hp, by rw [ht]; exact hP⟩, hS.F ht⟩) hS.2.2 hd (hlocks := hlk)
theorem j_lreturn (F : jF X G cc nL own d 0 0) (E : jE X G B0 κ n Q (some .long) mkL post) {z : Int} (hd : decode cc pc = .ok (.lreturn, 1)) (hp : post z φ) : jJ X G B0 κ n 0 0 Q nL φ pc lv [lvv z] := by
  obtain ⟨hr, hlk, rfl⟩ := E
  intro H locs ls hP hS hl
  exact W.lret F.1 F.2.1 hr (fun t ht hW => ⟨⟨z, φ, rfl, hp, by rw [ht]; exact hP⟩, hS.F ht⟩) hS.2.2 hd (hlocks := hlk)
theorem j_areturn (F : jF X G cc nL own d 0 0) {C : String} (E : jE X G B0 κ n Q (some (.object C)) (mkR B0) post) {z : Int} (hd : decode cc pc = .ok (.areturn, 1)) (hp : post z φ) : jJ X G B0 κ n 0 0 Q nL φ pc lv [rf B0 z] := by
  obtain ⟨hr, hlk, rfl⟩ := E
  intro H locs ls hP hS hl
  exact W.aret F.1 F.2.1 hr (Or.inl ⟨_, rfl⟩) (Or.inr ⟨_, rfl⟩) (fun t ht hW => ⟨⟨z, φ, rfl, hp, by rw [ht]; exact hP⟩, hS.F ht⟩) hS.2.2 hd (hlocks := hlk)
theorem j_return (F : jF X G cc nL own d 0 0) (E : jE X G B0 κ n Q none mkV post) (hd : decode cc pc = .ok (.return_, 1)) (hp : post 0 φ) : jJ X G B0 κ n 0 0 Q nL φ pc lv [] := by
  obtain ⟨hr, hlk, rfl⟩ := E
  intro H locs ls hP hS hl
  exact W.vret F.1 F.2.1 hr (fun t ht hW => ⟨⟨0, φ, rfl, hp, by rw [ht]; exact hP⟩, hS.F ht⟩) hS.2.2 hd (hlocks := hlk)
theorem j_max (F : jF X G cc nL own d kc ks) {index : Nat} {a b : Int} {n' : Nat} (hq : Cond.methodLink own index yJ9_max_7cf53 ∈ lw_good) (hd1 : 1 ≤ d) (hcat : (st.map fun v => v.category).sum ≤ 8) (ha : -2147483648 ≤ a ∧ a ≤ 2147483647) (hb : -2147483648 ≤ b ∧ b ≤ 2147483647) (hd : decode cc pc = .ok (.invokestatic index, 3)) (hn : pc + 3 = n') (kk : jJ X G B0 κ n kc ks Q nL φ n' lv (iv (max a b) :: st)) : jJ X G B0 κ n kc ks Q nL φ pc lv (iv b :: iv a :: st) := by
  subst hn; intro H locs ls hP hS hl
  have h := kk H locs ls hP hS hl
  have e : iv (max a b) = .int (if zI a < zI b then zI b else zI a) := by
    unfold iv
    by_cases q : a < b
    · rw [if_pos ((zI_lt ha hb).mpr q)]; congr 2; omega
    · rw [if_neg (fun h => q ((zI_lt ha hb).mp h))]; congr 2; omega
  rw [e] at h
  have hR := F.2.2.2.2.2.2.1
  exact va_mmax F.1 F.2.1 (F.2.2.1.trans hl.1.symm) F.2.2.2.1 (F.2.2.2.2.1 _ hq) (F.2.2.2.2.1 _ q_451) (F.2.2.2.2.1 _ q_10) (F.2.2.2.2.1 _ q_452) (by omega) (by omega) F.2.2.2.2.2.2.2.1 F.2.2.2.2.2.2.2.2 hd h
theorem j_min (F : jF X G cc nL own d kc ks) {index : Nat} {a b : Int} {n' : Nat} (hq : Cond.methodLink own index yJ9_min_7cf53 ∈ lw_good) (hd1 : 1 ≤ d) (hcat : (st.map fun v => v.category).sum ≤ 8) (ha : -2147483648 ≤ a ∧ a ≤ 2147483647) (hb : -2147483648 ≤ b ∧ b ≤ 2147483647) (hd : decode cc pc = .ok (.invokestatic index, 3)) (hn : pc + 3 = n') (kk : jJ X G B0 κ n kc ks Q nL φ n' lv (iv (min a b) :: st)) : jJ X G B0 κ n kc ks Q nL φ pc lv (iv b :: iv a :: st) := by
  subst hn; intro H locs ls hP hS hl
  have h := kk H locs ls hP hS hl
  have e : iv (min a b) = .int (if zI b < zI a then zI b else zI a) := by
    unfold iv
    by_cases q : b < a
    · rw [if_pos ((zI_lt hb ha).mpr q)]; congr 2; omega
    · rw [if_neg (fun h => q ((zI_lt hb ha).mp h))]; congr 2; omega
  rw [e] at h
  have hR := F.2.2.2.2.2.2.1
  exact va_mmin F.1 F.2.1 (F.2.2.1.trans hl.1.symm) F.2.2.2.1 (F.2.2.2.2.1 _ hq) (F.2.2.2.2.1 _ q_319) (F.2.2.2.2.1 _ q_10) (F.2.2.2.2.1 _ q_320) (by omega) (by omega) F.2.2.2.2.2.2.2.1 F.2.2.2.2.2.2.2.2 hd h
theorem j_lstore_n (F : jF X G cc nL own d kc ks) {i : Fin 4} {z : Int} {n' : Nat} {lv' : List (Option Value)} (hs : lv.set (i : Nat) (some (lvv z)) = lv') (hi : (i : Nat) + 1 < nL) (h2 : ∀ w : Value, lv[(i : Nat) + 1]? ≠ some (some w)) (hc : ∀ w : Value, 0 < (i : Nat) → lv[(i : Nat) - 1]? = some (some w) → w.category = 1) (hd : decode cc pc = .ok (.lstore_n i, 1)) (hn : pc + 1 = n') (k : jJ X G B0 κ n kc ks Q nL φ n' lv' st) : jJ X G B0 κ n kc ks Q nL φ pc lv (lvv z :: st) := by
  subst hn; subst hs; intro H locs ls hP hS hl'
  refine lv_lstore_n F.1 F.2.1 hd rfl hl' hi rfl (fun ls' h => k H locs ls' hP hS ?_)
  refine ⟨h.1, h.2.1, fun q hq => h.2.2 q ?_⟩
  obtain ⟨k, w⟩ := q
  obtain ⟨-, h3⟩ := (jprs_mem _ 0 k w).mp hq
  by_cases hk : k = (i : Nat)
  · subst hk
    rw [Nat.sub_zero, List.getElem?_set] at h3
    simp at h3
    rw [← h3.2]
    exact List.mem_cons_self
  · rw [Nat.sub_zero, List.getElem?_set_ne (Ne.symm hk)] at h3
    refine List.mem_cons_of_mem _ (List.mem_filter.mpr ⟨(jprs_mem lv 0 k w).mpr ⟨Nat.zero_le _, h3⟩, ?_⟩)
    have hk3 : ¬ k = (i : Nat) + 1 := fun q => h2 w (q ▸ h3)
    by_cases hk2 : k + 1 = (i : Nat)
    · have := hc w (by omega) (by rw [← hk2]; exact h3)
      simp [hk, hk3, this]
    · simp [hk, hk2, hk3]
end JEND
section JLOC
variable {X : jX} {G : jG} {B0 : Nat} {κ : Int → Option jKd} {n kc ks : Nat} {Q : State → Prop} {nL : Nat} {φ : jPhi} {pc : Nat} {lv : List (Option Value)} {st : List Value} {cc : ByteArray} {own : String} {d : Nat}
theorem j_iload_0 (F : jF X G cc nL own d kc ks) {r : List (Option Value)} {z : Int} {n' : Nat} (hd : decode cc pc = .ok (.iload_n 0, 1)) (hn : pc + 1 = n') (k : jJ X G B0 κ n kc ks Q nL φ n' (some (iv z) :: r) (iv z :: st)) : jJ X G B0 κ n kc ks Q nL φ pc (some (iv z) :: r) st := j_iload_n F (i := 0) rfl hd hn k
theorem j_aload_0 (F : jF X G cc nL own d kc ks) {r : List (Option Value)} {z : Int} {n' : Nat} (hd : decode cc pc = .ok (.aload_n 0, 1)) (hn : pc + 1 = n') (k : jJ X G B0 κ n kc ks Q nL φ n' (some (rf B0 z) :: r) (rf B0 z :: st)) : jJ X G B0 κ n kc ks Q nL φ pc (some (rf B0 z) :: r) st := j_aload_n F (i := 0) rfl hd hn k
theorem j_iload_1 (F : jF X G cc nL own d kc ks) {a0 : Option Value} {r : List (Option Value)} {z : Int} {n' : Nat} (hd : decode cc pc = .ok (.iload_n 1, 1)) (hn : pc + 1 = n') (k : jJ X G B0 κ n kc ks Q nL φ n' (a0 :: some (iv z) :: r) (iv z :: st)) : jJ X G B0 κ n kc ks Q nL φ pc (a0 :: some (iv z) :: r) st := j_iload_n F (i := 1) rfl hd hn k
theorem j_aload_1 (F : jF X G cc nL own d kc ks) {a0 : Option Value} {r : List (Option Value)} {z : Int} {n' : Nat} (hd : decode cc pc = .ok (.aload_n 1, 1)) (hn : pc + 1 = n') (k : jJ X G B0 κ n kc ks Q nL φ n' (a0 :: some (rf B0 z) :: r) (rf B0 z :: st)) : jJ X G B0 κ n kc ks Q nL φ pc (a0 :: some (rf B0 z) :: r) st := j_aload_n F (i := 1) rfl hd hn k
theorem j_istore_1 (F : jF X G cc nL own d kc ks) {a0 : Option Value} {a1 : Option Value} {r : List (Option Value)} {z : Int} {n' : Nat} (hi : 1 < nL) (hc : ∀ w, a0 = some w → w.category = 1) (hd : decode cc pc = .ok (.istore_n 1, 1)) (hn : pc + 1 = n') (k : jJ X G B0 κ n kc ks Q nL φ n' (a0 :: some (iv z) :: r) st) : jJ X G B0 κ n kc ks Q nL φ pc (a0 :: a1 :: r) (iv z :: st) := j_istore_n F (i := 1) rfl hi (fun w _ h => hc w (Option.some.inj (show some a0 = some (some w) from h))) hd hn k
theorem j_astore_1 (F : jF X G cc nL own d kc ks) {a0 : Option Value} {a1 : Option Value} {r : List (Option Value)} {z : Int} {n' : Nat} (hi : 1 < nL) (hc : ∀ w, a0 = some w → w.category = 1) (hd : decode cc pc = .ok (.astore_n 1, 1)) (hn : pc + 1 = n') (k : jJ X G B0 κ n kc ks Q nL φ n' (a0 :: some (rf B0 z) :: r) st) : jJ X G B0 κ n kc ks Q nL φ pc (a0 :: a1 :: r) (rf B0 z :: st) := j_astore_n F (i := 1) rfl hi (fun w _ h => hc w (Option.some.inj (show some a0 = some (some w) from h))) hd hn k
theorem j_iinc_1 (F : jF X G cc nL own d kc ks) {a0 : Option Value} {r : List (Option Value)} {z c : Int} {n' : Nat} (hi : 1 < nL) (hc : ∀ w, a0 = some w → w.category = 1) (hd : decode cc pc = .ok (.iinc 1 c, 3)) (hn : pc + 3 = n') (k : jJ X G B0 κ n kc ks Q nL φ n' (a0 :: some (iv (z + c)) :: r) st) : jJ X G B0 κ n kc ks Q nL φ pc (a0 :: some (iv z) :: r) st := j_iinc F (i := 1) rfl rfl hi (fun w _ h => hc w (Option.some.inj (show some a0 = some (some w) from h))) hd hn k
theorem j_iload_2 (F : jF X G cc nL own d kc ks) {a0 a1 : Option Value} {r : List (Option Value)} {z : Int} {n' : Nat} (hd : decode cc pc = .ok (.iload_n 2, 1)) (hn : pc + 1 = n') (k : jJ X G B0 κ n kc ks Q nL φ n' (a0 :: a1 :: some (iv z) :: r) (iv z :: st)) : jJ X G B0 κ n kc ks Q nL φ pc (a0 :: a1 :: some (iv z) :: r) st := j_iload_n F (i := 2) rfl hd hn k
theorem j_aload_2 (F : jF X G cc nL own d kc ks) {a0 a1 : Option Value} {r : List (Option Value)} {z : Int} {n' : Nat} (hd : decode cc pc = .ok (.aload_n 2, 1)) (hn : pc + 1 = n') (k : jJ X G B0 κ n kc ks Q nL φ n' (a0 :: a1 :: some (rf B0 z) :: r) (rf B0 z :: st)) : jJ X G B0 κ n kc ks Q nL φ pc (a0 :: a1 :: some (rf B0 z) :: r) st := j_aload_n F (i := 2) rfl hd hn k
theorem j_istore_2 (F : jF X G cc nL own d kc ks) {a0 a1 : Option Value} {a2 : Option Value} {r : List (Option Value)} {z : Int} {n' : Nat} (hi : 2 < nL) (hc : ∀ w, a1 = some w → w.category = 1) (hd : decode cc pc = .ok (.istore_n 2, 1)) (hn : pc + 1 = n') (k : jJ X G B0 κ n kc ks Q nL φ n' (a0 :: a1 :: some (iv z) :: r) st) : jJ X G B0 κ n kc ks Q nL φ pc (a0 :: a1 :: a2 :: r) (iv z :: st) := j_istore_n F (i := 2) rfl hi (fun w _ h => hc w (Option.some.inj (show some a1 = some (some w) from h))) hd hn k
theorem j_astore_2 (F : jF X G cc nL own d kc ks) {a0 a1 : Option Value} {a2 : Option Value} {r : List (Option Value)} {z : Int} {n' : Nat} (hi : 2 < nL) (hc : ∀ w, a1 = some w → w.category = 1) (hd : decode cc pc = .ok (.astore_n 2, 1)) (hn : pc + 1 = n') (k : jJ X G B0 κ n kc ks Q nL φ n' (a0 :: a1 :: some (rf B0 z) :: r) st) : jJ X G B0 κ n kc ks Q nL φ pc (a0 :: a1 :: a2 :: r) (rf B0 z :: st) := j_astore_n F (i := 2) rfl hi (fun w _ h => hc w (Option.some.inj (show some a1 = some (some w) from h))) hd hn k
theorem j_iinc_2 (F : jF X G cc nL own d kc ks) {a0 a1 : Option Value} {r : List (Option Value)} {z c : Int} {n' : Nat} (hi : 2 < nL) (hc : ∀ w, a1 = some w → w.category = 1) (hd : decode cc pc = .ok (.iinc 2 c, 3)) (hn : pc + 3 = n') (k : jJ X G B0 κ n kc ks Q nL φ n' (a0 :: a1 :: some (iv (z + c)) :: r) st) : jJ X G B0 κ n kc ks Q nL φ pc (a0 :: a1 :: some (iv z) :: r) st := j_iinc F (i := 2) rfl rfl hi (fun w _ h => hc w (Option.some.inj (show some a1 = some (some w) from h))) hd hn k
theorem j_iload_3 (F : jF X G cc nL own d kc ks) {a0 a1 a2 : Option Value} {r : List (Option Value)} {z : Int} {n' : Nat} (hd : decode cc pc = .ok (.iload_n 3, 1)) (hn : pc + 1 = n') (k : jJ X G B0 κ n kc ks Q nL φ n' (a0 :: a1 :: a2 :: some (iv z) :: r) (iv z :: st)) : jJ X G B0 κ n kc ks Q nL φ pc (a0 :: a1 :: a2 :: some (iv z) :: r) st := j_iload_n F (i := 3) rfl hd hn k
theorem j_aload_3 (F : jF X G cc nL own d kc ks) {a0 a1 a2 : Option Value} {r : List (Option Value)} {z : Int} {n' : Nat} (hd : decode cc pc = .ok (.aload_n 3, 1)) (hn : pc + 1 = n') (k : jJ X G B0 κ n kc ks Q nL φ n' (a0 :: a1 :: a2 :: some (rf B0 z) :: r) (rf B0 z :: st)) : jJ X G B0 κ n kc ks Q nL φ pc (a0 :: a1 :: a2 :: some (rf B0 z) :: r) st := j_aload_n F (i := 3) rfl hd hn k
theorem j_istore_3 (F : jF X G cc nL own d kc ks) {a0 a1 a2 : Option Value} {a3 : Option Value} {r : List (Option Value)} {z : Int} {n' : Nat} (hi : 3 < nL) (hc : ∀ w, a2 = some w → w.category = 1) (hd : decode cc pc = .ok (.istore_n 3, 1)) (hn : pc + 1 = n') (k : jJ X G B0 κ n kc ks Q nL φ n' (a0 :: a1 :: a2 :: some (iv z) :: r) st) : jJ X G B0 κ n kc ks Q nL φ pc (a0 :: a1 :: a2 :: a3 :: r) (iv z :: st) := j_istore_n F (i := 3) rfl hi (fun w _ h => hc w (Option.some.inj (show some a2 = some (some w) from h))) hd hn k
theorem j_astore_3 (F : jF X G cc nL own d kc ks) {a0 a1 a2 : Option Value} {a3 : Option Value} {r : List (Option Value)} {z : Int} {n' : Nat} (hi : 3 < nL) (hc : ∀ w, a2 = some w → w.category = 1) (hd : decode cc pc = .ok (.astore_n 3, 1)) (hn : pc + 1 = n') (k : jJ X G B0 κ n kc ks Q nL φ n' (a0 :: a1 :: a2 :: some (rf B0 z) :: r) st) : jJ X G B0 κ n kc ks Q nL φ pc (a0 :: a1 :: a2 :: a3 :: r) (rf B0 z :: st) := j_astore_n F (i := 3) rfl hi (fun w _ h => hc w (Option.some.inj (show some a2 = some (some w) from h))) hd hn k
theorem j_iinc_3 (F : jF X G cc nL own d kc ks) {a0 a1 a2 : Option Value} {r : List (Option Value)} {z c : Int} {n' : Nat} (hi : 3 < nL) (hc : ∀ w, a2 = some w → w.category = 1) (hd : decode cc pc = .ok (.iinc 3 c, 3)) (hn : pc + 3 = n') (k : jJ X G B0 κ n kc ks Q nL φ n' (a0 :: a1 :: a2 :: some (iv (z + c)) :: r) st) : jJ X G B0 κ n kc ks Q nL φ pc (a0 :: a1 :: a2 :: some (iv z) :: r) st := j_iinc F (i := 3) rfl rfl hi (fun w _ h => hc w (Option.some.inj (show some a2 = some (some w) from h))) hd hn k
theorem j_iload_4 (F : jF X G cc nL own d kc ks) {a0 a1 a2 a3 : Option Value} {r : List (Option Value)} {z : Int} {n' : Nat} (hd : decode cc pc = .ok (.iload 4, 2)) (hn : pc + 2 = n') (k : jJ X G B0 κ n kc ks Q nL φ n' (a0 :: a1 :: a2 :: a3 :: some (iv z) :: r) (iv z :: st)) : jJ X G B0 κ n kc ks Q nL φ pc (a0 :: a1 :: a2 :: a3 :: some (iv z) :: r) st := j_iload F (i := 4) rfl hd hn k
theorem j_aload_4 (F : jF X G cc nL own d kc ks) {a0 a1 a2 a3 : Option Value} {r : List (Option Value)} {z : Int} {n' : Nat} (hd : decode cc pc = .ok (.aload 4, 2)) (hn : pc + 2 = n') (k : jJ X G B0 κ n kc ks Q nL φ n' (a0 :: a1 :: a2 :: a3 :: some (rf B0 z) :: r) (rf B0 z :: st)) : jJ X G B0 κ n kc ks Q nL φ pc (a0 :: a1 :: a2 :: a3 :: some (rf B0 z) :: r) st := j_aload F (i := 4) rfl hd hn k
theorem j_istore_4 (F : jF X G cc nL own d kc ks) {a0 a1 a2 a3 : Option Value} {a4 : Option Value} {r : List (Option Value)} {z : Int} {n' : Nat} (hi : 4 < nL) (hc : ∀ w, a3 = some w → w.category = 1) (hd : decode cc pc = .ok (.istore 4, 2)) (hn : pc + 2 = n') (k : jJ X G B0 κ n kc ks Q nL φ n' (a0 :: a1 :: a2 :: a3 :: some (iv z) :: r) st) : jJ X G B0 κ n kc ks Q nL φ pc (a0 :: a1 :: a2 :: a3 :: a4 :: r) (iv z :: st) := j_istore F (i := 4) rfl hi (fun w _ h => hc w (Option.some.inj (show some a3 = some (some w) from h))) hd hn k
theorem j_iinc_4 (F : jF X G cc nL own d kc ks) {a0 a1 a2 a3 : Option Value} {r : List (Option Value)} {z c : Int} {n' : Nat} (hi : 4 < nL) (hc : ∀ w, a3 = some w → w.category = 1) (hd : decode cc pc = .ok (.iinc 4 c, 3)) (hn : pc + 3 = n') (k : jJ X G B0 κ n kc ks Q nL φ n' (a0 :: a1 :: a2 :: a3 :: some (iv (z + c)) :: r) st) : jJ X G B0 κ n kc ks Q nL φ pc (a0 :: a1 :: a2 :: a3 :: some (iv z) :: r) st := j_iinc F (i := 4) rfl rfl hi (fun w _ h => hc w (Option.some.inj (show some a3 = some (some w) from h))) hd hn k
theorem j_iload_5 (F : jF X G cc nL own d kc ks) {a0 a1 a2 a3 a4 : Option Value} {r : List (Option Value)} {z : Int} {n' : Nat} (hd : decode cc pc = .ok (.iload 5, 2)) (hn : pc + 2 = n') (k : jJ X G B0 κ n kc ks Q nL φ n' (a0 :: a1 :: a2 :: a3 :: a4 :: some (iv z) :: r) (iv z :: st)) : jJ X G B0 κ n kc ks Q nL φ pc (a0 :: a1 :: a2 :: a3 :: a4 :: some (iv z) :: r) st := j_iload F (i := 5) rfl hd hn k
theorem j_aload_5 (F : jF X G cc nL own d kc ks) {a0 a1 a2 a3 a4 : Option Value} {r : List (Option Value)} {z : Int} {n' : Nat} (hd : decode cc pc = .ok (.aload 5, 2)) (hn : pc + 2 = n') (k : jJ X G B0 κ n kc ks Q nL φ n' (a0 :: a1 :: a2 :: a3 :: a4 :: some (rf B0 z) :: r) (rf B0 z :: st)) : jJ X G B0 κ n kc ks Q nL φ pc (a0 :: a1 :: a2 :: a3 :: a4 :: some (rf B0 z) :: r) st := j_aload F (i := 5) rfl hd hn k
theorem j_istore_5 (F : jF X G cc nL own d kc ks) {a0 a1 a2 a3 a4 : Option Value} {a5 : Option Value} {r : List (Option Value)} {z : Int} {n' : Nat} (hi : 5 < nL) (hc : ∀ w, a4 = some w → w.category = 1) (hd : decode cc pc = .ok (.istore 5, 2)) (hn : pc + 2 = n') (k : jJ X G B0 κ n kc ks Q nL φ n' (a0 :: a1 :: a2 :: a3 :: a4 :: some (iv z) :: r) st) : jJ X G B0 κ n kc ks Q nL φ pc (a0 :: a1 :: a2 :: a3 :: a4 :: a5 :: r) (iv z :: st) := j_istore F (i := 5) rfl hi (fun w _ h => hc w (Option.some.inj (show some a4 = some (some w) from h))) hd hn k
theorem j_iinc_5 (F : jF X G cc nL own d kc ks) {a0 a1 a2 a3 a4 : Option Value} {r : List (Option Value)} {z c : Int} {n' : Nat} (hi : 5 < nL) (hc : ∀ w, a4 = some w → w.category = 1) (hd : decode cc pc = .ok (.iinc 5 c, 3)) (hn : pc + 3 = n') (k : jJ X G B0 κ n kc ks Q nL φ n' (a0 :: a1 :: a2 :: a3 :: a4 :: some (iv (z + c)) :: r) st) : jJ X G B0 κ n kc ks Q nL φ pc (a0 :: a1 :: a2 :: a3 :: a4 :: some (iv z) :: r) st := j_iinc F (i := 5) rfl rfl hi (fun w _ h => hc w (Option.some.inj (show some a4 = some (some w) from h))) hd hn k
theorem j_iload_6 (F : jF X G cc nL own d kc ks) {a0 a1 a2 a3 a4 a5 : Option Value} {r : List (Option Value)} {z : Int} {n' : Nat} (hd : decode cc pc = .ok (.iload 6, 2)) (hn : pc + 2 = n') (k : jJ X G B0 κ n kc ks Q nL φ n' (a0 :: a1 :: a2 :: a3 :: a4 :: a5 :: some (iv z) :: r) (iv z :: st)) : jJ X G B0 κ n kc ks Q nL φ pc (a0 :: a1 :: a2 :: a3 :: a4 :: a5 :: some (iv z) :: r) st := j_iload F (i := 6) rfl hd hn k
theorem j_istore_6 (F : jF X G cc nL own d kc ks) {a0 a1 a2 a3 a4 a5 : Option Value} {a6 : Option Value} {r : List (Option Value)} {z : Int} {n' : Nat} (hi : 6 < nL) (hc : ∀ w, a5 = some w → w.category = 1) (hd : decode cc pc = .ok (.istore 6, 2)) (hn : pc + 2 = n') (k : jJ X G B0 κ n kc ks Q nL φ n' (a0 :: a1 :: a2 :: a3 :: a4 :: a5 :: some (iv z) :: r) st) : jJ X G B0 κ n kc ks Q nL φ pc (a0 :: a1 :: a2 :: a3 :: a4 :: a5 :: a6 :: r) (iv z :: st) := j_istore F (i := 6) rfl hi (fun w _ h => hc w (Option.some.inj (show some a5 = some (some w) from h))) hd hn k
theorem j_iinc_6 (F : jF X G cc nL own d kc ks) {a0 a1 a2 a3 a4 a5 : Option Value} {r : List (Option Value)} {z c : Int} {n' : Nat} (hi : 6 < nL) (hc : ∀ w, a5 = some w → w.category = 1) (hd : decode cc pc = .ok (.iinc 6 c, 3)) (hn : pc + 3 = n') (k : jJ X G B0 κ n kc ks Q nL φ n' (a0 :: a1 :: a2 :: a3 :: a4 :: a5 :: some (iv (z + c)) :: r) st) : jJ X G B0 κ n kc ks Q nL φ pc (a0 :: a1 :: a2 :: a3 :: a4 :: a5 :: some (iv z) :: r) st := j_iinc F (i := 6) rfl rfl hi (fun w _ h => hc w (Option.some.inj (show some a5 = some (some w) from h))) hd hn k
theorem j_iload_7 (F : jF X G cc nL own d kc ks) {a0 a1 a2 a3 a4 a5 a6 : Option Value} {r : List (Option Value)} {z : Int} {n' : Nat} (hd : decode cc pc = .ok (.iload 7, 2)) (hn : pc + 2 = n') (k : jJ X G B0 κ n kc ks Q nL φ n' (a0 :: a1 :: a2 :: a3 :: a4 :: a5 :: a6 :: some (iv z) :: r) (iv z :: st)) : jJ X G B0 κ n kc ks Q nL φ pc (a0 :: a1 :: a2 :: a3 :: a4 :: a5 :: a6 :: some (iv z) :: r) st := j_iload F (i := 7) rfl hd hn k
theorem j_istore_7 (F : jF X G cc nL own d kc ks) {a0 a1 a2 a3 a4 a5 a6 : Option Value} {a7 : Option Value} {r : List (Option Value)} {z : Int} {n' : Nat} (hi : 7 < nL) (hc : ∀ w, a6 = some w → w.category = 1) (hd : decode cc pc = .ok (.istore 7, 2)) (hn : pc + 2 = n') (k : jJ X G B0 κ n kc ks Q nL φ n' (a0 :: a1 :: a2 :: a3 :: a4 :: a5 :: a6 :: some (iv z) :: r) st) : jJ X G B0 κ n kc ks Q nL φ pc (a0 :: a1 :: a2 :: a3 :: a4 :: a5 :: a6 :: a7 :: r) (iv z :: st) := j_istore F (i := 7) rfl hi (fun w _ h => hc w (Option.some.inj (show some a6 = some (some w) from h))) hd hn k
theorem j_iinc_7 (F : jF X G cc nL own d kc ks) {a0 a1 a2 a3 a4 a5 a6 : Option Value} {r : List (Option Value)} {z c : Int} {n' : Nat} (hi : 7 < nL) (hc : ∀ w, a6 = some w → w.category = 1) (hd : decode cc pc = .ok (.iinc 7 c, 3)) (hn : pc + 3 = n') (k : jJ X G B0 κ n kc ks Q nL φ n' (a0 :: a1 :: a2 :: a3 :: a4 :: a5 :: a6 :: some (iv (z + c)) :: r) st) : jJ X G B0 κ n kc ks Q nL φ pc (a0 :: a1 :: a2 :: a3 :: a4 :: a5 :: a6 :: some (iv z) :: r) st := j_iinc F (i := 7) rfl rfl hi (fun w _ h => hc w (Option.some.inj (show some a6 = some (some w) from h))) hd hn k
theorem j_iload_8 (F : jF X G cc nL own d kc ks) {a0 a1 a2 a3 a4 a5 a6 a7 : Option Value} {r : List (Option Value)} {z : Int} {n' : Nat} (hd : decode cc pc = .ok (.iload 8, 2)) (hn : pc + 2 = n') (k : jJ X G B0 κ n kc ks Q nL φ n' (a0 :: a1 :: a2 :: a3 :: a4 :: a5 :: a6 :: a7 :: some (iv z) :: r) (iv z :: st)) : jJ X G B0 κ n kc ks Q nL φ pc (a0 :: a1 :: a2 :: a3 :: a4 :: a5 :: a6 :: a7 :: some (iv z) :: r) st := j_iload F (i := 8) rfl hd hn k
theorem j_istore_8 (F : jF X G cc nL own d kc ks) {a0 a1 a2 a3 a4 a5 a6 a7 : Option Value} {a8 : Option Value} {r : List (Option Value)} {z : Int} {n' : Nat} (hi : 8 < nL) (hc : ∀ w, a7 = some w → w.category = 1) (hd : decode cc pc = .ok (.istore 8, 2)) (hn : pc + 2 = n') (k : jJ X G B0 κ n kc ks Q nL φ n' (a0 :: a1 :: a2 :: a3 :: a4 :: a5 :: a6 :: a7 :: some (iv z) :: r) st) : jJ X G B0 κ n kc ks Q nL φ pc (a0 :: a1 :: a2 :: a3 :: a4 :: a5 :: a6 :: a7 :: a8 :: r) (iv z :: st) := j_istore F (i := 8) rfl hi (fun w _ h => hc w (Option.some.inj (show some a7 = some (some w) from h))) hd hn k
theorem j_iinc_8 (F : jF X G cc nL own d kc ks) {a0 a1 a2 a3 a4 a5 a6 a7 : Option Value} {r : List (Option Value)} {z c : Int} {n' : Nat} (hi : 8 < nL) (hc : ∀ w, a7 = some w → w.category = 1) (hd : decode cc pc = .ok (.iinc 8 c, 3)) (hn : pc + 3 = n') (k : jJ X G B0 κ n kc ks Q nL φ n' (a0 :: a1 :: a2 :: a3 :: a4 :: a5 :: a6 :: a7 :: some (iv (z + c)) :: r) st) : jJ X G B0 κ n kc ks Q nL φ pc (a0 :: a1 :: a2 :: a3 :: a4 :: a5 :: a6 :: a7 :: some (iv z) :: r) st := j_iinc F (i := 8) rfl rfl hi (fun w _ h => hc w (Option.some.inj (show some a7 = some (some w) from h))) hd hn k
theorem j_iload_9 (F : jF X G cc nL own d kc ks) {a0 a1 a2 a3 a4 a5 a6 a7 a8 : Option Value} {r : List (Option Value)} {z : Int} {n' : Nat} (hd : decode cc pc = .ok (.iload 9, 2)) (hn : pc + 2 = n') (k : jJ X G B0 κ n kc ks Q nL φ n' (a0 :: a1 :: a2 :: a3 :: a4 :: a5 :: a6 :: a7 :: a8 :: some (iv z) :: r) (iv z :: st)) : jJ X G B0 κ n kc ks Q nL φ pc (a0 :: a1 :: a2 :: a3 :: a4 :: a5 :: a6 :: a7 :: a8 :: some (iv z) :: r) st := j_iload F (i := 9) rfl hd hn k
theorem j_istore_9 (F : jF X G cc nL own d kc ks) {a0 a1 a2 a3 a4 a5 a6 a7 a8 : Option Value} {a9 : Option Value} {r : List (Option Value)} {z : Int} {n' : Nat} (hi : 9 < nL) (hc : ∀ w, a8 = some w → w.category = 1) (hd : decode cc pc = .ok (.istore 9, 2)) (hn : pc + 2 = n') (k : jJ X G B0 κ n kc ks Q nL φ n' (a0 :: a1 :: a2 :: a3 :: a4 :: a5 :: a6 :: a7 :: a8 :: some (iv z) :: r) st) : jJ X G B0 κ n kc ks Q nL φ pc (a0 :: a1 :: a2 :: a3 :: a4 :: a5 :: a6 :: a7 :: a8 :: a9 :: r) (iv z :: st) := j_istore F (i := 9) rfl hi (fun w _ h => hc w (Option.some.inj (show some a8 = some (some w) from h))) hd hn k
theorem j_iinc_9 (F : jF X G cc nL own d kc ks) {a0 a1 a2 a3 a4 a5 a6 a7 a8 : Option Value} {r : List (Option Value)} {z c : Int} {n' : Nat} (hi : 9 < nL) (hc : ∀ w, a8 = some w → w.category = 1) (hd : decode cc pc = .ok (.iinc 9 c, 3)) (hn : pc + 3 = n') (k : jJ X G B0 κ n kc ks Q nL φ n' (a0 :: a1 :: a2 :: a3 :: a4 :: a5 :: a6 :: a7 :: a8 :: some (iv (z + c)) :: r) st) : jJ X G B0 κ n kc ks Q nL φ pc (a0 :: a1 :: a2 :: a3 :: a4 :: a5 :: a6 :: a7 :: a8 :: some (iv z) :: r) st := j_iinc F (i := 9) rfl rfl hi (fun w _ h => hc w (Option.some.inj (show some a8 = some (some w) from h))) hd hn k
theorem j_iload_10 (F : jF X G cc nL own d kc ks) {a0 a1 a2 a3 a4 a5 a6 a7 a8 a9 : Option Value} {r : List (Option Value)} {z : Int} {n' : Nat} (hd : decode cc pc = .ok (.iload 10, 2)) (hn : pc + 2 = n') (k : jJ X G B0 κ n kc ks Q nL φ n' (a0 :: a1 :: a2 :: a3 :: a4 :: a5 :: a6 :: a7 :: a8 :: a9 :: some (iv z) :: r) (iv z :: st)) : jJ X G B0 κ n kc ks Q nL φ pc (a0 :: a1 :: a2 :: a3 :: a4 :: a5 :: a6 :: a7 :: a8 :: a9 :: some (iv z) :: r) st := j_iload F (i := 10) rfl hd hn k
theorem j_istore_10 (F : jF X G cc nL own d kc ks) {a0 a1 a2 a3 a4 a5 a6 a7 a8 a9 : Option Value} {a10 : Option Value} {r : List (Option Value)} {z : Int} {n' : Nat} (hi : 10 < nL) (hc : ∀ w, a9 = some w → w.category = 1) (hd : decode cc pc = .ok (.istore 10, 2)) (hn : pc + 2 = n') (k : jJ X G B0 κ n kc ks Q nL φ n' (a0 :: a1 :: a2 :: a3 :: a4 :: a5 :: a6 :: a7 :: a8 :: a9 :: some (iv z) :: r) st) : jJ X G B0 κ n kc ks Q nL φ pc (a0 :: a1 :: a2 :: a3 :: a4 :: a5 :: a6 :: a7 :: a8 :: a9 :: a10 :: r) (iv z :: st) := j_istore F (i := 10) rfl hi (fun w _ h => hc w (Option.some.inj (show some a9 = some (some w) from h))) hd hn k
theorem j_iinc_10 (F : jF X G cc nL own d kc ks) {a0 a1 a2 a3 a4 a5 a6 a7 a8 a9 : Option Value} {r : List (Option Value)} {z c : Int} {n' : Nat} (hi : 10 < nL) (hc : ∀ w, a9 = some w → w.category = 1) (hd : decode cc pc = .ok (.iinc 10 c, 3)) (hn : pc + 3 = n') (k : jJ X G B0 κ n kc ks Q nL φ n' (a0 :: a1 :: a2 :: a3 :: a4 :: a5 :: a6 :: a7 :: a8 :: a9 :: some (iv (z + c)) :: r) st) : jJ X G B0 κ n kc ks Q nL φ pc (a0 :: a1 :: a2 :: a3 :: a4 :: a5 :: a6 :: a7 :: a8 :: a9 :: some (iv z) :: r) st := j_iinc F (i := 10) rfl rfl hi (fun w _ h => hc w (Option.some.inj (show some a9 = some (some w) from h))) hd hn k
theorem j_iload_11 (F : jF X G cc nL own d kc ks) {a0 a1 a2 a3 a4 a5 a6 a7 a8 a9 a10 : Option Value} {r : List (Option Value)} {z : Int} {n' : Nat} (hd : decode cc pc = .ok (.iload 11, 2)) (hn : pc + 2 = n') (k : jJ X G B0 κ n kc ks Q nL φ n' (a0 :: a1 :: a2 :: a3 :: a4 :: a5 :: a6 :: a7 :: a8 :: a9 :: a10 :: some (iv z) :: r) (iv z :: st)) : jJ X G B0 κ n kc ks Q nL φ pc (a0 :: a1 :: a2 :: a3 :: a4 :: a5 :: a6 :: a7 :: a8 :: a9 :: a10 :: some (iv z) :: r) st := j_iload F (i := 11) rfl hd hn k
theorem j_istore_11 (F : jF X G cc nL own d kc ks) {a0 a1 a2 a3 a4 a5 a6 a7 a8 a9 a10 : Option Value} {a11 : Option Value} {r : List (Option Value)} {z : Int} {n' : Nat} (hi : 11 < nL) (hc : ∀ w, a10 = some w → w.category = 1) (hd : decode cc pc = .ok (.istore 11, 2)) (hn : pc + 2 = n') (k : jJ X G B0 κ n kc ks Q nL φ n' (a0 :: a1 :: a2 :: a3 :: a4 :: a5 :: a6 :: a7 :: a8 :: a9 :: a10 :: some (iv z) :: r) st) : jJ X G B0 κ n kc ks Q nL φ pc (a0 :: a1 :: a2 :: a3 :: a4 :: a5 :: a6 :: a7 :: a8 :: a9 :: a10 :: a11 :: r) (iv z :: st) := j_istore F (i := 11) rfl hi (fun w _ h => hc w (Option.some.inj (show some a10 = some (some w) from h))) hd hn k
theorem j_iinc_11 (F : jF X G cc nL own d kc ks) {a0 a1 a2 a3 a4 a5 a6 a7 a8 a9 a10 : Option Value} {r : List (Option Value)} {z c : Int} {n' : Nat} (hi : 11 < nL) (hc : ∀ w, a10 = some w → w.category = 1) (hd : decode cc pc = .ok (.iinc 11 c, 3)) (hn : pc + 3 = n') (k : jJ X G B0 κ n kc ks Q nL φ n' (a0 :: a1 :: a2 :: a3 :: a4 :: a5 :: a6 :: a7 :: a8 :: a9 :: a10 :: some (iv (z + c)) :: r) st) : jJ X G B0 κ n kc ks Q nL φ pc (a0 :: a1 :: a2 :: a3 :: a4 :: a5 :: a6 :: a7 :: a8 :: a9 :: a10 :: some (iv z) :: r) st := j_iinc F (i := 11) rfl rfl hi (fun w _ h => hc w (Option.some.inj (show some a10 = some (some w) from h))) hd hn k
theorem j_iload_12 (F : jF X G cc nL own d kc ks) {a0 a1 a2 a3 a4 a5 a6 a7 a8 a9 a10 a11 : Option Value} {r : List (Option Value)} {z : Int} {n' : Nat} (hd : decode cc pc = .ok (.iload 12, 2)) (hn : pc + 2 = n') (k : jJ X G B0 κ n kc ks Q nL φ n' (a0 :: a1 :: a2 :: a3 :: a4 :: a5 :: a6 :: a7 :: a8 :: a9 :: a10 :: a11 :: some (iv z) :: r) (iv z :: st)) : jJ X G B0 κ n kc ks Q nL φ pc (a0 :: a1 :: a2 :: a3 :: a4 :: a5 :: a6 :: a7 :: a8 :: a9 :: a10 :: a11 :: some (iv z) :: r) st := j_iload F (i := 12) rfl hd hn k
theorem j_istore_12 (F : jF X G cc nL own d kc ks) {a0 a1 a2 a3 a4 a5 a6 a7 a8 a9 a10 a11 : Option Value} {a12 : Option Value} {r : List (Option Value)} {z : Int} {n' : Nat} (hi : 12 < nL) (hc : ∀ w, a11 = some w → w.category = 1) (hd : decode cc pc = .ok (.istore 12, 2)) (hn : pc + 2 = n') (k : jJ X G B0 κ n kc ks Q nL φ n' (a0 :: a1 :: a2 :: a3 :: a4 :: a5 :: a6 :: a7 :: a8 :: a9 :: a10 :: a11 :: some (iv z) :: r) st) : jJ X G B0 κ n kc ks Q nL φ pc (a0 :: a1 :: a2 :: a3 :: a4 :: a5 :: a6 :: a7 :: a8 :: a9 :: a10 :: a11 :: a12 :: r) (iv z :: st) := j_istore F (i := 12) rfl hi (fun w _ h => hc w (Option.some.inj (show some a11 = some (some w) from h))) hd hn k
theorem j_iinc_12 (F : jF X G cc nL own d kc ks) {a0 a1 a2 a3 a4 a5 a6 a7 a8 a9 a10 a11 : Option Value} {r : List (Option Value)} {z c : Int} {n' : Nat} (hi : 12 < nL) (hc : ∀ w, a11 = some w → w.category = 1) (hd : decode cc pc = .ok (.iinc 12 c, 3)) (hn : pc + 3 = n') (k : jJ X G B0 κ n kc ks Q nL φ n' (a0 :: a1 :: a2 :: a3 :: a4 :: a5 :: a6 :: a7 :: a8 :: a9 :: a10 :: a11 :: some (iv (z + c)) :: r) st) : jJ X G B0 κ n kc ks Q nL φ pc (a0 :: a1 :: a2 :: a3 :: a4 :: a5 :: a6 :: a7 :: a8 :: a9 :: a10 :: a11 :: some (iv z) :: r) st := j_iinc F (i := 12) rfl rfl hi (fun w _ h => hc w (Option.some.inj (show some a11 = some (some w) from h))) hd hn k
theorem jc_i {z : Int} : ∀ w, some (iv z) = some w → w.category = 1 := fun _ h => by cases h; rfl
theorem jc_r {B0 : Nat} {z : Int} : ∀ w, some (rf B0 z) = some w → w.category = 1 := fun _ h => by cases h; rfl
theorem jc_n : ∀ w : Value, (none : Option Value) = some w → w.category = 1 := fun _ h => by cases h
end JLOC
section JCALLS
variable {X : jX} {G : jG} {B0 : Nat} {κ : Int → Option jKd} {n kc ks : Nat} {Q : State → Prop} {nL : Nat} {φ : jPhi} {pc : Nat} {lv : List (Option Value)} {st : List Value} {cc : ByteArray} {own : String} {d : Nat}
variable {index : Nat} {C : String} {y : MethodName} {bytes : ByteArray} {maxL : Nat} {ret : Option FieldType} {d' : Nat} {post : Int → jPhi → Prop}
theorem j_cV0i (F : jF X G cc nL own d kc ks) {i : Int} {n' : Nat} (hL : jLV own index C y bytes maxL ret 0) (hM : jC X.l G B0 κ n y bytes maxL ret d' [rf B0 i] φ mkI post) {ci N : Nat} {T : u_T} {cs : List jSl} (hκ : κ i = some (.inl (ci, cs))) (hc : jclasses[ci]? = some (C, T, N)) (hdd : d' + 1 ≤ d) (hcat : (st.map fun v => v.category).sum ≤ 8) (hd : decode cc pc = .ok (.invokevirtual index, 3)) (hn : pc + 3 = n') (kk : ∀ (z : Int) (φ' : jPhi), post z φ' → jJ X G B0 κ n kc ks Q nL φ' n' lv (iv z :: st)) : jJ X G B0 κ n kc ks Q nL φ pc lv (rf B0 i :: st) := by
  subst hn
  exact j_callV (As := []) F hL hM hκ hc hdd hcat hd kk
theorem j_cV0v (F : jF X G cc nL own d kc ks) {i : Int} {n' : Nat} (hL : jLV own index C y bytes maxL ret 0) (hM : jC X.l G B0 κ n y bytes maxL ret d' [rf B0 i] φ mkV post) {ci N : Nat} {T : u_T} {cs : List jSl} (hκ : κ i = some (.inl (ci, cs))) (hc : jclasses[ci]? = some (C, T, N)) (hdd : d' + 1 ≤ d) (hcat : (st.map fun v => v.category).sum ≤ 8) (hd : decode cc pc = .ok (.invokevirtual index, 3)) (hn : pc + 3 = n') (kk : ∀ (z : Int) (φ' : jPhi), post z φ' → jJ X G B0 κ n kc ks Q nL φ' n' lv (st)) : jJ X G B0 κ n kc ks Q nL φ pc lv (rf B0 i :: st) := by
  subst hn
  exact j_callV (As := []) F hL hM hκ hc hdd hcat hd kk
theorem j_cV0l (F : jF X G cc nL own d kc ks) {i : Int} {n' : Nat} (hL : jLV own index C y bytes maxL ret 0) (hM : jC X.l G B0 κ n y bytes maxL ret d' [rf B0 i] φ mkL post) {ci N : Nat} {T : u_T} {cs : List jSl} (hκ : κ i = some (.inl (ci, cs))) (hc : jclasses[ci]? = some (C, T, N)) (hdd : d' + 1 ≤ d) (hcat : (st.map fun v => v.category).sum ≤ 8) (hd : decode cc pc = .ok (.invokevirtual index, 3)) (hn : pc + 3 = n') (kk : ∀ (z : Int) (φ' : jPhi), post z φ' → jJ X G B0 κ n kc ks Q nL φ' n' lv (lvv z :: st)) : jJ X G B0 κ n kc ks Q nL φ pc lv (rf B0 i :: st) := by
  subst hn
  exact j_callV (As := []) F hL hM hκ hc hdd hcat hd kk
theorem j_cV0r (F : jF X G cc nL own d kc ks) {i : Int} {n' : Nat} (hL : jLV own index C y bytes maxL ret 0) (hM : jC X.l G B0 κ n y bytes maxL ret d' [rf B0 i] φ (mkR B0) post) {ci N : Nat} {T : u_T} {cs : List jSl} (hκ : κ i = some (.inl (ci, cs))) (hc : jclasses[ci]? = some (C, T, N)) (hdd : d' + 1 ≤ d) (hcat : (st.map fun v => v.category).sum ≤ 8) (hd : decode cc pc = .ok (.invokevirtual index, 3)) (hn : pc + 3 = n') (kk : ∀ (z : Int) (φ' : jPhi), post z φ' → jJ X G B0 κ n kc ks Q nL φ' n' lv (rf B0 z :: st)) : jJ X G B0 κ n kc ks Q nL φ pc lv (rf B0 i :: st) := by
  subst hn
  exact j_callV (As := []) F hL hM hκ hc hdd hcat hd kk
theorem j_cV1i (F : jF X G cc nL own d kc ks) {b0 : Value} {i : Int} {n' : Nat} (hL : jLV own index C y bytes maxL ret 1) (hM : jC X.l G B0 κ n y bytes maxL ret d' [rf B0 i, b0] φ mkI post) {ci N : Nat} {T : u_T} {cs : List jSl} (hκ : κ i = some (.inl (ci, cs))) (hc : jclasses[ci]? = some (C, T, N)) (hdd : d' + 1 ≤ d) (hcat : (st.map fun v => v.category).sum ≤ 8) (hd : decode cc pc = .ok (.invokevirtual index, 3)) (hn : pc + 3 = n') (kk : ∀ (z : Int) (φ' : jPhi), post z φ' → jJ X G B0 κ n kc ks Q nL φ' n' lv (iv z :: st)) : jJ X G B0 κ n kc ks Q nL φ pc lv (b0 :: rf B0 i :: st) := by
  subst hn
  exact j_callV (As := [b0]) F hL hM hκ hc hdd hcat hd kk
theorem j_cS1i (F : jF X G cc nL own d kc ks) {b0 : Value} {n' : Nat} (hL : jLS own index y bytes maxL ret 1) (hM : jC X.l G B0 κ n y bytes maxL ret d' [b0] φ mkI post) (hdd : d' + 1 ≤ d) (hcat : (st.map fun v => v.category).sum ≤ 8) (hd : decode cc pc = .ok (.invokestatic index, 3)) (hn : pc + 3 = n') (kk : ∀ (z : Int) (φ' : jPhi), post z φ' → jJ X G B0 κ n kc ks Q nL φ' n' lv (iv z :: st)) : jJ X G B0 κ n kc ks Q nL φ pc lv (b0 :: st) := by
  subst hn
  exact j_callS (As := [b0]) F hL hM hdd hcat hd kk
theorem j_cN1i (F : jF X G cc nL own d kc ks) {b0 : Value} {n' : Nat} (hL : jLN own index y bytes maxL ret 1) (hM : jC X.l G B0 κ n y bytes maxL ret d' [b0] φ mkI post) (hdd : d' + 1 ≤ d) (hcat : (st.map fun v => v.category).sum ≤ 8) (hd : decode cc pc = .ok (.invokestatic index, 3)) (hn : pc + 3 = n') (kk : ∀ (z : Int) (φ' : jPhi), post z φ' → jJ X G B0 κ n kc ks Q nL φ' n' lv (iv z :: st)) : jJ X G B0 κ n kc ks Q nL φ pc lv (b0 :: st) := by
  subst hn
  exact j_callN (As := [b0]) F hL hM hdd hcat hd kk
theorem j_cV1v (F : jF X G cc nL own d kc ks) {b0 : Value} {i : Int} {n' : Nat} (hL : jLV own index C y bytes maxL ret 1) (hM : jC X.l G B0 κ n y bytes maxL ret d' [rf B0 i, b0] φ mkV post) {ci N : Nat} {T : u_T} {cs : List jSl} (hκ : κ i = some (.inl (ci, cs))) (hc : jclasses[ci]? = some (C, T, N)) (hdd : d' + 1 ≤ d) (hcat : (st.map fun v => v.category).sum ≤ 8) (hd : decode cc pc = .ok (.invokevirtual index, 3)) (hn : pc + 3 = n') (kk : ∀ (z : Int) (φ' : jPhi), post z φ' → jJ X G B0 κ n kc ks Q nL φ' n' lv (st)) : jJ X G B0 κ n kc ks Q nL φ pc lv (b0 :: rf B0 i :: st) := by
  subst hn
  exact j_callV (As := [b0]) F hL hM hκ hc hdd hcat hd kk
theorem j_cS1v (F : jF X G cc nL own d kc ks) {b0 : Value} {n' : Nat} (hL : jLS own index y bytes maxL ret 1) (hM : jC X.l G B0 κ n y bytes maxL ret d' [b0] φ mkV post) (hdd : d' + 1 ≤ d) (hcat : (st.map fun v => v.category).sum ≤ 8) (hd : decode cc pc = .ok (.invokestatic index, 3)) (hn : pc + 3 = n') (kk : ∀ (z : Int) (φ' : jPhi), post z φ' → jJ X G B0 κ n kc ks Q nL φ' n' lv (st)) : jJ X G B0 κ n kc ks Q nL φ pc lv (b0 :: st) := by
  subst hn
  exact j_callS (As := [b0]) F hL hM hdd hcat hd kk
theorem j_cV1l (F : jF X G cc nL own d kc ks) {b0 : Value} {i : Int} {n' : Nat} (hL : jLV own index C y bytes maxL ret 1) (hM : jC X.l G B0 κ n y bytes maxL ret d' [rf B0 i, b0] φ mkL post) {ci N : Nat} {T : u_T} {cs : List jSl} (hκ : κ i = some (.inl (ci, cs))) (hc : jclasses[ci]? = some (C, T, N)) (hdd : d' + 1 ≤ d) (hcat : (st.map fun v => v.category).sum ≤ 8) (hd : decode cc pc = .ok (.invokevirtual index, 3)) (hn : pc + 3 = n') (kk : ∀ (z : Int) (φ' : jPhi), post z φ' → jJ X G B0 κ n kc ks Q nL φ' n' lv (lvv z :: st)) : jJ X G B0 κ n kc ks Q nL φ pc lv (b0 :: rf B0 i :: st) := by
  subst hn
  exact j_callV (As := [b0]) F hL hM hκ hc hdd hcat hd kk
theorem j_cS1l (F : jF X G cc nL own d kc ks) {b0 : Value} {n' : Nat} (hL : jLS own index y bytes maxL ret 1) (hM : jC X.l G B0 κ n y bytes maxL ret d' [b0] φ mkL post) (hdd : d' + 1 ≤ d) (hcat : (st.map fun v => v.category).sum ≤ 8) (hd : decode cc pc = .ok (.invokestatic index, 3)) (hn : pc + 3 = n') (kk : ∀ (z : Int) (φ' : jPhi), post z φ' → jJ X G B0 κ n kc ks Q nL φ' n' lv (lvv z :: st)) : jJ X G B0 κ n kc ks Q nL φ pc lv (b0 :: st) := by
  subst hn
  exact j_callS (As := [b0]) F hL hM hdd hcat hd kk
theorem j_cV1r (F : jF X G cc nL own d kc ks) {b0 : Value} {i : Int} {n' : Nat} (hL : jLV own index C y bytes maxL ret 1) (hM : jC X.l G B0 κ n y bytes maxL ret d' [rf B0 i, b0] φ (mkR B0) post) {ci N : Nat} {T : u_T} {cs : List jSl} (hκ : κ i = some (.inl (ci, cs))) (hc : jclasses[ci]? = some (C, T, N)) (hdd : d' + 1 ≤ d) (hcat : (st.map fun v => v.category).sum ≤ 8) (hd : decode cc pc = .ok (.invokevirtual index, 3)) (hn : pc + 3 = n') (kk : ∀ (z : Int) (φ' : jPhi), post z φ' → jJ X G B0 κ n kc ks Q nL φ' n' lv (rf B0 z :: st)) : jJ X G B0 κ n kc ks Q nL φ pc lv (b0 :: rf B0 i :: st) := by
  subst hn
  exact j_callV (As := [b0]) F hL hM hκ hc hdd hcat hd kk
theorem j_cS1r (F : jF X G cc nL own d kc ks) {b0 : Value} {n' : Nat} (hL : jLS own index y bytes maxL ret 1) (hM : jC X.l G B0 κ n y bytes maxL ret d' [b0] φ (mkR B0) post) (hdd : d' + 1 ≤ d) (hcat : (st.map fun v => v.category).sum ≤ 8) (hd : decode cc pc = .ok (.invokestatic index, 3)) (hn : pc + 3 = n') (kk : ∀ (z : Int) (φ' : jPhi), post z φ' → jJ X G B0 κ n kc ks Q nL φ' n' lv (rf B0 z :: st)) : jJ X G B0 κ n kc ks Q nL φ pc lv (b0 :: st) := by
  subst hn
  exact j_callS (As := [b0]) F hL hM hdd hcat hd kk
theorem j_cV2i (F : jF X G cc nL own d kc ks) {b0 b1 : Value} {i : Int} {n' : Nat} (hL : jLV own index C y bytes maxL ret 2) (hM : jC X.l G B0 κ n y bytes maxL ret d' [rf B0 i, b0, b1] φ mkI post) {ci N : Nat} {T : u_T} {cs : List jSl} (hκ : κ i = some (.inl (ci, cs))) (hc : jclasses[ci]? = some (C, T, N)) (hdd : d' + 1 ≤ d) (hcat : (st.map fun v => v.category).sum ≤ 8) (hd : decode cc pc = .ok (.invokevirtual index, 3)) (hn : pc + 3 = n') (kk : ∀ (z : Int) (φ' : jPhi), post z φ' → jJ X G B0 κ n kc ks Q nL φ' n' lv (iv z :: st)) : jJ X G B0 κ n kc ks Q nL φ pc lv (b1 :: b0 :: rf B0 i :: st) := by
  subst hn
  exact j_callV (As := [b0, b1]) F hL hM hκ hc hdd hcat hd kk
theorem j_cS2i (F : jF X G cc nL own d kc ks) {b0 b1 : Value} {n' : Nat} (hL : jLS own index y bytes maxL ret 2) (hM : jC X.l G B0 κ n y bytes maxL ret d' [b0, b1] φ mkI post) (hdd : d' + 1 ≤ d) (hcat : (st.map fun v => v.category).sum ≤ 8) (hd : decode cc pc = .ok (.invokestatic index, 3)) (hn : pc + 3 = n') (kk : ∀ (z : Int) (φ' : jPhi), post z φ' → jJ X G B0 κ n kc ks Q nL φ' n' lv (iv z :: st)) : jJ X G B0 κ n kc ks Q nL φ pc lv (b1 :: b0 :: st) := by
  subst hn
  exact j_callS (As := [b0, b1]) F hL hM hdd hcat hd kk
theorem j_cV2v (F : jF X G cc nL own d kc ks) {b0 b1 : Value} {i : Int} {n' : Nat} (hL : jLV own index C y bytes maxL ret 2) (hM : jC X.l G B0 κ n y bytes maxL ret d' [rf B0 i, b0, b1] φ mkV post) {ci N : Nat} {T : u_T} {cs : List jSl} (hκ : κ i = some (.inl (ci, cs))) (hc : jclasses[ci]? = some (C, T, N)) (hdd : d' + 1 ≤ d) (hcat : (st.map fun v => v.category).sum ≤ 8) (hd : decode cc pc = .ok (.invokevirtual index, 3)) (hn : pc + 3 = n') (kk : ∀ (z : Int) (φ' : jPhi), post z φ' → jJ X G B0 κ n kc ks Q nL φ' n' lv (st)) : jJ X G B0 κ n kc ks Q nL φ pc lv (b1 :: b0 :: rf B0 i :: st) := by
  subst hn
  exact j_callV (As := [b0, b1]) F hL hM hκ hc hdd hcat hd kk
theorem j_cS2v (F : jF X G cc nL own d kc ks) {b0 b1 : Value} {n' : Nat} (hL : jLS own index y bytes maxL ret 2) (hM : jC X.l G B0 κ n y bytes maxL ret d' [b0, b1] φ mkV post) (hdd : d' + 1 ≤ d) (hcat : (st.map fun v => v.category).sum ≤ 8) (hd : decode cc pc = .ok (.invokestatic index, 3)) (hn : pc + 3 = n') (kk : ∀ (z : Int) (φ' : jPhi), post z φ' → jJ X G B0 κ n kc ks Q nL φ' n' lv (st)) : jJ X G B0 κ n kc ks Q nL φ pc lv (b1 :: b0 :: st) := by
  subst hn
  exact j_callS (As := [b0, b1]) F hL hM hdd hcat hd kk
theorem j_cV2l (F : jF X G cc nL own d kc ks) {b0 b1 : Value} {i : Int} {n' : Nat} (hL : jLV own index C y bytes maxL ret 2) (hM : jC X.l G B0 κ n y bytes maxL ret d' [rf B0 i, b0, b1] φ mkL post) {ci N : Nat} {T : u_T} {cs : List jSl} (hκ : κ i = some (.inl (ci, cs))) (hc : jclasses[ci]? = some (C, T, N)) (hdd : d' + 1 ≤ d) (hcat : (st.map fun v => v.category).sum ≤ 8) (hd : decode cc pc = .ok (.invokevirtual index, 3)) (hn : pc + 3 = n') (kk : ∀ (z : Int) (φ' : jPhi), post z φ' → jJ X G B0 κ n kc ks Q nL φ' n' lv (lvv z :: st)) : jJ X G B0 κ n kc ks Q nL φ pc lv (b1 :: b0 :: rf B0 i :: st) := by
  subst hn
  exact j_callV (As := [b0, b1]) F hL hM hκ hc hdd hcat hd kk
theorem j_cS2l (F : jF X G cc nL own d kc ks) {b0 b1 : Value} {n' : Nat} (hL : jLS own index y bytes maxL ret 2) (hM : jC X.l G B0 κ n y bytes maxL ret d' [b0, b1] φ mkL post) (hdd : d' + 1 ≤ d) (hcat : (st.map fun v => v.category).sum ≤ 8) (hd : decode cc pc = .ok (.invokestatic index, 3)) (hn : pc + 3 = n') (kk : ∀ (z : Int) (φ' : jPhi), post z φ' → jJ X G B0 κ n kc ks Q nL φ' n' lv (lvv z :: st)) : jJ X G B0 κ n kc ks Q nL φ pc lv (b1 :: b0 :: st) := by
  subst hn
  exact j_callS (As := [b0, b1]) F hL hM hdd hcat hd kk
theorem j_cV2r (F : jF X G cc nL own d kc ks) {b0 b1 : Value} {i : Int} {n' : Nat} (hL : jLV own index C y bytes maxL ret 2) (hM : jC X.l G B0 κ n y bytes maxL ret d' [rf B0 i, b0, b1] φ (mkR B0) post) {ci N : Nat} {T : u_T} {cs : List jSl} (hκ : κ i = some (.inl (ci, cs))) (hc : jclasses[ci]? = some (C, T, N)) (hdd : d' + 1 ≤ d) (hcat : (st.map fun v => v.category).sum ≤ 8) (hd : decode cc pc = .ok (.invokevirtual index, 3)) (hn : pc + 3 = n') (kk : ∀ (z : Int) (φ' : jPhi), post z φ' → jJ X G B0 κ n kc ks Q nL φ' n' lv (rf B0 z :: st)) : jJ X G B0 κ n kc ks Q nL φ pc lv (b1 :: b0 :: rf B0 i :: st) := by
  subst hn
  exact j_callV (As := [b0, b1]) F hL hM hκ hc hdd hcat hd kk
theorem j_cS2r (F : jF X G cc nL own d kc ks) {b0 b1 : Value} {n' : Nat} (hL : jLS own index y bytes maxL ret 2) (hM : jC X.l G B0 κ n y bytes maxL ret d' [b0, b1] φ (mkR B0) post) (hdd : d' + 1 ≤ d) (hcat : (st.map fun v => v.category).sum ≤ 8) (hd : decode cc pc = .ok (.invokestatic index, 3)) (hn : pc + 3 = n') (kk : ∀ (z : Int) (φ' : jPhi), post z φ' → jJ X G B0 κ n kc ks Q nL φ' n' lv (rf B0 z :: st)) : jJ X G B0 κ n kc ks Q nL φ pc lv (b1 :: b0 :: st) := by
  subst hn
  exact j_callS (As := [b0, b1]) F hL hM hdd hcat hd kk
theorem j_cV3i (F : jF X G cc nL own d kc ks) {b0 b1 b2 : Value} {i : Int} {n' : Nat} (hL : jLV own index C y bytes maxL ret 3) (hM : jC X.l G B0 κ n y bytes maxL ret d' [rf B0 i, b0, b1, b2] φ mkI post) {ci N : Nat} {T : u_T} {cs : List jSl} (hκ : κ i = some (.inl (ci, cs))) (hc : jclasses[ci]? = some (C, T, N)) (hdd : d' + 1 ≤ d) (hcat : (st.map fun v => v.category).sum ≤ 8) (hd : decode cc pc = .ok (.invokevirtual index, 3)) (hn : pc + 3 = n') (kk : ∀ (z : Int) (φ' : jPhi), post z φ' → jJ X G B0 κ n kc ks Q nL φ' n' lv (iv z :: st)) : jJ X G B0 κ n kc ks Q nL φ pc lv (b2 :: b1 :: b0 :: rf B0 i :: st) := by
  subst hn
  exact j_callV (As := [b0, b1, b2]) F hL hM hκ hc hdd hcat hd kk
theorem j_cS3i (F : jF X G cc nL own d kc ks) {b0 b1 b2 : Value} {n' : Nat} (hL : jLS own index y bytes maxL ret 3) (hM : jC X.l G B0 κ n y bytes maxL ret d' [b0, b1, b2] φ mkI post) (hdd : d' + 1 ≤ d) (hcat : (st.map fun v => v.category).sum ≤ 8) (hd : decode cc pc = .ok (.invokestatic index, 3)) (hn : pc + 3 = n') (kk : ∀ (z : Int) (φ' : jPhi), post z φ' → jJ X G B0 κ n kc ks Q nL φ' n' lv (iv z :: st)) : jJ X G B0 κ n kc ks Q nL φ pc lv (b2 :: b1 :: b0 :: st) := by
  subst hn
  exact j_callS (As := [b0, b1, b2]) F hL hM hdd hcat hd kk
theorem j_cV3v (F : jF X G cc nL own d kc ks) {b0 b1 b2 : Value} {i : Int} {n' : Nat} (hL : jLV own index C y bytes maxL ret 3) (hM : jC X.l G B0 κ n y bytes maxL ret d' [rf B0 i, b0, b1, b2] φ mkV post) {ci N : Nat} {T : u_T} {cs : List jSl} (hκ : κ i = some (.inl (ci, cs))) (hc : jclasses[ci]? = some (C, T, N)) (hdd : d' + 1 ≤ d) (hcat : (st.map fun v => v.category).sum ≤ 8) (hd : decode cc pc = .ok (.invokevirtual index, 3)) (hn : pc + 3 = n') (kk : ∀ (z : Int) (φ' : jPhi), post z φ' → jJ X G B0 κ n kc ks Q nL φ' n' lv (st)) : jJ X G B0 κ n kc ks Q nL φ pc lv (b2 :: b1 :: b0 :: rf B0 i :: st) := by
  subst hn
  exact j_callV (As := [b0, b1, b2]) F hL hM hκ hc hdd hcat hd kk
theorem j_cS3v (F : jF X G cc nL own d kc ks) {b0 b1 b2 : Value} {n' : Nat} (hL : jLS own index y bytes maxL ret 3) (hM : jC X.l G B0 κ n y bytes maxL ret d' [b0, b1, b2] φ mkV post) (hdd : d' + 1 ≤ d) (hcat : (st.map fun v => v.category).sum ≤ 8) (hd : decode cc pc = .ok (.invokestatic index, 3)) (hn : pc + 3 = n') (kk : ∀ (z : Int) (φ' : jPhi), post z φ' → jJ X G B0 κ n kc ks Q nL φ' n' lv (st)) : jJ X G B0 κ n kc ks Q nL φ pc lv (b2 :: b1 :: b0 :: st) := by
  subst hn
  exact j_callS (As := [b0, b1, b2]) F hL hM hdd hcat hd kk
theorem j_cV3l (F : jF X G cc nL own d kc ks) {b0 b1 b2 : Value} {i : Int} {n' : Nat} (hL : jLV own index C y bytes maxL ret 3) (hM : jC X.l G B0 κ n y bytes maxL ret d' [rf B0 i, b0, b1, b2] φ mkL post) {ci N : Nat} {T : u_T} {cs : List jSl} (hκ : κ i = some (.inl (ci, cs))) (hc : jclasses[ci]? = some (C, T, N)) (hdd : d' + 1 ≤ d) (hcat : (st.map fun v => v.category).sum ≤ 8) (hd : decode cc pc = .ok (.invokevirtual index, 3)) (hn : pc + 3 = n') (kk : ∀ (z : Int) (φ' : jPhi), post z φ' → jJ X G B0 κ n kc ks Q nL φ' n' lv (lvv z :: st)) : jJ X G B0 κ n kc ks Q nL φ pc lv (b2 :: b1 :: b0 :: rf B0 i :: st) := by
  subst hn
  exact j_callV (As := [b0, b1, b2]) F hL hM hκ hc hdd hcat hd kk
theorem j_cS3l (F : jF X G cc nL own d kc ks) {b0 b1 b2 : Value} {n' : Nat} (hL : jLS own index y bytes maxL ret 3) (hM : jC X.l G B0 κ n y bytes maxL ret d' [b0, b1, b2] φ mkL post) (hdd : d' + 1 ≤ d) (hcat : (st.map fun v => v.category).sum ≤ 8) (hd : decode cc pc = .ok (.invokestatic index, 3)) (hn : pc + 3 = n') (kk : ∀ (z : Int) (φ' : jPhi), post z φ' → jJ X G B0 κ n kc ks Q nL φ' n' lv (lvv z :: st)) : jJ X G B0 κ n kc ks Q nL φ pc lv (b2 :: b1 :: b0 :: st) := by
  subst hn
  exact j_callS (As := [b0, b1, b2]) F hL hM hdd hcat hd kk
theorem j_cV3r (F : jF X G cc nL own d kc ks) {b0 b1 b2 : Value} {i : Int} {n' : Nat} (hL : jLV own index C y bytes maxL ret 3) (hM : jC X.l G B0 κ n y bytes maxL ret d' [rf B0 i, b0, b1, b2] φ (mkR B0) post) {ci N : Nat} {T : u_T} {cs : List jSl} (hκ : κ i = some (.inl (ci, cs))) (hc : jclasses[ci]? = some (C, T, N)) (hdd : d' + 1 ≤ d) (hcat : (st.map fun v => v.category).sum ≤ 8) (hd : decode cc pc = .ok (.invokevirtual index, 3)) (hn : pc + 3 = n') (kk : ∀ (z : Int) (φ' : jPhi), post z φ' → jJ X G B0 κ n kc ks Q nL φ' n' lv (rf B0 z :: st)) : jJ X G B0 κ n kc ks Q nL φ pc lv (b2 :: b1 :: b0 :: rf B0 i :: st) := by
  subst hn
  exact j_callV (As := [b0, b1, b2]) F hL hM hκ hc hdd hcat hd kk
theorem j_cS3r (F : jF X G cc nL own d kc ks) {b0 b1 b2 : Value} {n' : Nat} (hL : jLS own index y bytes maxL ret 3) (hM : jC X.l G B0 κ n y bytes maxL ret d' [b0, b1, b2] φ (mkR B0) post) (hdd : d' + 1 ≤ d) (hcat : (st.map fun v => v.category).sum ≤ 8) (hd : decode cc pc = .ok (.invokestatic index, 3)) (hn : pc + 3 = n') (kk : ∀ (z : Int) (φ' : jPhi), post z φ' → jJ X G B0 κ n kc ks Q nL φ' n' lv (rf B0 z :: st)) : jJ X G B0 κ n kc ks Q nL φ pc lv (b2 :: b1 :: b0 :: st) := by
  subst hn
  exact j_callS (As := [b0, b1, b2]) F hL hM hdd hcat hd kk
theorem j_cV4i (F : jF X G cc nL own d kc ks) {b0 b1 b2 b3 : Value} {i : Int} {n' : Nat} (hL : jLV own index C y bytes maxL ret 4) (hM : jC X.l G B0 κ n y bytes maxL ret d' [rf B0 i, b0, b1, b2, b3] φ mkI post) {ci N : Nat} {T : u_T} {cs : List jSl} (hκ : κ i = some (.inl (ci, cs))) (hc : jclasses[ci]? = some (C, T, N)) (hdd : d' + 1 ≤ d) (hcat : (st.map fun v => v.category).sum ≤ 8) (hd : decode cc pc = .ok (.invokevirtual index, 3)) (hn : pc + 3 = n') (kk : ∀ (z : Int) (φ' : jPhi), post z φ' → jJ X G B0 κ n kc ks Q nL φ' n' lv (iv z :: st)) : jJ X G B0 κ n kc ks Q nL φ pc lv (b3 :: b2 :: b1 :: b0 :: rf B0 i :: st) := by
  subst hn
  exact j_callV (As := [b0, b1, b2, b3]) F hL hM hκ hc hdd hcat hd kk
theorem j_cV4v (F : jF X G cc nL own d kc ks) {b0 b1 b2 b3 : Value} {i : Int} {n' : Nat} (hL : jLV own index C y bytes maxL ret 4) (hM : jC X.l G B0 κ n y bytes maxL ret d' [rf B0 i, b0, b1, b2, b3] φ mkV post) {ci N : Nat} {T : u_T} {cs : List jSl} (hκ : κ i = some (.inl (ci, cs))) (hc : jclasses[ci]? = some (C, T, N)) (hdd : d' + 1 ≤ d) (hcat : (st.map fun v => v.category).sum ≤ 8) (hd : decode cc pc = .ok (.invokevirtual index, 3)) (hn : pc + 3 = n') (kk : ∀ (z : Int) (φ' : jPhi), post z φ' → jJ X G B0 κ n kc ks Q nL φ' n' lv (st)) : jJ X G B0 κ n kc ks Q nL φ pc lv (b3 :: b2 :: b1 :: b0 :: rf B0 i :: st) := by
  subst hn
  exact j_callV (As := [b0, b1, b2, b3]) F hL hM hκ hc hdd hcat hd kk
theorem j_cV4l (F : jF X G cc nL own d kc ks) {b0 b1 b2 b3 : Value} {i : Int} {n' : Nat} (hL : jLV own index C y bytes maxL ret 4) (hM : jC X.l G B0 κ n y bytes maxL ret d' [rf B0 i, b0, b1, b2, b3] φ mkL post) {ci N : Nat} {T : u_T} {cs : List jSl} (hκ : κ i = some (.inl (ci, cs))) (hc : jclasses[ci]? = some (C, T, N)) (hdd : d' + 1 ≤ d) (hcat : (st.map fun v => v.category).sum ≤ 8) (hd : decode cc pc = .ok (.invokevirtual index, 3)) (hn : pc + 3 = n') (kk : ∀ (z : Int) (φ' : jPhi), post z φ' → jJ X G B0 κ n kc ks Q nL φ' n' lv (lvv z :: st)) : jJ X G B0 κ n kc ks Q nL φ pc lv (b3 :: b2 :: b1 :: b0 :: rf B0 i :: st) := by
  subst hn
  exact j_callV (As := [b0, b1, b2, b3]) F hL hM hκ hc hdd hcat hd kk
theorem j_cV4r (F : jF X G cc nL own d kc ks) {b0 b1 b2 b3 : Value} {i : Int} {n' : Nat} (hL : jLV own index C y bytes maxL ret 4) (hM : jC X.l G B0 κ n y bytes maxL ret d' [rf B0 i, b0, b1, b2, b3] φ (mkR B0) post) {ci N : Nat} {T : u_T} {cs : List jSl} (hκ : κ i = some (.inl (ci, cs))) (hc : jclasses[ci]? = some (C, T, N)) (hdd : d' + 1 ≤ d) (hcat : (st.map fun v => v.category).sum ≤ 8) (hd : decode cc pc = .ok (.invokevirtual index, 3)) (hn : pc + 3 = n') (kk : ∀ (z : Int) (φ' : jPhi), post z φ' → jJ X G B0 κ n kc ks Q nL φ' n' lv (rf B0 z :: st)) : jJ X G B0 κ n kc ks Q nL φ pc lv (b3 :: b2 :: b1 :: b0 :: rf B0 i :: st) := by
  subst hn
  exact j_callV (As := [b0, b1, b2, b3]) F hL hM hκ hc hdd hcat hd kk
theorem j_cV5i (F : jF X G cc nL own d kc ks) {b0 b1 b2 b3 b4 : Value} {i : Int} {n' : Nat} (hL : jLV own index C y bytes maxL ret 5) (hM : jC X.l G B0 κ n y bytes maxL ret d' [rf B0 i, b0, b1, b2, b3, b4] φ mkI post) {ci N : Nat} {T : u_T} {cs : List jSl} (hκ : κ i = some (.inl (ci, cs))) (hc : jclasses[ci]? = some (C, T, N)) (hdd : d' + 1 ≤ d) (hcat : (st.map fun v => v.category).sum ≤ 8) (hd : decode cc pc = .ok (.invokevirtual index, 3)) (hn : pc + 3 = n') (kk : ∀ (z : Int) (φ' : jPhi), post z φ' → jJ X G B0 κ n kc ks Q nL φ' n' lv (iv z :: st)) : jJ X G B0 κ n kc ks Q nL φ pc lv (b4 :: b3 :: b2 :: b1 :: b0 :: rf B0 i :: st) := by
  subst hn
  exact j_callV (As := [b0, b1, b2, b3, b4]) F hL hM hκ hc hdd hcat hd kk
theorem j_cV5v (F : jF X G cc nL own d kc ks) {b0 b1 b2 b3 b4 : Value} {i : Int} {n' : Nat} (hL : jLV own index C y bytes maxL ret 5) (hM : jC X.l G B0 κ n y bytes maxL ret d' [rf B0 i, b0, b1, b2, b3, b4] φ mkV post) {ci N : Nat} {T : u_T} {cs : List jSl} (hκ : κ i = some (.inl (ci, cs))) (hc : jclasses[ci]? = some (C, T, N)) (hdd : d' + 1 ≤ d) (hcat : (st.map fun v => v.category).sum ≤ 8) (hd : decode cc pc = .ok (.invokevirtual index, 3)) (hn : pc + 3 = n') (kk : ∀ (z : Int) (φ' : jPhi), post z φ' → jJ X G B0 κ n kc ks Q nL φ' n' lv (st)) : jJ X G B0 κ n kc ks Q nL φ pc lv (b4 :: b3 :: b2 :: b1 :: b0 :: rf B0 i :: st) := by
  subst hn
  exact j_callV (As := [b0, b1, b2, b3, b4]) F hL hM hκ hc hdd hcat hd kk
theorem j_cV5l (F : jF X G cc nL own d kc ks) {b0 b1 b2 b3 b4 : Value} {i : Int} {n' : Nat} (hL : jLV own index C y bytes maxL ret 5) (hM : jC X.l G B0 κ n y bytes maxL ret d' [rf B0 i, b0, b1, b2, b3, b4] φ mkL post) {ci N : Nat} {T : u_T} {cs : List jSl} (hκ : κ i = some (.inl (ci, cs))) (hc : jclasses[ci]? = some (C, T, N)) (hdd : d' + 1 ≤ d) (hcat : (st.map fun v => v.category).sum ≤ 8) (hd : decode cc pc = .ok (.invokevirtual index, 3)) (hn : pc + 3 = n') (kk : ∀ (z : Int) (φ' : jPhi), post z φ' → jJ X G B0 κ n kc ks Q nL φ' n' lv (lvv z :: st)) : jJ X G B0 κ n kc ks Q nL φ pc lv (b4 :: b3 :: b2 :: b1 :: b0 :: rf B0 i :: st) := by
  subst hn
  exact j_callV (As := [b0, b1, b2, b3, b4]) F hL hM hκ hc hdd hcat hd kk
theorem j_cV5r (F : jF X G cc nL own d kc ks) {b0 b1 b2 b3 b4 : Value} {i : Int} {n' : Nat} (hL : jLV own index C y bytes maxL ret 5) (hM : jC X.l G B0 κ n y bytes maxL ret d' [rf B0 i, b0, b1, b2, b3, b4] φ (mkR B0) post) {ci N : Nat} {T : u_T} {cs : List jSl} (hκ : κ i = some (.inl (ci, cs))) (hc : jclasses[ci]? = some (C, T, N)) (hdd : d' + 1 ≤ d) (hcat : (st.map fun v => v.category).sum ≤ 8) (hd : decode cc pc = .ok (.invokevirtual index, 3)) (hn : pc + 3 = n') (kk : ∀ (z : Int) (φ' : jPhi), post z φ' → jJ X G B0 κ n kc ks Q nL φ' n' lv (rf B0 z :: st)) : jJ X G B0 κ n kc ks Q nL φ pc lv (b4 :: b3 :: b2 :: b1 :: b0 :: rf B0 i :: st) := by
  subst hn
  exact j_callV (As := [b0, b1, b2, b3, b4]) F hL hM hκ hc hdd hcat hd kk
end JCALLS
end
section
theorem qs_yX1_takes : Cond.selects RX1 yX1_takes yX1_takes ∈ lw_good := lw_mem 0 (by decide +kernel)
theorem qs_yX1_takesFigure : Cond.selects RX1 yX1_takesFigure yX1_takesFigure ∈ lw_good := lw_mem 1 (by decide +kernel)
theorem qs_yX1_make : Cond.selects RX1 yX1_make yX1_make ∈ lw_good := lw_mem 2 (by decide +kernel)
theorem qs_yX1_takesLetter : Cond.selects RX1 yX1_takesLetter yX1_takesLetter ∈ lw_good := lw_mem 3 (by decide +kernel)
theorem qs_yX1_opens : Cond.selects RX1 yX1_opens yX1_opens ∈ lw_good := lw_mem 4 (by decide +kernel)
theorem qs_yX7_takeText : Cond.selects RX7 yX7_takeText yX7_takeText ∈ lw_good := lw_mem 5 (by decide +kernel)
theorem qs_yX7_forget : Cond.selects RX7 yX7_forget yX7_forget ∈ lw_good := lw_mem 6 (by decide +kernel)
theorem qs_yX7_hasText : Cond.selects RX7 yX7_hasText yX7_hasText ∈ lw_good := lw_mem 7 (by decide +kernel)
theorem qs_yX7_chooseCheapest : Cond.selects RX7 yX7_chooseCheapest yX7_chooseCheapest ∈ lw_good := lw_mem 8 (by decide +kernel)
theorem qs_yX0_chooseCopy : Cond.selects RX0 yX0_chooseCopy yX0_chooseCopy ∈ lw_good := lw_mem 9 (by decide +kernel)
theorem qs_yX0_consider : Cond.selects RX0 yX0_consider yX0_consider ∈ lw_good := lw_mem 10 (by decide +kernel)
theorem qs_yX0_chooseFirsts : Cond.selects RX0 yX0_chooseFirsts yX0_chooseFirsts ∈ lw_good := lw_mem 11 (by decide +kernel)
theorem qs_yX0_collect : Cond.selects RX0 yX0_collect yX0_collect ∈ lw_good := lw_mem 12 (by decide +kernel)
theorem qs_yX3_countTaken : Cond.selects RX3 yX3_countTaken yX3_countTaken ∈ lw_good := lw_mem 13 (by decide +kernel)
theorem qs_yX3_countOne : Cond.selects RX3 yX3_countOne yX3_countOne ∈ lw_good := lw_mem 14 (by decide +kernel)
theorem qs_yX3_reprice : Cond.selects RX3 yX3_reprice yX3_reprice ∈ lw_good := lw_mem 15 (by decide +kernel)
theorem qs_yX7_findRest : Cond.selects RX7 yX7_findRest yX7_findRest ∈ lw_good := lw_mem 16 (by decide +kernel)
theorem qs_yX7_chooseGreedy : Cond.selects RX7 yX7_chooseGreedy yX7_chooseGreedy ∈ lw_good := lw_mem 17 (by decide +kernel)
theorem qs_yX7_priceOfParts : Cond.selects RX7 yX7_priceOfParts yX7_priceOfParts ∈ lw_good := lw_mem 18 (by decide +kernel)
theorem qs_yX8_textFault : Cond.selects RX8 yX8_textFault yX8_textFault ∈ lw_good := lw_mem 19 (by decide +kernel)
theorem qs_yX8_readCode : Cond.selects RX8 yX8_readCode yX8_readCode ∈ lw_good := lw_mem 20 (by decide +kernel)
theorem qs_yX8_copy : Cond.selects RX8 yX8_copy yX8_copy ∈ lw_good := lw_mem 21 (by decide +kernel)
theorem qs_yX8_againPrice : Cond.selects RX8 yX8_againPrice yX8_againPrice ∈ lw_good := lw_mem 22 (by decide +kernel)
theorem qs_yX8_copyPrice : Cond.selects RX8 yX8_copyPrice yX8_copyPrice ∈ lw_good := lw_mem 23 (by decide +kernel)
theorem qs_yX8_isPlace : Cond.selects RX8 yX8_isPlace yX8_isPlace ∈ lw_good := lw_mem 24 (by decide +kernel)
theorem qs_yX8_longestNow : Cond.selects RX8 yX8_longestNow yX8_longestNow ∈ lw_good := lw_mem 25 (by decide +kernel)
theorem qs_yX8_farLongest : Cond.selects RX8 yX8_farLongest yX8_farLongest ∈ lw_good := lw_mem 26 (by decide +kernel)
theorem qs_yX8_likeness : Cond.selects RX8 yX8_likeness yX8_likeness ∈ lw_good := lw_mem 27 (by decide +kernel)
theorem qs_yX8_chainNow : Cond.selects RX8 yX8_chainNow yX8_chainNow ∈ lw_good := lw_mem 28 (by decide +kernel)
theorem qs_yX8_layTokens : Cond.selects RX8 yX8_layTokens yX8_layTokens ∈ lw_good := lw_mem 29 (by decide +kernel)
theorem qs_yX8_layCheapest : Cond.selects RX8 yX8_layCheapest yX8_layCheapest ∈ lw_good := lw_mem 30 (by decide +kernel)
theorem qs_yX8_layState : Cond.selects RX8 yX8_layState yX8_layState ∈ lw_good := lw_mem 31 (by decide +kernel)
theorem qs_yX8_way : Cond.selects RX8 yX8_way yX8_way ∈ lw_good := lw_mem 32 (by decide +kernel)
theorem qs_yX8_cheapestTold : Cond.selects RX8 yX8_cheapestTold yX8_cheapestTold ∈ lw_good := lw_mem 33 (by decide +kernel)
theorem qs_yX8_lettersOf : Cond.selects RX8 yX8_lettersOf yX8_lettersOf ∈ lw_good := lw_mem 34 (by decide +kernel)
theorem qs_yX8_codeNow : Cond.selects RX8 yX8_codeNow yX8_codeNow ∈ lw_good := lw_mem 35 (by decide +kernel)
theorem qs_yX8_greedyNow : Cond.selects RX8 yX8_greedyNow yX8_greedyNow ∈ lw_good := lw_mem 36 (by decide +kernel)
theorem qs_yX8_partsNow : Cond.selects RX8 yX8_partsNow yX8_partsNow ∈ lw_good := lw_mem 37 (by decide +kernel)
theorem qs_yX8_partsPrice : Cond.selects RX8 yX8_partsPrice yX8_partsPrice ∈ lw_good := lw_mem 38 (by decide +kernel)
theorem qs_yX8_roundNow : Cond.selects RX8 yX8_roundNow yX8_roundNow ∈ lw_good := lw_mem 39 (by decide +kernel)
theorem qs_yX8_layThen : Cond.selects RX8 yX8_layThen yX8_layThen ∈ lw_good := lw_mem 40 (by decide +kernel)
theorem qs_yX8_layTaken : Cond.selects RX8 yX8_layTaken yX8_layTaken ∈ lw_good := lw_mem 41 (by decide +kernel)
theorem qs_yX8_sum : Cond.selects RX8 yX8_sum yX8_sum ∈ lw_good := lw_mem 42 (by decide +kernel)
theorem qs_yX8_become : Cond.selects RX8 yX8_become yX8_become ∈ lw_good := lw_mem 43 (by decide +kernel)
theorem qs_yX8_layRest : Cond.selects RX8 yX8_layRest yX8_layRest ∈ lw_good := lw_mem 44 (by decide +kernel)
theorem qs_yX8_howMany : Cond.selects RX8 yX8_howMany yX8_howMany ∈ lw_good := lw_mem 45 (by decide +kernel)
theorem qs_yX8_tokensOf : Cond.selects RX8 yX8_tokensOf yX8_tokensOf ∈ lw_good := lw_mem 46 (by decide +kernel)
theorem qs_yX8_mix : Cond.selects RX8 yX8_mix yX8_mix ∈ lw_good := lw_mem 47 (by decide +kernel)
theorem qs_yX8_mixText : Cond.selects RX8 yX8_mixText yX8_mixText ∈ lw_good := lw_mem 48 (by decide +kernel)
def jshape : List jKd := [.inl (6, [.inl 1, .inl 3, .inl 7, .inl 34, .inl 37, .inl 90, .inl 92, .inl 94, .inl 97, .inr 0, .inr 0, .inr 0, .inr 0, .inr 0, .inr 0, .inr 0, .inr 0]), .inl (2, [.inl 2, .inr 0]), .inr (.inl 30), .inl (1, [.inl 4, .inl 5, .inr 0, .inr 0, .inr 0, .inr 0, .inr 0, .inr 0]), .inr (.inl 24), .inl (5, [.inl 6, .inr 0, .inr 0, .inr 0]), .inr (.inl 24), .inl (4, [.inl 8, .inl 9, .inr 0]), .inr (.inl 24), .inr (.inr (24, 10)), .inr (.inl 24), .inr (.inl 24), .inr (.inl 24), .inr (.inl 24), .inr (.inl 24), .inr (.inl 24), .inr (.inl 24), .inr (.inl 24), .inr (.inl 24), .inr (.inl 24), .inr (.inl 24), .inr (.inl 24), .inr (.inl 24), .inr (.inl 24), .inr (.inl 24), .inr (.inl 24), .inr (.inl 24), .inr (.inl 24), .inr (.inl 24), .inr (.inl 24), .inr (.inl 24), .inr (.inl 24), .inr (.inl 24), .inr (.inl 24), .inl (3, [.inl 35, .inl 36]), .inr (.inl 18), .inr (.inl 18), .inl (0, [.inl 38, .inl 64, .inr 0, .inr 0]), .inr (.inr (25, 39)), .inr (.inl 25), .inr (.inl 25), .inr (.inl 25), .inr (.inl 25), .inr (.inl 25), .inr (.inl 25), .inr (.inl 25), .inr (.inl 25), .inr (.inl 25), .inr (.inl 25), .inr (.inl 25), .inr (.inl 25), .inr (.inl 25), .inr (.inl 25), .inr (.inl 25), .inr (.inl 25), .inr (.inl 25), .inr (.inl 25), .inr (.inl 25), .inr (.inl 25), .inr (.inl 25), .inr (.inl 25), .inr (.inl 25), .inr (.inl 25), .inr (.inl 25), .inr (.inr (25, 65)), .inr (.inl 25), .inr (.inl 25), .inr (.inl 25), .inr (.inl 25), .inr (.inl 25), .inr (.inl 25), .inr (.inl 25), .inr (.inl 25), .inr (.inl 25), .inr (.inl 25), .inr (.inl 25), .inr (.inl 25), .inr (.inl 25), .inr (.inl 25), .inr (.inl 25), .inr (.inl 25), .inr (.inl 25), .inr (.inl 25), .inr (.inl 25), .inr (.inl 25), .inr (.inl 25), .inr (.inl 25), .inr (.inl 25), .inr (.inl 25), .inr (.inl 25), .inl (5, [.inl 91, .inr 0, .inr 0, .inr 0]), .inr (.inl 24), .inl (5, [.inl 93, .inr 0, .inr 0, .inr 0]), .inr (.inl 24), .inl (3, [.inl 95, .inl 96]), .inr (.inl 18), .inr (.inl 18), .inl (5, [.inl 98, .inr 0, .inr 0, .inr 0]), .inr (.inl 24), .inl (7, [.inr 0, .inl 100, .inr 0, .inl 101, .inl 102, .inr 0, .inr 0, .inr 0, .inl 103, .inr 0, .inr 0, .inr 0, .inr 0, .inl 104, .inl 105, .inl 106, .inl 107, .inl 108, .inr 0, .inl 109, .inl 110, .inl 111, .inl 112, .inr 1]), .inr (.inl 30), .inr (.inl 24), .inr (.inl 18), .inr (.inl 24), .inr (.inl 625), .inr (.inl 625), .inr (.inl 625), .inr (.inl 625), .inr (.inl 24), .inr (.inl 18), .inr (.inl 18), .inr (.inl 18), .inr (.inl 3)]
def κF (i : Int) : Option jKd := if 0 ≤ i then jshape[i.toNat]? else none
theorem κF_len : jshape.length = 113 := by decide +kernel
theorem kap_0 : κF 0 = some (.inl (6, [.inl 1, .inl 3, .inl 7, .inl 34, .inl 37, .inl 90, .inl 92, .inl 94, .inl 97, .inr 0, .inr 0, .inr 0, .inr 0, .inr 0, .inr 0, .inr 0, .inr 0])) := by decide +kernel
theorem kap_1 : κF 1 = some (.inl (2, [.inl 2, .inr 0])) := by decide +kernel
theorem kap_2 : κF 2 = some (.inr (.inl 30)) := by decide +kernel
theorem kap_3 : κF 3 = some (.inl (1, [.inl 4, .inl 5, .inr 0, .inr 0, .inr 0, .inr 0, .inr 0, .inr 0])) := by decide +kernel
theorem kap_4 : κF 4 = some (.inr (.inl 24)) := by decide +kernel
theorem kap_5 : κF 5 = some (.inl (5, [.inl 6, .inr 0, .inr 0, .inr 0])) := by decide +kernel
theorem kap_6 : κF 6 = some (.inr (.inl 24)) := by decide +kernel
theorem kap_7 : κF 7 = some (.inl (4, [.inl 8, .inl 9, .inr 0])) := by decide +kernel
theorem kap_8 : κF 8 = some (.inr (.inl 24)) := by decide +kernel
theorem kap_9 : κF 9 = some (.inr (.inr (24, 10))) := by decide +kernel
theorem kap_34 : κF 34 = some (.inl (3, [.inl 35, .inl 36])) := by decide +kernel
theorem kap_35 : κF 35 = some (.inr (.inl 18)) := by decide +kernel
theorem kap_36 : κF 36 = some (.inr (.inl 18)) := by decide +kernel
theorem kap_37 : κF 37 = some (.inl (0, [.inl 38, .inl 64, .inr 0, .inr 0])) := by decide +kernel
theorem kap_38 : κF 38 = some (.inr (.inr (25, 39))) := by decide +kernel
theorem kap_64 : κF 64 = some (.inr (.inr (25, 65))) := by decide +kernel
theorem kap_90 : κF 90 = some (.inl (5, [.inl 91, .inr 0, .inr 0, .inr 0])) := by decide +kernel
theorem kap_91 : κF 91 = some (.inr (.inl 24)) := by decide +kernel
theorem kap_92 : κF 92 = some (.inl (5, [.inl 93, .inr 0, .inr 0, .inr 0])) := by decide +kernel
theorem kap_93 : κF 93 = some (.inr (.inl 24)) := by decide +kernel
theorem kap_94 : κF 94 = some (.inl (3, [.inl 95, .inl 96])) := by decide +kernel
theorem kap_95 : κF 95 = some (.inr (.inl 18)) := by decide +kernel
theorem kap_96 : κF 96 = some (.inr (.inl 18)) := by decide +kernel
theorem kap_97 : κF 97 = some (.inl (5, [.inl 98, .inr 0, .inr 0, .inr 0])) := by decide +kernel
theorem kap_98 : κF 98 = some (.inr (.inl 24)) := by decide +kernel
theorem kap_99 : κF 99 = some (.inl (7, [.inr 0, .inl 100, .inr 0, .inl 101, .inl 102, .inr 0, .inr 0, .inr 0, .inl 103, .inr 0, .inr 0, .inr 0, .inr 0, .inl 104, .inl 105, .inl 106, .inl 107, .inl 108, .inr 0, .inl 109, .inl 110, .inl 111, .inl 112, .inr 1])) := by decide +kernel
theorem kap_100 : κF 100 = some (.inr (.inl 30)) := by decide +kernel
theorem kap_101 : κF 101 = some (.inr (.inl 24)) := by decide +kernel
theorem kap_102 : κF 102 = some (.inr (.inl 18)) := by decide +kernel
theorem kap_103 : κF 103 = some (.inr (.inl 24)) := by decide +kernel
theorem kap_104 : κF 104 = some (.inr (.inl 625)) := by decide +kernel
theorem kap_105 : κF 105 = some (.inr (.inl 625)) := by decide +kernel
theorem kap_106 : κF 106 = some (.inr (.inl 625)) := by decide +kernel
theorem kap_107 : κF 107 = some (.inr (.inl 625)) := by decide +kernel
theorem kap_108 : κF 108 = some (.inr (.inl 24)) := by decide +kernel
theorem kap_109 : κF 109 = some (.inr (.inl 18)) := by decide +kernel
theorem kap_110 : κF 110 = some (.inr (.inl 18)) := by decide +kernel
theorem kap_111 : κF 111 = some (.inr (.inl 18)) := by decide +kernel
theorem kap_112 : κF 112 = some (.inr (.inl 3)) := by decide +kernel
theorem kap_al0 : ∀ k : Fin 24, κF (10 + ((k : Nat) : Int)) = some (.inr (.inl 24)) := by decide +kernel
theorem kap_al {z : Int} (h : 0 ≤ z ∧ z < 24) : κF (10 + z) = some (.inr (.inl 24)) := by
  have h1 := kap_al0 ⟨z.toNat, by omega⟩
  have e : ((z.toNat : Nat) : Int) = z := by omega
  simp only [e] at h1
  exact h1
theorem kap_we0 : ∀ k : Fin 25, κF (39 + ((k : Nat) : Int)) = some (.inr (.inl 25)) := by decide +kernel
theorem kap_we {z : Int} (h : 0 ≤ z ∧ z < 25) : κF (39 + z) = some (.inr (.inl 25)) := by
  have h1 := kap_we0 ⟨z.toNat, by omega⟩
  have e : ((z.toNat : Nat) : Int) = z := by omega
  simp only [e] at h1
  exact h1
theorem kap_fi0 : ∀ k : Fin 25, κF (65 + ((k : Nat) : Int)) = some (.inr (.inl 25)) := by decide +kernel
theorem kap_fi {z : Int} (h : 0 ≤ z ∧ z < 25) : κF (65 + z) = some (.inr (.inl 25)) := by
  have h1 := kap_fi0 ⟨z.toNat, by omega⟩
  have e : ((z.toNat : Nat) : Int) = z := by omega
  simp only [e] at h1
  exact h1
theorem fl_X2_9 : jLF RX2 9 2 2 0 := ⟨RX2, TX2, rfl, by decide, in_X2, q_25⟩
theorem fl_X2_15 : jLF RX2 15 2 2 1 := ⟨RX2, TX2, rfl, by decide, in_X2, q_26⟩
theorem fp_X2_15 : jLP RX2 15 2 2 1 .int := ⟨RX2, TX2, tyX2, rfl, by decide, in_X2, q_26, tyX2_ok, nmX2, rfl, by decide +kernel⟩
theorem fl_X6_9 : jLF RX6 9 5 4 0 := ⟨RX6, TX6, rfl, by decide, in_X6, q_45⟩
theorem fl_X6_15 : jLF RX6 15 5 4 1 := ⟨RX6, TX6, rfl, by decide, in_X6, q_46⟩
theorem fp_X6_15 : jLP RX6 15 5 4 1 .int := ⟨RX6, TX6, tyX6, rfl, by decide, in_X6, q_46, tyX6_ok, nmX6, rfl, by decide +kernel⟩
theorem fl_X6_19 : jLF RX6 19 5 4 2 := ⟨RX6, TX6, rfl, by decide, in_X6, q_47⟩
theorem fp_X6_19 : jLP RX6 19 5 4 2 .int := ⟨RX6, TX6, tyX6, rfl, by decide, in_X6, q_47, tyX6_ok, nmX6, rfl, by decide +kernel⟩
theorem fl_X6_22 : jLF RX6 22 5 4 3 := ⟨RX6, TX6, rfl, by decide, in_X6, q_48⟩
theorem fp_X6_22 : jLP RX6 22 5 4 3 .int := ⟨RX6, TX6, tyX6, rfl, by decide, in_X6, q_48, tyX6_ok, nmX6, rfl, by decide +kernel⟩
theorem fl_X1_9 : jLF RX1 9 1 8 0 := ⟨RX1, TX1, rfl, by decide, in_X1, q_58⟩
theorem fl_X1_18 : jLF RX1 18 1 8 1 := ⟨RX1, TX1, rfl, by decide, in_X1, q_59⟩
theorem fl_X1_22 : jLF RX1 22 1 8 2 := ⟨RX1, TX1, rfl, by decide, in_X1, q_60⟩
theorem fp_X1_22 : jLP RX1 22 1 8 2 .int := ⟨RX1, TX1, tyX1, rfl, by decide, in_X1, q_60, tyX1_ok, nmX1, rfl, by decide +kernel⟩
theorem fl_X1_26 : jLF RX1 26 1 8 3 := ⟨RX1, TX1, rfl, by decide, in_X1, q_61⟩
theorem fp_X1_26 : jLP RX1 26 1 8 3 .int := ⟨RX1, TX1, tyX1, rfl, by decide, in_X1, q_61, tyX1_ok, nmX1, rfl, by decide +kernel⟩
theorem fl_X1_29 : jLF RX1 29 1 8 4 := ⟨RX1, TX1, rfl, by decide, in_X1, q_62⟩
theorem fp_X1_29 : jLP RX1 29 1 8 4 .int := ⟨RX1, TX1, tyX1, rfl, by decide, in_X1, q_62, tyX1_ok, nmX1, rfl, by decide +kernel⟩
theorem fl_X1_32 : jLF RX1 32 1 8 5 := ⟨RX1, TX1, rfl, by decide, in_X1, q_63⟩
theorem fp_X1_32 : jLP RX1 32 1 8 5 .boolean := ⟨RX1, TX1, tyX1, rfl, by decide, in_X1, q_63, tyX1_ok, nmX1, rfl, by decide +kernel⟩
theorem fl_X1_36 : jLF RX1 36 1 8 6 := ⟨RX1, TX1, rfl, by decide, in_X1, q_64⟩
theorem fp_X1_36 : jLP RX1 36 1 8 6 .int := ⟨RX1, TX1, tyX1, rfl, by decide, in_X1, q_64, tyX1_ok, nmX1, rfl, by decide +kernel⟩
theorem fl_X1_39 : jLF RX1 39 1 8 7 := ⟨RX1, TX1, rfl, by decide, in_X1, q_65⟩
theorem fp_X1_39 : jLP RX1 39 1 8 7 .boolean := ⟨RX1, TX1, tyX1, rfl, by decide, in_X1, q_65, tyX1_ok, nmX1, rfl, by decide +kernel⟩
theorem fl_X4_9 : jLF RX4 9 4 3 0 := ⟨RX4, TX4, rfl, by decide, in_X4, q_91⟩
theorem fl_X4_17 : jLF RX4 17 4 3 1 := ⟨RX4, TX4, rfl, by decide, in_X4, q_92⟩
theorem fl_X4_20 : jLF RX4 20 4 3 2 := ⟨RX4, TX4, rfl, by decide, in_X4, q_93⟩
theorem fp_X4_20 : jLP RX4 20 4 3 2 .int := ⟨RX4, TX4, tyX4, rfl, by decide, in_X4, q_93, tyX4_ok, nmX4, rfl, by decide +kernel⟩
theorem fl_X3_18 : jLF RX3 18 3 2 0 := ⟨RX3, TX3, rfl, by decide, in_X3, q_116⟩
theorem fl_X3_23 : jLF RX3 23 3 2 1 := ⟨RX3, TX3, rfl, by decide, in_X3, q_117⟩
theorem fl_X0_11 : jLF RX0 11 0 4 0 := ⟨RX0, TX0, rfl, by decide, in_X0, q_130⟩
theorem fl_X0_16 : jLF RX0 16 0 4 1 := ⟨RX0, TX0, rfl, by decide, in_X0, q_131⟩
theorem fl_X0_19 : jLF RX0 19 0 4 2 := ⟨RX0, TX0, rfl, by decide, in_X0, q_132⟩
theorem fp_X0_19 : jLP RX0 19 0 4 2 .int := ⟨RX0, TX0, tyX0, rfl, by decide, in_X0, q_132, tyX0_ok, nmX0, rfl, by decide +kernel⟩
theorem fl_X0_23 : jLF RX0 23 0 4 3 := ⟨RX0, TX0, rfl, by decide, in_X0, q_133⟩
theorem fp_X0_23 : jLP RX0 23 0 4 3 .int := ⟨RX0, TX0, tyX0, rfl, by decide, in_X0, q_133, tyX0_ok, nmX0, rfl, by decide +kernel⟩
theorem fl_X7_10 : jLF RX7 10 6 17 0 := ⟨RX7, TX7, rfl, by decide, in_X7, q_145⟩
theorem fl_X7_19 : jLF RX7 19 6 17 1 := ⟨RX7, TX7, rfl, by decide, in_X7, q_146⟩
theorem fl_X7_26 : jLF RX7 26 6 17 2 := ⟨RX7, TX7, rfl, by decide, in_X7, q_147⟩
theorem fl_X7_33 : jLF RX7 33 6 17 3 := ⟨RX7, TX7, rfl, by decide, in_X7, q_148⟩
theorem fl_X7_40 : jLF RX7 40 6 17 4 := ⟨RX7, TX7, rfl, by decide, in_X7, q_149⟩
theorem fl_X7_47 : jLF RX7 47 6 17 5 := ⟨RX7, TX7, rfl, by decide, in_X7, q_150⟩
theorem fl_X7_51 : jLF RX7 51 6 17 6 := ⟨RX7, TX7, rfl, by decide, in_X7, q_151⟩
theorem fl_X7_54 : jLF RX7 54 6 17 7 := ⟨RX7, TX7, rfl, by decide, in_X7, q_152⟩
theorem fl_X7_57 : jLF RX7 57 6 17 8 := ⟨RX7, TX7, rfl, by decide, in_X7, q_153⟩
theorem fl_X7_60 : jLF RX7 60 6 17 9 := ⟨RX7, TX7, rfl, by decide, in_X7, q_154⟩
theorem fp_X7_60 : jLP RX7 60 6 17 9 .boolean := ⟨RX7, TX7, tyX7, rfl, by decide, in_X7, q_154, tyX7_ok, nmX7, rfl, by decide +kernel⟩
theorem fl_X7_64 : jLF RX7 64 6 17 10 := ⟨RX7, TX7, rfl, by decide, in_X7, q_155⟩
theorem fp_X7_64 : jLP RX7 64 6 17 10 .boolean := ⟨RX7, TX7, tyX7, rfl, by decide, in_X7, q_155, tyX7_ok, nmX7, rfl, by decide +kernel⟩
theorem fl_X7_67 : jLF RX7 67 6 17 11 := ⟨RX7, TX7, rfl, by decide, in_X7, q_156⟩
theorem fp_X7_67 : jLP RX7 67 6 17 11 .int := ⟨RX7, TX7, tyX7, rfl, by decide, in_X7, q_156, tyX7_ok, nmX7, rfl, by decide +kernel⟩
theorem fl_X7_71 : jLF RX7 71 6 17 12 := ⟨RX7, TX7, rfl, by decide, in_X7, q_157⟩
theorem fp_X7_71 : jLP RX7 71 6 17 12 .int := ⟨RX7, TX7, tyX7, rfl, by decide, in_X7, q_157, tyX7_ok, nmX7, rfl, by decide +kernel⟩
theorem fl_X7_74 : jLF RX7 74 6 17 13 := ⟨RX7, TX7, rfl, by decide, in_X7, q_158⟩
theorem fp_X7_74 : jLP RX7 74 6 17 13 .int := ⟨RX7, TX7, tyX7, rfl, by decide, in_X7, q_158, tyX7_ok, nmX7, rfl, by decide +kernel⟩
theorem fl_X7_77 : jLF RX7 77 6 17 14 := ⟨RX7, TX7, rfl, by decide, in_X7, q_159⟩
theorem fp_X7_77 : jLP RX7 77 6 17 14 .int := ⟨RX7, TX7, tyX7, rfl, by decide, in_X7, q_159, tyX7_ok, nmX7, rfl, by decide +kernel⟩
theorem fl_X7_80 : jLF RX7 80 6 17 15 := ⟨RX7, TX7, rfl, by decide, in_X7, q_160⟩
theorem fp_X7_80 : jLP RX7 80 6 17 15 .int := ⟨RX7, TX7, tyX7, rfl, by decide, in_X7, q_160, tyX7_ok, nmX7, rfl, by decide +kernel⟩
theorem fl_X7_83 : jLF RX7 83 6 17 16 := ⟨RX7, TX7, rfl, by decide, in_X7, q_161⟩
theorem fp_X7_83 : jLP RX7 83 6 17 16 .int := ⟨RX7, TX7, tyX7, rfl, by decide, in_X7, q_161, tyX7_ok, nmX7, rfl, by decide +kernel⟩
theorem fl_X8_53 : jLF RX8 53 7 24 0 := ⟨RX8, TX8, rfl, by decide, in_X8, q_598⟩
theorem fp_X8_53 : jLP RX8 53 7 24 0 .int := ⟨RX8, TX8, tyX8, rfl, by decide, in_X8, q_598, tyX8_ok, nmX8, rfl, by decide +kernel⟩
theorem fl_X8_7 : jLF RX8 7 7 24 1 := ⟨RX8, TX8, rfl, by decide, in_X8, q_599⟩
theorem fl_X8_92 : jLF RX8 92 7 24 2 := ⟨RX8, TX8, rfl, by decide, in_X8, q_600⟩
theorem fp_X8_92 : jLP RX8 92 7 24 2 .int := ⟨RX8, TX8, tyX8, rfl, by decide, in_X8, q_600, tyX8_ok, nmX8, rfl, by decide +kernel⟩
theorem fl_X8_13 : jLF RX8 13 7 24 3 := ⟨RX8, TX8, rfl, by decide, in_X8, q_601⟩
theorem fl_X8_16 : jLF RX8 16 7 24 4 := ⟨RX8, TX8, rfl, by decide, in_X8, q_602⟩
theorem fl_X8_175 : jLF RX8 175 7 24 5 := ⟨RX8, TX8, rfl, by decide, in_X8, q_603⟩
theorem fp_X8_175 : jLP RX8 175 7 24 5 .int := ⟨RX8, TX8, tyX8, rfl, by decide, in_X8, q_603, tyX8_ok, nmX8, rfl, by decide +kernel⟩
theorem fl_X8_95 : jLF RX8 95 7 24 6 := ⟨RX8, TX8, rfl, by decide, in_X8, q_604⟩
theorem fp_X8_95 : jLP RX8 95 7 24 6 .int := ⟨RX8, TX8, tyX8, rfl, by decide, in_X8, q_604, tyX8_ok, nmX8, rfl, by decide +kernel⟩
theorem fl_X8_98 : jLF RX8 98 7 24 7 := ⟨RX8, TX8, rfl, by decide, in_X8, q_605⟩
theorem fp_X8_98 : jLP RX8 98 7 24 7 .int := ⟨RX8, TX8, tyX8, rfl, by decide, in_X8, q_605, tyX8_ok, nmX8, rfl, by decide +kernel⟩
theorem fl_X8_19 : jLF RX8 19 7 24 8 := ⟨RX8, TX8, rfl, by decide, in_X8, q_606⟩
theorem fl_X8_61 : jLF RX8 61 7 24 9 := ⟨RX8, TX8, rfl, by decide, in_X8, q_607⟩
theorem fp_X8_61 : jLP RX8 61 7 24 9 .int := ⟨RX8, TX8, tyX8, rfl, by decide, in_X8, q_607, tyX8_ok, nmX8, rfl, by decide +kernel⟩
theorem fl_X8_64 : jLF RX8 64 7 24 10 := ⟨RX8, TX8, rfl, by decide, in_X8, q_608⟩
theorem fp_X8_64 : jLP RX8 64 7 24 10 .int := ⟨RX8, TX8, tyX8, rfl, by decide, in_X8, q_608, tyX8_ok, nmX8, rfl, by decide +kernel⟩
theorem fl_X8_67 : jLF RX8 67 7 24 11 := ⟨RX8, TX8, rfl, by decide, in_X8, q_609⟩
theorem fp_X8_67 : jLP RX8 67 7 24 11 .int := ⟨RX8, TX8, tyX8, rfl, by decide, in_X8, q_609, tyX8_ok, nmX8, rfl, by decide +kernel⟩
theorem fl_X8_70 : jLF RX8 70 7 24 12 := ⟨RX8, TX8, rfl, by decide, in_X8, q_610⟩
theorem fp_X8_70 : jLP RX8 70 7 24 12 .boolean := ⟨RX8, TX8, tyX8, rfl, by decide, in_X8, q_610, tyX8_ok, nmX8, rfl, by decide +kernel⟩
theorem fl_X8_22 : jLF RX8 22 7 24 13 := ⟨RX8, TX8, rfl, by decide, in_X8, q_611⟩
theorem fl_X8_25 : jLF RX8 25 7 24 14 := ⟨RX8, TX8, rfl, by decide, in_X8, q_612⟩
theorem fl_X8_28 : jLF RX8 28 7 24 15 := ⟨RX8, TX8, rfl, by decide, in_X8, q_613⟩
theorem fl_X8_31 : jLF RX8 31 7 24 16 := ⟨RX8, TX8, rfl, by decide, in_X8, q_614⟩
theorem fl_X8_34 : jLF RX8 34 7 24 17 := ⟨RX8, TX8, rfl, by decide, in_X8, q_615⟩
theorem fl_X8_133 : jLF RX8 133 7 24 18 := ⟨RX8, TX8, rfl, by decide, in_X8, q_616⟩
theorem fp_X8_133 : jLP RX8 133 7 24 18 .int := ⟨RX8, TX8, tyX8, rfl, by decide, in_X8, q_616, tyX8_ok, nmX8, rfl, by decide +kernel⟩
theorem fl_X8_37 : jLF RX8 37 7 24 19 := ⟨RX8, TX8, rfl, by decide, in_X8, q_617⟩
theorem fl_X8_40 : jLF RX8 40 7 24 20 := ⟨RX8, TX8, rfl, by decide, in_X8, q_618⟩
theorem fl_X8_43 : jLF RX8 43 7 24 21 := ⟨RX8, TX8, rfl, by decide, in_X8, q_619⟩
theorem fl_X8_46 : jLF RX8 46 7 24 22 := ⟨RX8, TX8, rfl, by decide, in_X8, q_620⟩
theorem fl_X8_192 : jLF RX8 192 7 24 23 := ⟨RX8, TX8, rfl, by decide, in_X8, q_621⟩
theorem fp_X8_192 : jLP RX8 192 7 24 23 .long := ⟨RX8, TX8, tyX8, rfl, by decide, in_X8, q_621, tyX8_ok, nmX8, rfl, by decide +kernel⟩
theorem kl_L_13 : jLV RL 13 RX7 yX7_letter cX7_letter 2 (some .int) 1 := ⟨q_197, q_198, q_199, q_1, q_200, by decide +kernel, by decide⟩
theorem kl_X7_86 : jLV RX7 86 RX2 yX2_isFull cX2_isFull 1 (some .boolean) 0 := ⟨q_201, q_202, q_203, q_2, q_204, by decide +kernel, by decide⟩
theorem kl_X7_90 : jLV RX7 90 RX2 yX2_add cX2_add 2 none 1 := ⟨q_205, q_206, q_207, q_2, q_208, by decide +kernel, by decide⟩
theorem kl_X2_19 : jLV RX2 19 RX2 yX2_isFull cX2_isFull 1 (some .boolean) 0 := ⟨q_209, q_202, q_203, q_2, q_204, by decide +kernel, by decide⟩
theorem kl_X7_94 : jLV RX7 94 RX2 yX2_size cX2_size 1 (some .int) 0 := ⟨q_210, q_211, q_212, q_2, q_213, by decide +kernel, by decide⟩
theorem kl_L_18 : jLV RL 18 RX7 yX7_blank cX7_blank 2 (some .int) 0 := ⟨q_214, q_215, q_216, q_1, q_217, by decide +kernel, by decide⟩
theorem kl_X7_98 : jLV RX7 98 RX2 yX2_clear cX2_clear 1 none 0 := ⟨q_218, q_219, q_220, q_2, q_221, by decide +kernel, by decide⟩
theorem kl_L_23 : jLV RL 23 RX7 yX7_fault cX7_fault 2 (some .int) 1 := ⟨q_222, q_223, q_224, q_1, q_225, by decide +kernel, by decide⟩
theorem kl_X7_101 : jLV RX7 101 RX2 yX2_textFault cX2_textFault 3 (some .int) 0 := ⟨q_226, q_227, q_228, q_2, q_229, by decide +kernel, by decide⟩
theorem kl_X2_23 : jLV RX2 23 RX2 yX2_signAt cX2_signAt 2 (some .int) 1 := ⟨q_230, q_231, q_232, q_2, q_233, by decide +kernel, by decide⟩
theorem kl_X7_104 : jLV RX7 104 RX1 yX1_read cX1_read 2 none 1 := ⟨q_234, q_235, q_236, q_3, q_237, by decide +kernel, by decide⟩
theorem kl_X1_42 : jLV RX1 42 RX6 yX6_clear cX6_clear 1 none 0 := ⟨q_238, q_239, q_240, q_4, q_241, by decide +kernel, by decide⟩
theorem kl_X1_45 : jLV RX1 45 RX2 yX2_size cX2_size 1 (some .int) 0 := ⟨q_242, q_211, q_212, q_2, q_213, by decide +kernel, by decide⟩
theorem kl_X1_51 : jLV RX1 51 RX2 yX2_signAt cX2_signAt 2 (some .int) 1 := ⟨q_243, q_231, q_232, q_2, q_233, by decide +kernel, by decide⟩
theorem kl_X1_55 : jLV RX1 55 RX1 yX1_takes cX1_takes 3 (some .boolean) 1 := ⟨q_244, q_246, qs_yX1_takes, q_3, q_247, by decide +kernel, by decide⟩
theorem kl_X1_60 : jLV RX1 60 RX1 yX1_takesFigure cX1_takesFigure 3 (some .boolean) 1 := ⟨q_248, q_250, qs_yX1_takesFigure, q_3, q_251, by decide +kernel, by decide⟩
theorem kl_X1_76 : jLS RX1 76 yX5_again cX5_again 1 (some .int) 1 := ⟨q_252, q_253, q_9, q_254, by decide +kernel, by decide⟩
theorem kl_X1_81 : jLS RX1 81 yX5_copy cX5_copy 2 (some .int) 2 := ⟨q_255, q_256, q_9, q_257, by decide +kernel, by decide⟩
theorem kl_X1_73 : jLV RX1 73 RX6 yX6_add cX6_add 2 none 1 := ⟨q_258, q_259, q_260, q_4, q_261, by decide +kernel, by decide⟩
theorem kl_X6_25 : jLS RX6 25 yX5_isPlain cX5_isPlain 1 (some .boolean) 1 := ⟨q_262, q_263, q_9, q_264, by decide +kernel, by decide⟩
theorem kl_X6_31 : jLS RX6 31 yX5_isCopy cX5_isCopy 1 (some .boolean) 1 := ⟨q_265, q_266, q_9, q_267, by decide +kernel, by decide⟩
theorem kl_X1_85 : jLV RX1 85 RX1 yX1_madeAt cX1_madeAt 2 (some .int) 1 := ⟨q_268, q_269, q_270, q_3, q_271, by decide +kernel, by decide⟩
theorem kl_X1_69 : jLV RX1 69 RX1 yX1_make cX1_make 2 none 1 := ⟨q_272, q_274, qs_yX1_make, q_3, q_275, by decide +kernel, by decide⟩
theorem kl_X1_63 : jLV RX1 63 RX1 yX1_takesLetter cX1_takesLetter 2 (some .boolean) 1 := ⟨q_276, q_278, qs_yX1_takesLetter, q_3, q_279, by decide +kernel, by decide⟩
theorem kl_X1_66 : jLV RX1 66 RX1 yX1_opens cX1_opens 2 (some .boolean) 1 := ⟨q_280, q_282, qs_yX1_opens, q_3, q_283, by decide +kernel, by decide⟩
theorem kl_X7_108 : jLV RX7 108 RX1 yX1_faultPlace cX1_faultPlace 1 (some .int) 0 := ⟨q_284, q_285, q_286, q_3, q_287, by decide +kernel, by decide⟩
theorem kl_L_28 : jLV RL 28 RX7 yX7_text cX7_text 2 (some .int) 0 := ⟨q_288, q_289, q_290, q_1, q_291, by decide +kernel, by decide⟩
theorem kl_X7_111 : jLV RX7 111 RX2 yX2_isText cX2_isText 1 (some .boolean) 0 := ⟨q_292, q_293, q_294, q_2, q_295, by decide +kernel, by decide⟩
theorem kl_X2_27 : jLV RX2 27 RX2 yX2_textFault cX2_textFault 3 (some .int) 0 := ⟨q_296, q_227, q_228, q_2, q_229, by decide +kernel, by decide⟩
theorem kl_X7_114 : jLV RX7 114 RX4 yX4_clear cX4_clear 1 none 0 := ⟨q_297, q_298, q_299, q_5, q_300, by decide +kernel, by decide⟩
theorem kl_X7_115 : jLV RX7 115 RX2 yX2_signAt cX2_signAt 2 (some .int) 1 := ⟨q_301, q_231, q_232, q_2, q_233, by decide +kernel, by decide⟩
theorem kl_X7_119 : jLV RX7 119 RX4 yX4_add cX4_add 2 none 1 := ⟨q_302, q_303, q_304, q_5, q_305, by decide +kernel, by decide⟩
theorem kl_X7_120 : jLV RX7 120 RX7 yX7_takeText cX7_takeText 1 none 0 := ⟨q_306, q_308, qs_yX7_takeText, q_1, q_309, by decide +kernel, by decide⟩
theorem kl_X7_234 : jLV RX7 234 RX4 yX4_compare cX4_compare 4 none 0 := ⟨q_310, q_311, q_312, q_5, q_313, by decide +kernel, by decide⟩
theorem kl_X4_28 : jLV RX4 28 RX4 yX4_likeness cX4_likeness 3 (some .int) 2 := ⟨q_314, q_315, q_316, q_5, q_317, by decide +kernel, by decide⟩
theorem kl_X7_152 : jLV RX7 152 RX7 yX7_forget cX7_forget 1 none 0 := ⟨q_321, q_323, qs_yX7_forget, q_1, q_324, by decide +kernel, by decide⟩
theorem kl_X7_123 : jLV RX7 123 RX4 yX4_size cX4_size 1 (some .int) 0 := ⟨q_325, q_326, q_327, q_5, q_328, by decide +kernel, by decide⟩
theorem kl_L_32 : jLV RL 32 RX7 yX7_decode cX7_decode 2 (some .int) 0 := ⟨q_329, q_330, q_331, q_1, q_332, by decide +kernel, by decide⟩
theorem kl_X7_124 : jLV RX7 124 RX1 yX1_isCode cX1_isCode 1 (some .boolean) 0 := ⟨q_333, q_334, q_335, q_3, q_336, by decide +kernel, by decide⟩
theorem kl_X1_59 : jLV RX1 59 RX6 yX6_size cX6_size 1 (some .int) 0 := ⟨q_337, q_338, q_339, q_4, q_340, by decide +kernel, by decide⟩
theorem kl_X7_127 : jLV RX7 127 RX1 yX1_madeSize cX1_madeSize 1 (some .int) 0 := ⟨q_341, q_342, q_343, q_3, q_344, by decide +kernel, by decide⟩
theorem kl_X7_130 : jLV RX7 130 RX1 yX1_madeAt cX1_madeAt 2 (some .int) 1 := ⟨q_345, q_269, q_270, q_3, q_271, by decide +kernel, by decide⟩
theorem kl_L_36 : jLV RL 36 RX7 yX7_priced cX7_priced 1 (some .int) 0 := ⟨q_346, q_347, q_348, q_1, q_349, by decide +kernel, by decide⟩
theorem kl_X7_133 : jLV RX7 133 RX1 yX1_tokens cX1_tokens 1 (some (.object "PricedCopies$TokenRow")) 0 := ⟨q_350, q_351, q_352, q_3, q_353, by decide +kernel, by decide⟩
theorem kl_X7_137 : jLV RX7 137 RX3 yX3_ofRow cX3_ofRow 4 (some .int) 1 := ⟨q_354, q_355, q_356, q_6, q_357, by decide +kernel, by decide⟩
theorem kl_X3_51 : jLV RX3 51 RX6 yX6_size cX6_size 1 (some .int) 0 := ⟨q_358, q_338, q_339, q_4, q_340, by decide +kernel, by decide⟩
theorem kl_X3_57 : jLV RX3 57 RX6 yX6_get cX6_get 2 (some .int) 1 := ⟨q_359, q_360, q_361, q_4, q_362, by decide +kernel, by decide⟩
theorem kl_X3_58 : jLV RX3 58 RX3 yX3_ofToken cX3_ofToken 3 (some .int) 1 := ⟨q_363, q_364, q_365, q_6, q_366, by decide +kernel, by decide⟩
theorem kl_X3_34 : jLS RX3 34 yX5_isPlain cX5_isPlain 1 (some .boolean) 1 := ⟨q_367, q_263, q_9, q_264, by decide +kernel, by decide⟩
theorem kl_X3_30 : jLV RX3 30 RX3 yX3_get cX3_get 2 (some .int) 1 := ⟨q_368, q_369, q_370, q_6, q_371, by decide +kernel, by decide⟩
theorem kl_X3_39 : jLS RX3 39 yX5_lengthOf cX5_lengthOf 1 (some .int) 1 := ⟨q_372, q_373, q_9, q_374, by decide +kernel, by decide⟩
theorem kl_X3_42 : jLS RX3 42 yX5_isCopy cX5_isCopy 1 (some .boolean) 1 := ⟨q_375, q_266, q_9, q_267, by decide +kernel, by decide⟩
theorem kl_X3_45 : jLS RX3 45 yX5_distanceOf cX5_distanceOf 1 (some .int) 1 := ⟨q_376, q_377, q_9, q_378, by decide +kernel, by decide⟩
theorem kl_X3_48 : jLN RX3 48 yX7_log cX7_log 3 (some .int) 1 := ⟨by simp [jnest], q_380, q_1, q_381, by decide +kernel, by decide⟩
theorem kl_L_40 : jLV RL 40 RX7 yX7_price cX7_price 4 (some .int) 2 := ⟨q_382, q_383, q_384, q_1, q_385, by decide +kernel, by decide⟩
theorem kl_X7_141 : jLS RX7 141 yX7_isPrice cX7_isPrice 1 (some .boolean) 1 := ⟨q_386, q_387, q_1, q_388, by decide +kernel, by decide⟩
theorem kl_X7_145 : jLV RX7 145 RX3 yX3_get cX3_get 2 (some .int) 1 := ⟨q_389, q_369, q_370, q_6, q_371, by decide +kernel, by decide⟩
theorem kl_X7_148 : jLV RX7 148 RX3 yX3_set cX3_set 3 none 2 := ⟨q_390, q_391, q_392, q_6, q_393, by decide +kernel, by decide⟩
theorem kl_X3_26 : jLN RX3 26 yX7_isPrice cX7_isPrice 1 (some .boolean) 1 := ⟨by simp [jnest], q_387, q_1, q_388, by decide +kernel, by decide⟩
theorem kl_L_45 : jLV RL 45 RX7 yX7_priceOf cX7_priceOf 2 (some .int) 1 := ⟨q_395, q_396, q_397, q_1, q_398, by decide +kernel, by decide⟩
theorem kl_L_49 : jLV RL 49 RX7 yX7_round cX7_round 2 (some .int) 0 := ⟨q_399, q_400, q_401, q_1, q_402, by decide +kernel, by decide⟩
theorem kl_X7_155 : jLV RX7 155 RX7 yX7_hasText cX7_hasText 1 (some .boolean) 0 := ⟨q_403, q_405, qs_yX7_hasText, q_1, q_406, by decide +kernel, by decide⟩
theorem kl_X7_158 : jLV RX7 158 RX7 yX7_chooseCheapest cX7_chooseCheapest 1 none 0 := ⟨q_407, q_409, qs_yX7_chooseCheapest, q_1, q_410, by decide +kernel, by decide⟩
theorem kl_X7_237 : jLV RX7 237 RX0 yX0_choose cX0_choose 7 none 5 := ⟨q_411, q_412, q_413, q_7, q_414, by decide +kernel, by decide⟩
theorem kl_X0_26 : jLV RX0 26 RX6 yX6_clear cX6_clear 1 none 0 := ⟨q_415, q_239, q_240, q_4, q_241, by decide +kernel, by decide⟩
theorem kl_X0_31 : jLV RX0 31 RX4 yX4_size cX4_size 1 (some .int) 0 := ⟨q_416, q_326, q_327, q_5, q_328, by decide +kernel, by decide⟩
theorem kl_X0_37 : jLV RX0 37 RX0 yX0_chooseCopy cX0_chooseCopy 10 none 5 := ⟨q_417, q_419, qs_yX0_chooseCopy, q_7, q_420, by decide +kernel, by decide⟩
theorem kl_X0_48 : jLV RX0 48 RX4 yX4_likeness cX4_likeness 3 (some .int) 2 := ⟨q_421, q_315, q_316, q_5, q_317, by decide +kernel, by decide⟩
theorem kl_X0_57 : jLS RX0 57 yX5_copy cX5_copy 2 (some .int) 2 := ⟨q_423, q_256, q_9, q_257, by decide +kernel, by decide⟩
theorem kl_X0_62 : jLV RX0 62 RX3 yX3_ofToken cX3_ofToken 3 (some .int) 1 := ⟨q_424, q_364, q_365, q_6, q_366, by decide +kernel, by decide⟩
theorem kl_X0_68 : jLV RX0 68 RX0 yX0_consider cX0_consider 5 none 3 := ⟨q_425, q_427, qs_yX0_consider, q_7, q_428, by decide +kernel, by decide⟩
theorem kl_X0_41 : jLV RX0 41 RX0 yX0_chooseFirsts cX0_chooseFirsts 13 none 5 := ⟨q_429, q_431, qs_yX0_chooseFirsts, q_7, q_432, by decide +kernel, by decide⟩
theorem kl_X0_72 : jLV RX0 72 RX4 yX4_letterAt cX4_letterAt 2 (some .int) 1 := ⟨q_433, q_434, q_435, q_5, q_436, by decide +kernel, by decide⟩
theorem kl_X4_24 : jLV RX4 24 RX4 yX4_has cX4_has 2 (some .boolean) 1 := ⟨q_437, q_438, q_439, q_5, q_440, by decide +kernel, by decide⟩
theorem kl_X0_75 : jLS RX0 75 yX5_again cX5_again 1 (some .int) 1 := ⟨q_441, q_253, q_9, q_254, by decide +kernel, by decide⟩
theorem kl_X0_44 : jLV RX0 44 RX0 yX0_collect cX0_collect 7 none 3 := ⟨q_442, q_444, qs_yX0_collect, q_7, q_445, by decide +kernel, by decide⟩
theorem kl_X0_78 : jLV RX0 78 RX6 yX6_add cX6_add 2 none 1 := ⟨q_446, q_259, q_260, q_4, q_261, by decide +kernel, by decide⟩
theorem kl_X0_82 : jLS RX0 82 yX5_isCopy cX5_isCopy 1 (some .boolean) 1 := ⟨q_447, q_266, q_9, q_267, by decide +kernel, by decide⟩
theorem kl_X0_86 : jLS RX0 86 yX5_distanceOf cX5_distanceOf 1 (some .int) 1 := ⟨q_448, q_377, q_9, q_378, by decide +kernel, by decide⟩
theorem kl_X0_89 : jLS RX0 89 yX5_lengthOf cX5_lengthOf 1 (some .int) 1 := ⟨q_449, q_373, q_9, q_374, by decide +kernel, by decide⟩
theorem kl_X7_161 : jLV RX7 161 RX3 yX3_follow cX3_follow 4 (some .int) 1 := ⟨q_453, q_454, q_455, q_6, q_456, by decide +kernel, by decide⟩
theorem kl_X3_61 : jLV RX3 61 RX3 yX3_countTaken cX3_countTaken 4 none 1 := ⟨q_457, q_459, qs_yX3_countTaken, q_6, q_460, by decide +kernel, by decide⟩
theorem kl_X3_84 : jLV RX3 84 RX3 yX3_countOne cX3_countOne 2 none 1 := ⟨q_461, q_463, qs_yX3_countOne, q_6, q_464, by decide +kernel, by decide⟩
theorem kl_X3_65 : jLV RX3 65 RX6 yX6_plains cX6_plains 1 (some .int) 0 := ⟨q_465, q_466, q_467, q_4, q_468, by decide +kernel, by decide⟩
theorem kl_X3_68 : jLV RX3 68 RX3 yX3_reprice cX3_reprice 7 (some .int) 3 := ⟨q_469, q_471, qs_yX3_reprice, q_6, q_472, by decide +kernel, by decide⟩
theorem kl_X3_72 : jLV RX3 72 RX6 yX6_copies cX6_copies 1 (some .int) 0 := ⟨q_474, q_475, q_476, q_4, q_477, by decide +kernel, by decide⟩
theorem kl_X3_75 : jLV RX3 75 RX6 yX6_agains cX6_agains 1 (some .int) 0 := ⟨q_478, q_479, q_480, q_4, q_481, by decide +kernel, by decide⟩
theorem kl_L_53 : jLV RL 53 RX7 yX7_rest cX7_rest 2 (some .int) 1 := ⟨q_482, q_483, q_484, q_1, q_485, by decide +kernel, by decide⟩
theorem kl_X7_164 : jLV RX7 164 RX7 yX7_findRest cX7_findRest 2 none 0 := ⟨q_486, q_488, qs_yX7_findRest, q_1, q_489, by decide +kernel, by decide⟩
theorem kl_X7_259 : jLV RX7 259 RX3 yX3_take cX3_take 3 none 1 := ⟨q_490, q_491, q_492, q_6, q_493, by decide +kernel, by decide⟩
theorem kl_X7_184 : jLV RX7 184 RX6 yX6_size cX6_size 1 (some .int) 0 := ⟨q_494, q_338, q_339, q_4, q_340, by decide +kernel, by decide⟩
theorem kl_L_57 : jLV RL 57 RX7 yX7_at cX7_at 2 (some .int) 1 := ⟨q_495, q_496, q_497, q_1, q_498, by decide +kernel, by decide⟩
theorem kl_X7_167 : jLV RX7 167 RX4 yX4_has cX4_has 2 (some .boolean) 1 := ⟨q_499, q_438, q_439, q_5, q_440, by decide +kernel, by decide⟩
theorem kl_X7_170 : jLV RX7 170 RX4 yX4_letterAt cX4_letterAt 2 (some .int) 1 := ⟨q_500, q_434, q_435, q_5, q_436, by decide +kernel, by decide⟩
theorem kl_L_61 : jLV RL 61 RX7 yX7_longest cX7_longest 4 (some .int) 2 := ⟨q_501, q_502, q_503, q_1, q_504, by decide +kernel, by decide⟩
theorem kl_X7_173 : jLV RX7 173 RX4 yX4_longestDistance cX4_longestDistance 6 (some .int) 1 := ⟨q_505, q_506, q_507, q_5, q_508, by decide +kernel, by decide⟩
theorem kl_X7_176 : jLV RX7 176 RX4 yX4_likeness cX4_likeness 3 (some .int) 2 := ⟨q_509, q_315, q_316, q_5, q_317, by decide +kernel, by decide⟩
theorem kl_L_65 : jLV RL 65 RX7 yX7_chain cX7_chain 3 (some .int) 2 := ⟨q_510, q_511, q_512, q_1, q_513, by decide +kernel, by decide⟩
theorem kl_X7_180 : jLV RX7 180 RX4 yX4_chainPlace cX4_chainPlace 5 (some .int) 2 := ⟨q_514, q_515, q_516, q_5, q_517, by decide +kernel, by decide⟩
theorem kl_L_69 : jLV RL 69 RX7 yX7_cheapest cX7_cheapest 3 (some .int) 1 := ⟨q_518, q_519, q_520, q_1, q_521, by decide +kernel, by decide⟩
theorem kl_X7_183 : jLV RX7 183 RX6 yX6_get cX6_get 2 (some .int) 1 := ⟨q_522, q_360, q_361, q_4, q_362, by decide +kernel, by decide⟩
theorem kl_X7_185 : jLV RX7 185 RX6 yX6_signs cX6_signs 3 (some .int) 0 := ⟨q_523, q_524, q_525, q_4, q_526, by decide +kernel, by decide⟩
theorem kl_X6_34 : jLV RX6 34 RX6 yX6_get cX6_get 2 (some .int) 1 := ⟨q_527, q_360, q_361, q_4, q_362, by decide +kernel, by decide⟩
theorem kl_X6_38 : jLS RX6 38 yX5_signsOf cX5_signsOf 1 (some .int) 1 := ⟨q_528, q_529, q_9, q_530, by decide +kernel, by decide⟩
theorem kl_X5_9 : jLS RX5 9 yX5_isPlain cX5_isPlain 1 (some .boolean) 1 := ⟨q_531, q_263, q_9, q_264, by decide +kernel, by decide⟩
theorem kl_L_73 : jLV RL 73 RX7 yX7_codeOf cX7_codeOf 2 (some .int) 1 := ⟨q_532, q_533, q_534, q_1, q_535, by decide +kernel, by decide⟩
theorem kl_X7_188 : jLV RX7 188 RX6 yX6_signAt cX6_signAt 5 (some .int) 1 := ⟨q_536, q_537, q_538, q_4, q_539, by decide +kernel, by decide⟩
theorem kl_X6_41 : jLS RX6 41 yX5_signOf cX5_signOf 2 (some .int) 2 := ⟨q_540, q_541, q_9, q_542, by decide +kernel, by decide⟩
theorem kl_X5_15 : jLS RX5 15 yX5_lengthOf cX5_lengthOf 1 (some .int) 1 := ⟨q_543, q_373, q_9, q_374, by decide +kernel, by decide⟩
theorem kl_X5_19 : jLS RX5 19 yX5_isCopy cX5_isCopy 1 (some .boolean) 1 := ⟨q_544, q_266, q_9, q_267, by decide +kernel, by decide⟩
theorem kl_X5_22 : jLS RX5 22 yX5_distanceOf cX5_distanceOf 1 (some .int) 1 := ⟨q_545, q_377, q_9, q_378, by decide +kernel, by decide⟩
theorem kl_L_77 : jLV RL 77 RX7 yX7_greedy cX7_greedy 2 (some .int) 1 := ⟨q_546, q_547, q_548, q_1, q_549, by decide +kernel, by decide⟩
theorem kl_X7_189 : jLV RX7 189 RX7 yX7_chooseGreedy cX7_chooseGreedy 5 none 0 := ⟨q_550, q_552, qs_yX7_chooseGreedy, q_1, q_553, by decide +kernel, by decide⟩
theorem kl_X7_241 : jLV RX7 241 RX6 yX6_clear cX6_clear 1 none 0 := ⟨q_554, q_239, q_240, q_4, q_241, by decide +kernel, by decide⟩
theorem kl_X7_242 : jLV RX7 242 RX6 yX6_add cX6_add 2 none 1 := ⟨q_555, q_259, q_260, q_4, q_261, by decide +kernel, by decide⟩
theorem kl_X7_243 : jLS RX7 243 yX5_again cX5_again 1 (some .int) 1 := ⟨q_556, q_253, q_9, q_254, by decide +kernel, by decide⟩
theorem kl_X7_248 : jLS RX7 248 yX5_copy cX5_copy 2 (some .int) 2 := ⟨q_557, q_256, q_9, q_257, by decide +kernel, by decide⟩
theorem kl_L_81 : jLV RL 81 RX7 yX7_parts cX7_parts 4 (some .int) 2 := ⟨q_559, q_560, q_561, q_1, q_562, by decide +kernel, by decide⟩
theorem kl_X7_192 : jLV RX7 192 RX7 yX7_priceOfParts cX7_priceOfParts 5 (some .int) 1 := ⟨q_563, q_565, qs_yX7_priceOfParts, q_1, q_566, by decide +kernel, by decide⟩
theorem kl_L_85 : jLV RL 85 RX7 yX7_count cX7_count 2 (some .int) 1 := ⟨q_568, q_569, q_570, q_1, q_571, by decide +kernel, by decide⟩
theorem kl_X7_195 : jLV RX7 195 RX6 yX6_plains cX6_plains 1 (some .int) 0 := ⟨q_572, q_466, q_467, q_4, q_468, by decide +kernel, by decide⟩
theorem kl_X7_198 : jLV RX7 198 RX6 yX6_agains cX6_agains 1 (some .int) 0 := ⟨q_573, q_479, q_480, q_4, q_481, by decide +kernel, by decide⟩
theorem kl_X7_201 : jLV RX7 201 RX6 yX6_copies cX6_copies 1 (some .int) 0 := ⟨q_574, q_475, q_476, q_4, q_477, by decide +kernel, by decide⟩
theorem kl_L_89 : jLV RL 89 RX7 yX7_digest cX7_digest 5 (some .long) 0 := ⟨q_575, q_576, q_577, q_1, q_578, by decide +kernel, by decide⟩
theorem kl_X7_206 : jLS RX7 206 yX7_mix cX7_mix 4 (some .long) 2 := ⟨q_580, q_581, q_1, q_582, by decide +kernel, by decide⟩
theorem kl_X7_210 : jLV RX7 210 RX7 yX7_at cX7_at 2 (some .int) 1 := ⟨q_584, q_496, q_497, q_1, q_498, by decide +kernel, by decide⟩
theorem kl_X7_213 : jLV RX7 213 RX7 yX7_longest cX7_longest 4 (some .int) 2 := ⟨q_585, q_502, q_503, q_1, q_504, by decide +kernel, by decide⟩
theorem kl_X7_216 : jLV RX7 216 RX7 yX7_chain cX7_chain 3 (some .int) 2 := ⟨q_586, q_511, q_512, q_1, q_513, by decide +kernel, by decide⟩
theorem kl_X7_219 : jLV RX7 219 RX7 yX7_cheapest cX7_cheapest 3 (some .int) 1 := ⟨q_587, q_519, q_520, q_1, q_521, by decide +kernel, by decide⟩
theorem kl_X7_222 : jLV RX7 222 RX7 yX7_greedy cX7_greedy 2 (some .int) 1 := ⟨q_588, q_547, q_548, q_1, q_549, by decide +kernel, by decide⟩
theorem kl_X7_225 : jLV RX7 225 RX7 yX7_rest cX7_rest 2 (some .int) 1 := ⟨q_589, q_483, q_484, q_1, q_485, by decide +kernel, by decide⟩
theorem kl_X7_228 : jLV RX7 228 RX7 yX7_parts cX7_parts 4 (some .int) 2 := ⟨q_590, q_560, q_561, q_1, q_562, by decide +kernel, by decide⟩
theorem kl_X7_231 : jLV RX7 231 RX7 yX7_count cX7_count 2 (some .int) 1 := ⟨q_591, q_569, q_570, q_1, q_571, by decide +kernel, by decide⟩
theorem kl_L_17 : jLV RL 17 RX8 yX8_letter cX8_letter 2 (some .int) 1 := ⟨q_671, q_672, q_673, q_8, q_674, by decide +kernel, by decide⟩
theorem kl_X8_49 : jLS RX8 49 yX8_within cX8_within 3 (some .boolean) 3 := ⟨q_675, q_676, q_8, q_677, by decide +kernel, by decide⟩
theorem kl_L_22 : jLV RL 22 RX8 yX8_blank cX8_blank 2 (some .int) 0 := ⟨q_678, q_679, q_680, q_8, q_681, by decide +kernel, by decide⟩
theorem kl_L_27 : jLV RL 27 RX8 yX8_fault cX8_fault 2 (some .int) 1 := ⟨q_682, q_683, q_684, q_8, q_685, by decide +kernel, by decide⟩
theorem kl_X8_85 : jLV RX8 85 RX8 yX8_textFault cX8_textFault 2 (some .int) 0 := ⟨q_686, q_688, qs_yX8_textFault, q_8, q_689, by decide +kernel, by decide⟩
theorem kl_X8_89 : jLV RX8 89 RX8 yX8_readCode cX8_readCode 9 none 0 := ⟨q_690, q_692, qs_yX8_readCode, q_8, q_693, by decide +kernel, by decide⟩
theorem kl_X8_74 : jLV RX8 74 RX8 yX8_copy cX8_copy 4 none 2 := ⟨q_694, q_696, qs_yX8_copy, q_8, q_697, by decide +kernel, by decide⟩
theorem kl_X8_78 : jLV RX8 78 RX8 yX8_againPrice cX8_againPrice 2 (some .int) 1 := ⟨q_698, q_700, qs_yX8_againPrice, q_8, q_701, by decide +kernel, by decide⟩
theorem kl_X8_81 : jLV RX8 81 RX8 yX8_copyPrice cX8_copyPrice 3 (some .int) 2 := ⟨q_702, q_704, qs_yX8_copyPrice, q_8, q_705, by decide +kernel, by decide⟩
theorem kl_X8_57 : jLS RX8 57 yX8_farOf cX8_farOf 1 (some .int) 1 := ⟨q_706, q_707, q_8, q_708, by decide +kernel, by decide⟩
theorem kl_L_31 : jLV RL 31 RX8 yX8_text cX8_text 2 (some .int) 0 := ⟨q_709, q_710, q_711, q_8, q_712, by decide +kernel, by decide⟩
theorem kl_L_35 : jLV RL 35 RX8 yX8_decode cX8_decode 2 (some .int) 0 := ⟨q_713, q_714, q_715, q_8, q_716, by decide +kernel, by decide⟩
theorem kl_L_39 : jLV RL 39 RX8 yX8_priced cX8_priced 1 (some .int) 0 := ⟨q_717, q_718, q_719, q_8, q_720, by decide +kernel, by decide⟩
theorem kl_L_44 : jLV RL 44 RX8 yX8_price cX8_price 4 (some .int) 2 := ⟨q_721, q_722, q_723, q_8, q_724, by decide +kernel, by decide⟩
theorem kl_X8_101 : jLS RX8 101 yX8_isPrice cX8_isPrice 1 (some .boolean) 1 := ⟨q_725, q_726, q_8, q_727, by decide +kernel, by decide⟩
theorem kl_L_48 : jLV RL 48 RX8 yX8_priceOf cX8_priceOf 2 (some .int) 1 := ⟨q_728, q_729, q_730, q_8, q_731, by decide +kernel, by decide⟩
theorem kl_L_60 : jLV RL 60 RX8 yX8_at cX8_at 2 (some .int) 1 := ⟨q_732, q_733, q_734, q_8, q_735, by decide +kernel, by decide⟩
theorem kl_X8_105 : jLV RX8 105 RX8 yX8_isPlace cX8_isPlace 2 (some .boolean) 1 := ⟨q_736, q_738, qs_yX8_isPlace, q_8, q_739, by decide +kernel, by decide⟩
theorem kl_L_64 : jLV RL 64 RX8 yX8_longest cX8_longest 3 (some .int) 2 := ⟨q_740, q_741, q_742, q_8, q_743, by decide +kernel, by decide⟩
theorem kl_X8_115 : jLV RX8 115 RX8 yX8_longestNow cX8_longestNow 4 (some .int) 2 := ⟨q_744, q_746, qs_yX8_longestNow, q_8, q_747, by decide +kernel, by decide⟩
theorem kl_X8_112 : jLV RX8 112 RX8 yX8_farLongest cX8_farLongest 6 (some .int) 1 := ⟨q_748, q_750, qs_yX8_farLongest, q_8, q_751, by decide +kernel, by decide⟩
theorem kl_X8_108 : jLV RX8 108 RX8 yX8_likeness cX8_likeness 5 (some .int) 3 := ⟨q_752, q_754, qs_yX8_likeness, q_8, q_755, by decide +kernel, by decide⟩
theorem kl_L_68 : jLV RL 68 RX8 yX8_chain cX8_chain 3 (some .int) 2 := ⟨q_756, q_757, q_758, q_8, q_759, by decide +kernel, by decide⟩
theorem kl_X8_118 : jLV RX8 118 RX8 yX8_chainNow cX8_chainNow 5 (some .int) 2 := ⟨q_760, q_762, qs_yX8_chainNow, q_8, q_763, by decide +kernel, by decide⟩
theorem kl_L_72 : jLV RL 72 RX8 yX8_cheapest cX8_cheapest 2 (some .int) 1 := ⟨q_764, q_765, q_766, q_8, q_767, by decide +kernel, by decide⟩
theorem kl_X8_142 : jLV RX8 142 RX8 yX8_layTokens cX8_layTokens 4 none 0 := ⟨q_768, q_770, qs_yX8_layTokens, q_8, q_771, by decide +kernel, by decide⟩
theorem kl_X8_130 : jLV RX8 130 RX8 yX8_layCheapest cX8_layCheapest 5 (some .int) 2 := ⟨q_772, q_774, qs_yX8_layCheapest, q_8, q_775, by decide +kernel, by decide⟩
theorem kl_X8_126 : jLV RX8 126 RX8 yX8_layState cX8_layState 9 none 3 := ⟨q_776, q_778, qs_yX8_layState, q_8, q_779, by decide +kernel, by decide⟩
theorem kl_X8_122 : jLV RX8 122 RX8 yX8_way cX8_way 8 none 4 := ⟨q_781, q_783, qs_yX8_way, q_8, q_784, by decide +kernel, by decide⟩
theorem kl_X8_136 : jLS RX8 136 yX8_lengthOf cX8_lengthOf 1 (some .int) 1 := ⟨q_785, q_786, q_8, q_787, by decide +kernel, by decide⟩
theorem kl_X8_145 : jLV RX8 145 RX8 yX8_cheapestTold cX8_cheapestTold 2 (some .int) 1 := ⟨q_788, q_790, qs_yX8_cheapestTold, q_8, q_791, by decide +kernel, by decide⟩
theorem kl_X8_139 : jLV RX8 139 RX8 yX8_lettersOf cX8_lettersOf 3 (some .int) 0 := ⟨q_792, q_794, qs_yX8_lettersOf, q_8, q_795, by decide +kernel, by decide⟩
theorem kl_L_76 : jLV RL 76 RX8 yX8_codeOf cX8_codeOf 2 (some .int) 1 := ⟨q_796, q_797, q_798, q_8, q_799, by decide +kernel, by decide⟩
theorem kl_X8_148 : jLV RX8 148 RX8 yX8_codeNow cX8_codeNow 5 (some .int) 1 := ⟨q_800, q_802, qs_yX8_codeNow, q_8, q_803, by decide +kernel, by decide⟩
theorem kl_L_80 : jLV RL 80 RX8 yX8_greedy cX8_greedy 2 (some .int) 1 := ⟨q_804, q_805, q_806, q_8, q_807, by decide +kernel, by decide⟩
theorem kl_X8_151 : jLV RX8 151 RX8 yX8_greedyNow cX8_greedyNow 8 (some .int) 1 := ⟨q_808, q_810, qs_yX8_greedyNow, q_8, q_811, by decide +kernel, by decide⟩
theorem kl_L_84 : jLV RL 84 RX8 yX8_parts cX8_parts 3 (some .int) 2 := ⟨q_812, q_813, q_814, q_8, q_815, by decide +kernel, by decide⟩
theorem kl_X8_157 : jLV RX8 157 RX8 yX8_partsNow cX8_partsNow 4 (some .int) 2 := ⟨q_816, q_818, qs_yX8_partsNow, q_8, q_819, by decide +kernel, by decide⟩
theorem kl_X8_154 : jLV RX8 154 RX8 yX8_partsPrice cX8_partsPrice 4 (some .int) 1 := ⟨q_820, q_822, qs_yX8_partsPrice, q_8, q_823, by decide +kernel, by decide⟩
theorem kl_L_52 : jLV RL 52 RX8 yX8_round cX8_round 1 (some .int) 0 := ⟨q_824, q_825, q_826, q_8, q_827, by decide +kernel, by decide⟩
theorem kl_X8_178 : jLV RX8 178 RX8 yX8_roundNow cX8_roundNow 2 (some .int) 0 := ⟨q_828, q_830, qs_yX8_roundNow, q_8, q_831, by decide +kernel, by decide⟩
theorem kl_X8_169 : jLV RX8 169 RX8 yX8_layThen cX8_layThen 4 (some .int) 0 := ⟨q_832, q_834, qs_yX8_layThen, q_8, q_835, by decide +kernel, by decide⟩
theorem kl_X8_160 : jLV RX8 160 RX8 yX8_layTaken cX8_layTaken 3 none 0 := ⟨q_836, q_838, qs_yX8_layTaken, q_8, q_839, by decide +kernel, by decide⟩
theorem kl_X8_163 : jLV RX8 163 RX8 yX8_sum cX8_sum 5 (some .int) 2 := ⟨q_840, q_842, qs_yX8_sum, q_8, q_843, by decide +kernel, by decide⟩
theorem kl_X8_166 : jLS RX8 166 yX8_log cX8_log 3 (some .int) 1 := ⟨q_844, q_845, q_8, q_846, by decide +kernel, by decide⟩
theorem kl_X8_172 : jLV RX8 172 RX8 yX8_become cX8_become 2 none 0 := ⟨q_847, q_849, qs_yX8_become, q_8, q_850, by decide +kernel, by decide⟩
theorem kl_L_56 : jLV RL 56 RX8 yX8_rest cX8_rest 2 (some .int) 1 := ⟨q_851, q_852, q_853, q_8, q_854, by decide +kernel, by decide⟩
theorem kl_X8_181 : jLV RX8 181 RX8 yX8_layRest cX8_layRest 4 none 0 := ⟨q_855, q_857, qs_yX8_layRest, q_8, q_858, by decide +kernel, by decide⟩
theorem kl_L_88 : jLV RL 88 RX8 yX8_count cX8_count 2 (some .int) 1 := ⟨q_859, q_860, q_861, q_8, q_862, by decide +kernel, by decide⟩
theorem kl_X8_187 : jLV RX8 187 RX8 yX8_howMany cX8_howMany 2 (some .int) 1 := ⟨q_863, q_865, qs_yX8_howMany, q_8, q_866, by decide +kernel, by decide⟩
theorem kl_X8_184 : jLV RX8 184 RX8 yX8_tokensOf cX8_tokensOf 5 (some .int) 1 := ⟨q_867, q_869, qs_yX8_tokensOf, q_8, q_870, by decide +kernel, by decide⟩
theorem kl_L_93 : jLV RL 93 RX8 yX8_digest cX8_digest 2 (some .long) 0 := ⟨q_871, q_872, q_873, q_8, q_874, by decide +kernel, by decide⟩
theorem kl_X8_196 : jLV RX8 196 RX8 yX8_mix cX8_mix 3 none 1 := ⟨q_876, q_878, qs_yX8_mix, q_8, q_879, by decide +kernel, by decide⟩
theorem kl_X8_202 : jLV RX8 202 RX8 yX8_mixText cX8_mixText 2 none 0 := ⟨q_881, q_883, qs_yX8_mixText, q_8, q_884, by decide +kernel, by decide⟩
end
section
/-! ===== the system's numbers, as functions ===== -/
/-- from lo up to hi (not hi): f at each, one after the other -/
def lpN {α : Type} (f : Int → α → α) : Nat → Int → α → α
  | 0, _, a => a
  | k + 1, i, a => lpN f k (i + 1) (f i a)
def lpI {α : Type} (f : Int → α → α) (lo hi : Int) (a : α) : α := lpN f (hi - lo).toNat lo a
theorem lpI_end {α : Type} {f : Int → α → α} {lo hi : Int} {a : α} (h : hi ≤ lo) : lpI f lo hi a = a := by
  unfold lpI
  rw [show (hi - lo).toNat = 0 by omega]
  rfl
theorem lpI_step {α : Type} {f : Int → α → α} {lo hi : Int} {a : α} (h : lo < hi) : lpI f lo hi a = lpI f (lo + 1) hi (f lo a) := by
  unfold lpI
  rw [show (hi - lo).toNat = (hi - (lo + 1)).toNat + 1 by omega]
  rfl
theorem lpN_app {α : Type} {f : Int → α → α} : ∀ (k m : Nat) (i : Int) (a : α), lpN f (k + m) i a = lpN f m (i + k) (lpN f k i a)
  | 0, m, i, a => by simp [lpN]
  | k + 1, m, i, a => by
    rw [show k + 1 + m = (k + m) + 1 by omega]
    show lpN f (k + m) (i + 1) (f i a) = _
    rw [lpN_app k m]
    show _ = lpN f m (i + ((k + 1 : Nat) : Int)) (lpN f k (i + 1) (f i a))
    rw [show i + 1 + (k : Int) = i + ((k + 1 : Nat) : Int) by omega]
theorem lpI_app {α : Type} {f : Int → α → α} {lo mi hi : Int} {a : α} (h1 : lo ≤ mi) (h2 : mi ≤ hi) : lpI f lo hi a = lpI f mi hi (lpI f lo mi a) := by
  unfold lpI
  rw [show (hi - lo).toNat = (mi - lo).toNat + (hi - mi).toNat by omega, lpN_app]
  rw [show lo + ((mi - lo).toNat : Int) = mi by omega]
theorem lpI_last {α : Type} {f : Int → α → α} {lo hi : Int} {a : α} (h : lo ≤ hi) : lpI f lo (hi + 1) a = f hi (lpI f lo hi a) := by
  rw [lpI_app h (by omega), lpI_step (by omega), lpI_end (Int.le_refl _)]
theorem lpN_congr {α : Type} {f g : Int → α → α} : ∀ (k : Nat) (i : Int) (a : α), (∀ j b, i ≤ j → j < i + k → f j b = g j b) → lpN f k i a = lpN g k i a
  | 0, _, _, _ => rfl
  | k + 1, i, a, h => by
    show lpN f k (i + 1) (f i a) = lpN g k (i + 1) (g i a)
    rw [h i a (by omega) (by omega)]
    exact lpN_congr k (i + 1) _ (fun j b h1 h2 => h j b (by omega) (by omega))
theorem lpI_congr {α : Type} {f g : Int → α → α} {lo hi : Int} {a : α} (h : ∀ j b, lo ≤ j → j < hi → f j b = g j b) : lpI f lo hi a = lpI g lo hi a :=
  lpN_congr _ _ _ (fun j b h1 h2 => h j b h1 (by omega))
/-- an invariant of such a row -/
theorem lpN_inv {α : Type} {f : Int → α → α} (I : Int → α → Prop) : ∀ (k : Nat) (i : Int) (a : α), I i a → (∀ j b, i ≤ j → j < i + k → I j b → I (j + 1) (f j b)) → I (i + k) (lpN f k i a)
  | 0, i, a, h, _ => by simpa [lpN] using h
  | k + 1, i, a, h, hs => by
    have := lpN_inv I k (i + 1) (f i a) (hs i a (by omega) (by omega) h) (fun j b h1 h2 => hs j b (by omega) (by omega))
    rw [show i + ((k + 1 : Nat) : Int) = i + 1 + k by omega]
    exact this
theorem lpI_inv {α : Type} {f : Int → α → α} (I : Int → α → Prop) {lo hi : Int} {a : α} (hh : lo ≤ hi) (h0 : I lo a) (hs : ∀ j b, lo ≤ j → j < hi → I j b → I (j + 1) (f j b)) : I hi (lpI f lo hi a) := by
  have := lpN_inv I (hi - lo).toNat lo a h0 (fun j b h1 h2 => hs j b h1 (by omega))
  rw [show lo + ((hi - lo).toNat : Int) = hi by omega] at this
  exact this
/-- how often 2 divides -/
def zlog : Nat → Int → Int
  | 0, _ => 0
  | k + 1, x => if 1 < x then 1 + zlog k (x / 2) else 0
/-- likeness: how many from p on are like those d ahead, k at most, e the end -/
def lik (t : Int → Int) (e : Int) : Nat → Int → Int → Int
  | 0, _, _ => 0
  | k + 1, p, d => if p < e ∧ t p = t (p - d) then 1 + lik t e k (p + 1) d else 0
/-- tokens -/
def tkLen (x : Int) : Int := if x < 100 then 1 else x % 10
def tkDist (x : Int) : Int := if x < 1000 then 0 else (x - 1000) / 10
def tkSigns (x : Int) : Int := if x < 100 then 1 else 2
def tkSign (x w : Int) : Int := if x < 100 then 97 + x else if 0 < w then 48 + tkLen x else if x < 1000 then 61 else 65 + tkDist x - 1
def pget (P : Int → Int) (k : Int) : Int := if 0 ≤ k ∧ k < 18 then P k else 0
def tkPrice (P : Int → Int) (x : Int) : Int :=
  if x < 100 then pget P x else if x < 1000 then pget P 17 + pget P (10 + tkLen x - 2) else pget P 4 + pget P (5 + zlog 7 (tkDist x)) + pget P (10 + tkLen x - 2)
def tkOk (x : Int) : Prop := (0 ≤ x ∧ x ≤ 3) ∨ (102 ≤ x ∧ x ≤ 108) ∨ (1012 ≤ x ∧ x ≤ 1248 ∧ 2 ≤ x % 10 ∧ x % 10 ≤ 8)
/-- a row of tokens, as the cells i (its numbers) and j (its tokens) hold it -/
def rwSum (f : Int → Int) (ts : List Int) : Int := (ts.map f).sum
def rowIs (φ : jPhi) (i j : Int) (ts : List Int) : Prop :=
  φ i 1 = ts.length ∧ φ i 2 = rwSum (fun x => if x < 100 then 1 else 0) ts ∧ φ i 3 = rwSum (fun x => if 1000 ≤ x then 1 else 0) ts ∧ ∀ k : Nat, k < ts.length → φ j k = ts.getD k 0
def rwOk (ts : List Int) : Prop := ∀ x ∈ ts, tkOk x
def prOk (P : Int → Int) : Prop := ∀ k, 0 ≤ k → k < 18 → 1 ≤ P k ∧ P k ≤ 30
theorem rwSum_bd {f : Int → Int} {B : Int} : ∀ {ts : List Int}, (∀ x ∈ ts, 0 ≤ f x ∧ f x ≤ B) → 0 ≤ rwSum f ts ∧ rwSum f ts ≤ B * ts.length
  | [], _ => by simp [rwSum]
  | x :: ts, h => by
    have h1 := h x List.mem_cons_self
    have h2 := rwSum_bd (ts := ts) (fun y hy => h y (List.mem_cons_of_mem _ hy))
    have e : rwSum f (x :: ts) = f x + rwSum f ts := by simp [rwSum]
    have e2 : B * ((x :: ts).length : Int) = B * ts.length + B := by
      simp only [List.length_cons, Int.natCast_add, Int.mul_add]
      omega
    omega
theorem rwSum_app (f : Int → Int) (a b : List Int) : rwSum f (a ++ b) = rwSum f a + rwSum f b := by simp [rwSum]
theorem rwSum_cons (f : Int → Int) (x : Int) (b : List Int) : rwSum f (x :: b) = f x + rwSum f b := by simp [rwSum]
theorem rwSum_drop {f : Int → Int} {ts : List Int} {k : Nat} (h : k < ts.length) : rwSum f (ts.drop k) = f (ts.getD k 0) + rwSum f (ts.drop (k + 1)) := by
  rw [List.drop_eq_getElem_cons h, rwSum_cons]
  simp [h]
theorem rw_mem {ts : List Int} {k : Nat} (h : k < ts.length) : ts.getD k 0 ∈ ts := by
  simp [h]
theorem pget_bd {P : Int → Int} (h : prOk P) (k : Int) : 0 ≤ pget P k ∧ pget P k ≤ 30 := by
  unfold pget
  split
  · rename_i q
    have := h k q.1 q.2
    omega
  · omega
theorem zlog_bd : ∀ (k : Nat) (x : Int), 0 ≤ zlog k x ∧ zlog k x ≤ k
  | 0, x => by simp [zlog]
  | k + 1, x => by
    unfold zlog
    have := zlog_bd k (x / 2)
    split <;> omega
theorem tkPrice_bd {P : Int → Int} (h : prOk P) (x : Int) : 0 ≤ tkPrice P x ∧ tkPrice P x ≤ 90 := by
  unfold tkPrice
  have h1 := pget_bd h x
  have h2 := pget_bd h 17
  have h3 := pget_bd h (10 + tkLen x - 2)
  have h4 := pget_bd h 4
  have h5 := pget_bd h (5 + zlog 7 (tkDist x))
  split
  · omega
  · split <;> omega
theorem lik_bd (t : Int → Int) (e : Int) : ∀ (k : Nat) (p d : Int), 0 ≤ lik t e k p d ∧ lik t e k p d ≤ k ∧ (p ≤ e → p + lik t e k p d ≤ e)
  | 0, p, d => by simp [lik]
  | k + 1, p, d => by
    unfold lik
    have := lik_bd t e k (p + 1) d
    split
    · rename_i q
      refine ⟨by omega, by omega, fun _ => ?_⟩
      have := this.2.2 (by omega)
      omega
    · omega
/-- cells outside S hold what they held -/
def frC (S : Int → Prop) (φ φ' : jPhi) : Prop := ∀ a b, ¬ S a → φ' a b = φ a b
theorem frC.rf {S : Int → Prop} {φ : jPhi} : frC S φ φ := fun _ _ _ => rfl
theorem frC.tr {S : Int → Prop} {φ φ1 φ2 : jPhi} (h : frC S φ φ1) (h2 : frC S φ1 φ2) : frC S φ φ2 := fun a b q => (h2 a b q).trans (h a b q)
theorem frC.wk {S S' : Int → Prop} {φ φ1 : jPhi} (h : frC S φ φ1) (hs : ∀ a, S a → S' a) : frC S' φ φ1 := fun a b q => h a b (fun z => q (hs a z))
theorem frC.put {S : Int → Prop} {φ φ1 : jPhi} {i k v : Int} (h : frC S φ φ1) (hi : S i) : frC S φ (zU φ1 i k v) := fun a b q => by
  have e : ¬ (a = i ∧ b = k) := fun z => q (by rw [z.1]; exact hi)
  rw [zU_ne e]
  exact h a b q
/-- less is known of the locals -/
def jle : List (Option Value) → List (Option Value) → Prop
  | [], _ => True
  | _ :: _, [] => False
  | none :: r, _ :: s => jle r s
  | some v :: r, x :: s => x = some v ∧ jle r s
theorem jle_get : ∀ {a b : List (Option Value)}, jle a b → ∀ {k : Nat} {v : Value}, a[k]? = some (some v) → b[k]? = some (some v)
  | [], _, _, k, v, h => by simp at h
  | _ :: _, [], q, _, _, _ => q.elim
  | none :: r, x :: s, q, k, v, h => by
    cases k with
    | zero => simp at h
    | succ k =>
      rw [List.getElem?_cons_succ] at h ⊢
      exact jle_get (a := r) (b := s) q h
  | some w :: r, x :: s, q, k, v, h => by
    cases k with
    | zero =>
      rw [List.getElem?_cons_zero] at h ⊢
      rw [q.1]
      exact h
    | succ k =>
      rw [List.getElem?_cons_succ] at h ⊢
      exact jle_get (a := r) (b := s) q.2 h
theorem j_weak {X : jX} {G : jG} {B0 : Nat} {κ : Int → Option jKd} {n kc ks : Nat} {Q : State → Prop} {nL : Nat} {φ : jPhi} {pc : Nat} {lv lv' : List (Option Value)} {st : List Value} (h : jle lv' lv) (k : jJ X G B0 κ n kc ks Q nL φ pc lv' st) : jJ X G B0 κ n kc ks Q nL φ pc lv st :=
  fun H locs ls hP hS hl => k H locs ls hP hS ⟨hl.1, hl.2.1, fun q hq => by
    obtain ⟨i, v⟩ := q
    exact hl.get (jle_get h ((jprs_mem lv' 0 i v).mp hq).2)⟩
/-- the first letter of a page that no text has there -/
def tfl (g : Int → Int) (n : Int) : Nat → Int → Int
  | 0, i => i
  | k + 1, i => if i < n ∧ i < 24 ∧ 97 ≤ g i ∧ g i ≤ 100 then tfl g n k (i + 1) else i
theorem rowIs.fr {φ φ' : jPhi} {i j : Int} {ts : List Int} (h : rowIs φ i j ts) (hi : ∀ b, φ' i b = φ i b) (hj : ∀ b, φ' j b = φ j b) : rowIs φ' i j ts :=
  ⟨by rw [hi]; exact h.1, by rw [hi]; exact h.2.1, by rw [hi]; exact h.2.2.1, fun k hk => by rw [hj]; exact h.2.2.2 k hk⟩
theorem rowIs.at {φ : jPhi} {i j : Int} {ts : List Int} (h : rowIs φ i j ts) {x : Int} (h0 : 0 ≤ x) (h1 : x < ts.length) : φ j x = ts.getD x.toNat 0 := by
  have h2 := h.2.2.2 x.toNat (by omega)
  rw [show ((x.toNat : Nat) : Int) = x by omega] at h2
  exact h2
end
section
set_option maxRecDepth 20000 in
theorem c_Tok_again {l : Launch} {G : jG} {B0 : Nat} {φ : jPhi} {x : Int}  : jC l G B0 κF 113 yX5_again cX5_again 1 (some .int) 0 [iv x] φ mkI (fun z φ' => φ = φ' ∧ z = 100 + x) := by
  refine jC_start RX5 [some (iv x)] (by decide) rfl (Nat.le_of_ble_eq_true rfl) rfl (fun X Q F E => ?_)
  refine j_bipush (n' := 2) F dX5_again_0 (by decide) rfl ?_
  refine j_iload_0 (n' := 3) F dX5_again_2 rfl ?_
  refine j_iadd (n' := 4) F dX5_again_3 rfl ?_
  exact j_ireturn F E dX5_again_4 (⟨rfl, by first | rfl | omega | (simp; omega) | (split <;> omega)⟩)
set_option maxRecDepth 20000 in
theorem c_Tok_copy {l : Launch} {G : jG} {B0 : Nat} {φ : jPhi} {x w : Int}  : jC l G B0 κF 113 yX5_copy cX5_copy 2 (some .int) 0 [iv x, iv w] φ mkI (fun z φ' => φ = φ' ∧ z = 1000 + 10 * x + w) := by
  refine jC_start RX5 [some (iv x), some (iv w)] (by decide) rfl (Nat.le_of_ble_eq_true rfl) rfl (fun X Q F E => ?_)
  refine j_sipush (n' := 3) F dX5_copy_0 (by decide) rfl ?_
  refine j_bipush (n' := 5) F dX5_copy_3 (by decide) rfl ?_
  refine j_iload_0 (n' := 6) F dX5_copy_5 rfl ?_
  refine j_imul (n' := 7) F dX5_copy_6 rfl ?_
  refine j_iadd (n' := 8) F dX5_copy_7 rfl ?_
  refine j_iload_1 (n' := 9) F dX5_copy_8 rfl ?_
  refine j_iadd (n' := 10) F dX5_copy_9 rfl ?_
  exact j_ireturn F E dX5_copy_10 (⟨rfl, by first | rfl | omega | (simp; omega) | (split <;> omega)⟩)
set_option maxRecDepth 20000 in
theorem c_Tok_isPlain {l : Launch} {G : jG} {B0 : Nat} {φ : jPhi} {x : Int} (hx : -2147483648 ≤ x ∧ x ≤ 2147483647) : jC l G B0 κF 113 yX5_isPlain cX5_isPlain 1 (some .boolean) 0 [iv x] φ mkI (fun z φ' => φ = φ' ∧ z = (if x < 100 then 1 else 0)) := by
  refine jC_start RX5 [some (iv x)] (by decide) rfl (Nat.le_of_ble_eq_true rfl) rfl (fun X Q F E => ?_)
  refine j_iload_0 (n' := 1) F dX5_isPlain_0 rfl ?_
  refine j_bipush (n' := 3) F dX5_isPlain_1 (by decide) rfl ?_
  refine j_icmp_ge (t := 10) (n' := 6) F (by omega) (by omega) dX5_isPlain_3 (by decide) rfl (fun c3_0 => ?_) (fun c3_0 => ?_)
  · refine j_iconst (n' := 11) F dX5_isPlain_10 rfl ?_
    exact j_zreturn F E (by omega) dX5_isPlain_11 (⟨rfl, by first | rfl | omega | (simp; omega) | (split <;> omega)⟩)
  · refine j_iconst (n' := 7) F dX5_isPlain_6 rfl ?_
    refine j_goto (t := 11) F dX5_isPlain_7 (by decide) ?_
    exact j_zreturn F E (by omega) dX5_isPlain_11 (⟨rfl, by first | rfl | omega | (simp; omega) | (split <;> omega)⟩)
set_option maxRecDepth 20000 in
theorem c_Tok_isCopy {l : Launch} {G : jG} {B0 : Nat} {φ : jPhi} {x : Int} (hx : -2147483648 ≤ x ∧ x ≤ 2147483647) : jC l G B0 κF 113 yX5_isCopy cX5_isCopy 1 (some .boolean) 0 [iv x] φ mkI (fun z φ' => φ = φ' ∧ z = (if 1000 ≤ x then 1 else 0)) := by
  refine jC_start RX5 [some (iv x)] (by decide) rfl (Nat.le_of_ble_eq_true rfl) rfl (fun X Q F E => ?_)
  refine j_iload_0 (n' := 1) F dX5_isCopy_0 rfl ?_
  refine j_sipush (n' := 4) F dX5_isCopy_1 (by decide) rfl ?_
  refine j_icmp_lt (t := 11) (n' := 7) F (by omega) (by omega) dX5_isCopy_4 (by decide) rfl (fun c4_0 => ?_) (fun c4_0 => ?_)
  · refine j_iconst (n' := 12) F dX5_isCopy_11 rfl ?_
    exact j_zreturn F E (by omega) dX5_isCopy_12 (⟨rfl, by first | rfl | omega | (simp; omega) | (split <;> omega)⟩)
  · refine j_iconst (n' := 8) F dX5_isCopy_7 rfl ?_
    refine j_goto (t := 12) F dX5_isCopy_8 (by decide) ?_
    exact j_zreturn F E (by omega) dX5_isCopy_12 (⟨rfl, by first | rfl | omega | (simp; omega) | (split <;> omega)⟩)
set_option maxRecDepth 20000 in
theorem c_Tok_lengthOf {l : Launch} {G : jG} {B0 : Nat} {φ : jPhi} {x : Int} (hx : -2147483648 ≤ x ∧ x ≤ 2147483647) : jC l G B0 κF 113 yX5_lengthOf cX5_lengthOf 1 (some .int) 0 [iv x] φ mkI (fun z φ' => φ = φ' ∧ z = tkLen x) := by
  refine jC_start RX5 [some (iv x)] (by decide) rfl (Nat.le_of_ble_eq_true rfl) rfl (fun X Q F E => ?_)
  refine j_iload_0 (n' := 1) F dX5_lengthOf_0 rfl ?_
  refine j_bipush (n' := 3) F dX5_lengthOf_1 (by decide) rfl ?_
  refine j_icmp_ge (t := 10) (n' := 6) F (by omega) (by omega) dX5_lengthOf_3 (by decide) rfl (fun c3_0 => ?_) (fun c3_0 => ?_)
  · refine j_iload_0 (n' := 11) F dX5_lengthOf_10 rfl ?_
    refine j_bipush (n' := 13) F dX5_lengthOf_11 (by decide) rfl ?_
    refine j_irem (n' := 14) F (by omega) (by omega) dX5_lengthOf_13 rfl ?_
    exact j_ireturn F E dX5_lengthOf_14 (⟨rfl, by unfold tkLen; split <;> omega⟩)
  · refine j_iconst (n' := 7) F dX5_lengthOf_6 rfl ?_
    refine j_goto (t := 14) F dX5_lengthOf_7 (by decide) ?_
    exact j_ireturn F E dX5_lengthOf_14 (⟨rfl, by unfold tkLen; split <;> omega⟩)
set_option maxRecDepth 20000 in
theorem c_Tok_distanceOf {l : Launch} {G : jG} {B0 : Nat} {φ : jPhi} {x : Int} (hx : -2147483648 ≤ x ∧ x ≤ 2147483647) : jC l G B0 κF 113 yX5_distanceOf cX5_distanceOf 1 (some .int) 0 [iv x] φ mkI (fun z φ' => φ = φ' ∧ z = tkDist x) := by
  refine jC_start RX5 [some (iv x)] (by decide) rfl (Nat.le_of_ble_eq_true rfl) rfl (fun X Q F E => ?_)
  refine j_iload_0 (n' := 1) F dX5_distanceOf_0 rfl ?_
  refine j_sipush (n' := 4) F dX5_distanceOf_1 (by decide) rfl ?_
  refine j_icmp_ge (t := 11) (n' := 7) F (by omega) (by omega) dX5_distanceOf_4 (by decide) rfl (fun c4_0 => ?_) (fun c4_0 => ?_)
  · refine j_iload_0 (n' := 12) F dX5_distanceOf_11 rfl ?_
    refine j_sipush (n' := 15) F dX5_distanceOf_12 (by decide) rfl ?_
    refine j_isub (n' := 16) F dX5_distanceOf_15 rfl ?_
    refine j_bipush (n' := 18) F dX5_distanceOf_16 (by decide) rfl ?_
    refine j_idiv (n' := 19) F (by omega) (by omega) dX5_distanceOf_18 rfl ?_
    exact j_ireturn F E dX5_distanceOf_19 (⟨rfl, by unfold tkDist; split <;> omega⟩)
  · refine j_iconst (n' := 8) F dX5_distanceOf_7 rfl ?_
    refine j_goto (t := 19) F dX5_distanceOf_8 (by decide) ?_
    exact j_ireturn F E dX5_distanceOf_19 (⟨rfl, by unfold tkDist; split <;> omega⟩)
set_option maxRecDepth 20000 in
theorem c_Tok_signsOf {l : Launch} {G : jG} {B0 : Nat} {φ : jPhi} {x : Int} (hx : -2147483648 ≤ x ∧ x ≤ 2147483647) : jC l G B0 κF 113 yX5_signsOf cX5_signsOf 1 (some .int) 1 [iv x] φ mkI (fun z φ' => φ = φ' ∧ z = tkSigns x) := by
  refine jC_start RX5 [some (iv x)] (by decide) rfl (Nat.le_of_ble_eq_true rfl) rfl (fun X Q F E => ?_)
  refine j_iload_0 (n' := 1) F dX5_signsOf_0 rfl ?_
  refine j_cS1i (n' := 4) F kl_X5_9 (c_Tok_isPlain hx) (by decide) (Nat.le_of_ble_eq_true rfl) dX5_signsOf_1 rfl (fun z1 φ1 h1 => ?_)
  obtain ⟨rfl, rfl⟩ := h1
  refine j_if_eq (t := 11) (n' := 7) F (by first | omega | (split <;> omega)) dX5_signsOf_4 (by decide) rfl (fun c4_1 => ?_) (fun c4_1 => ?_)
  · refine j_iconst (n' := 12) F dX5_signsOf_11 rfl ?_
    exact j_ireturn F E dX5_signsOf_12 (⟨rfl, by unfold tkSigns; split <;> omega⟩)
  · refine j_iconst (n' := 8) F dX5_signsOf_7 rfl ?_
    refine j_goto (t := 12) F dX5_signsOf_8 (by decide) ?_
    exact j_ireturn F E dX5_signsOf_12 (⟨rfl, by unfold tkSigns; split <;> omega⟩)
set_option maxRecDepth 20000 in
theorem c_Tok_signOf {l : Launch} {G : jG} {B0 : Nat} {φ : jPhi} {x w : Int} (hx : -2147483648 ≤ x ∧ x ≤ 2147483647) (hw : -2147483648 ≤ w ∧ w ≤ 2147483647) : jC l G B0 κF 113 yX5_signOf cX5_signOf 2 (some .int) 1 [iv x, iv w] φ mkI (fun z φ' => φ = φ' ∧ z = tkSign x w) := by
  refine jC_start RX5 [some (iv x), some (iv w)] (by decide) rfl (Nat.le_of_ble_eq_true rfl) rfl (fun X Q F E => ?_)
  refine j_iload_0 (n' := 1) F dX5_signOf_0 rfl ?_
  refine j_cS1i (n' := 4) F kl_X5_9 (c_Tok_isPlain hx) (by decide) (Nat.le_of_ble_eq_true rfl) dX5_signOf_1 rfl (fun z1 φ1 h1 => ?_)
  obtain ⟨rfl, rfl⟩ := h1
  refine j_if_eq (t := 12) (n' := 7) F (by first | omega | (split <;> omega)) dX5_signOf_4 (by decide) rfl (fun c4_1 => ?_) (fun c4_1 => ?_)
  · refine j_iload_1 (n' := 13) F dX5_signOf_12 rfl ?_
    refine j_if_le (t := 24) (n' := 16) F (by first | omega | (split <;> omega)) dX5_signOf_13 (by decide) rfl (fun c13_2 => ?_) (fun c13_2 => ?_)
    · refine j_iload_0 (n' := 25) F dX5_signOf_24 rfl ?_
      refine j_cS1i (n' := 28) F kl_X5_19 (c_Tok_isCopy hx) (by decide) (Nat.le_of_ble_eq_true rfl) dX5_signOf_25 rfl (fun z4 φ4 h4 => ?_)
      obtain ⟨rfl, rfl⟩ := h4
      refine j_if_eq (t := 43) (n' := 31) F (by first | omega | (split <;> omega)) dX5_signOf_28 (by decide) rfl (fun c28_4 => ?_) (fun c28_4 => ?_)
      · refine j_bipush (n' := 45) F dX5_signOf_43 (by decide) rfl ?_
        exact j_ireturn F E dX5_signOf_45 (⟨rfl, by unfold tkSign; repeat (first | omega | split)⟩)
      · refine j_bipush (n' := 33) F dX5_signOf_31 (by decide) rfl ?_
        refine j_iload_0 (n' := 34) F dX5_signOf_33 rfl ?_
        refine j_cS1i (n' := 37) F kl_X5_22 (c_Tok_distanceOf hx) (by decide) (Nat.le_of_ble_eq_true rfl) dX5_signOf_34 rfl (fun z6 φ6 h6 => ?_)
        obtain ⟨rfl, rfl⟩ := h6
        refine j_iadd (n' := 38) F dX5_signOf_37 rfl ?_
        refine j_iconst (n' := 39) F dX5_signOf_38 rfl ?_
        refine j_isub (n' := 40) F dX5_signOf_39 rfl ?_
        refine j_goto (t := 45) F dX5_signOf_40 (by decide) ?_
        exact j_ireturn F E dX5_signOf_45 (⟨rfl, by unfold tkSign; repeat (first | omega | split)⟩)
    · refine j_bipush (n' := 18) F dX5_signOf_16 (by decide) rfl ?_
      refine j_iload_0 (n' := 19) F dX5_signOf_18 rfl ?_
      refine j_cS1i (n' := 22) F kl_X5_15 (c_Tok_lengthOf hx) (by decide) (Nat.le_of_ble_eq_true rfl) dX5_signOf_19 rfl (fun z7 φ7 h7 => ?_)
      obtain ⟨rfl, rfl⟩ := h7
      refine j_iadd (n' := 23) F dX5_signOf_22 rfl ?_
      exact j_ireturn F E dX5_signOf_23 (⟨rfl, by unfold tkSign; repeat (first | omega | split)⟩)
  · refine j_bipush (n' := 9) F dX5_signOf_7 (by decide) rfl ?_
    refine j_iload_0 (n' := 10) F dX5_signOf_9 rfl ?_
    refine j_iadd (n' := 11) F dX5_signOf_10 rfl ?_
    exact j_ireturn F E dX5_signOf_11 (⟨rfl, by unfold tkSign; repeat (first | omega | split)⟩)
set_option maxRecDepth 20000 in
theorem c_Cla_log {l : Launch} {G : jG} {B0 : Nat} {φ : jPhi} {x : Int} (hx : -2147483648 ≤ x ∧ x ≤ 127) : jC l G B0 κF 113 yX7_log cX7_log 3 (some .int) 0 [iv x] φ mkI (fun z φ' => φ = φ' ∧ z = zlog 7 x) := by
  refine jC_start RX7 [some (iv x), none, none] (by decide) rfl (Nat.le_of_ble_eq_true rfl) rfl (fun X Q F E => ?_)
  have loop : ∀ (k : Nat) (y t : Int), y < 2 ^ k → -2147483648 ≤ y ∧ y ≤ 127 → 0 ≤ t → t + k = 7 → t + zlog k y = zlog 7 x → jJ X G B0 κF 113 0 0 Q 3 φ 4 [some (iv x), some (iv t), some (iv y)] [] := by
    intro k
    induction k with
    | zero =>
      intro y t h1 h2 h3 h4 h5
      have h1 : y < 1 := h1
      refine j_iload_2 (n' := 5) F dX7_log_4 rfl ?_
      refine j_iconst (n' := 6) F dX7_log_5 rfl ?_
      refine j_icmp_le (t := 19) (n' := 9) F (by omega) (by omega) dX7_log_6 (by decide) rfl (fun c6_0 => ?_) (fun c6_0 => ?_)
      · refine j_iload_1 (n' := 20) F dX7_log_19 rfl ?_
        exact j_ireturn F E dX7_log_20 (⟨rfl, by rw [zlog] at h5; omega⟩)
      · omega
    | succ k ih =>
      intro y t h1 h2 h3 h4 h5
      rw [Int.pow_succ] at h1
      refine j_iload_2 (n' := 5) F dX7_log_4 rfl ?_
      refine j_iconst (n' := 6) F dX7_log_5 rfl ?_
      refine j_icmp_le (t := 19) (n' := 9) F (by omega) (by omega) dX7_log_6 (by decide) rfl (fun c6_0 => ?_) (fun c6_0 => ?_)
      · refine j_iload_1 (n' := 20) F dX7_log_19 rfl ?_
        exact j_ireturn F E dX7_log_20 (⟨rfl, by rw [zlog, if_neg (by omega)] at h5; omega⟩)
      · refine j_iinc_1 (n' := 12) F (by decide) jc_i dX7_log_9 rfl ?_
        refine j_iload_2 (n' := 13) F dX7_log_12 rfl ?_
        refine j_iconst (n' := 14) F dX7_log_13 rfl ?_
        refine j_idiv (n' := 15) F (by omega) (by omega) dX7_log_14 rfl ?_
        refine j_istore_2 (n' := 16) F (by decide) jc_i dX7_log_15 rfl ?_
        refine j_goto (t := 4) F dX7_log_16 (by decide) ?_
        exact ih (y / 2) (t + 1) (by omega) (by omega) (by omega) (by omega) (by rw [zlog, if_pos (by omega)] at h5; omega)
  refine j_iconst (n' := 1) F dX7_log_0 rfl ?_
  refine j_istore_1 (n' := 2) F (by decide) jc_i dX7_log_1 rfl ?_
  refine j_iload_0 (n' := 3) F dX7_log_2 rfl ?_
  refine j_istore_2 (n' := 4) F (by decide) jc_i dX7_log_3 rfl ?_
  exact loop 7 x 0 (by omega) (by omega) (by omega) (by omega) (by omega)
set_option maxRecDepth 20000 in
theorem c_Mod_log {l : Launch} {G : jG} {B0 : Nat} {φ : jPhi} {x : Int} (hx : -2147483648 ≤ x ∧ x ≤ 127) : jC l G B0 κF 113 yX8_log cX8_log 3 (some .int) 0 [iv x] φ mkI (fun z φ' => φ = φ' ∧ z = zlog 7 x) := by
  refine jC_start RX8 [some (iv x), none, none] (by decide) rfl (Nat.le_of_ble_eq_true rfl) rfl (fun X Q F E => ?_)
  have loop : ∀ (k : Nat) (y t : Int), y < 2 ^ k → -2147483648 ≤ y ∧ y ≤ 127 → 0 ≤ t → t + k = 7 → t + zlog k y = zlog 7 x → jJ X G B0 κF 113 0 0 Q 3 φ 4 [some (iv x), some (iv t), some (iv y)] [] := by
    intro k
    induction k with
    | zero =>
      intro y t h1 h2 h3 h4 h5
      have h1 : y < 1 := h1
      refine j_iload_2 (n' := 5) F dX8_log_4 rfl ?_
      refine j_iconst (n' := 6) F dX8_log_5 rfl ?_
      refine j_icmp_le (t := 19) (n' := 9) F (by omega) (by omega) dX8_log_6 (by decide) rfl (fun c6_0 => ?_) (fun c6_0 => ?_)
      · refine j_iload_1 (n' := 20) F dX8_log_19 rfl ?_
        exact j_ireturn F E dX8_log_20 (⟨rfl, by rw [zlog] at h5; omega⟩)
      · omega
    | succ k ih =>
      intro y t h1 h2 h3 h4 h5
      rw [Int.pow_succ] at h1
      refine j_iload_2 (n' := 5) F dX8_log_4 rfl ?_
      refine j_iconst (n' := 6) F dX8_log_5 rfl ?_
      refine j_icmp_le (t := 19) (n' := 9) F (by omega) (by omega) dX8_log_6 (by decide) rfl (fun c6_0 => ?_) (fun c6_0 => ?_)
      · refine j_iload_1 (n' := 20) F dX8_log_19 rfl ?_
        exact j_ireturn F E dX8_log_20 (⟨rfl, by rw [zlog, if_neg (by omega)] at h5; omega⟩)
      · refine j_iinc_1 (n' := 12) F (by decide) jc_i dX8_log_9 rfl ?_
        refine j_iload_2 (n' := 13) F dX8_log_12 rfl ?_
        refine j_iconst (n' := 14) F dX8_log_13 rfl ?_
        refine j_idiv (n' := 15) F (by omega) (by omega) dX8_log_14 rfl ?_
        refine j_istore_2 (n' := 16) F (by decide) jc_i dX8_log_15 rfl ?_
        refine j_goto (t := 4) F dX8_log_16 (by decide) ?_
        exact ih (y / 2) (t + 1) (by omega) (by omega) (by omega) (by omega) (by rw [zlog, if_pos (by omega)] at h5; omega)
  refine j_iconst (n' := 1) F dX8_log_0 rfl ?_
  refine j_istore_1 (n' := 2) F (by decide) jc_i dX8_log_1 rfl ?_
  refine j_iload_0 (n' := 3) F dX8_log_2 rfl ?_
  refine j_istore_2 (n' := 4) F (by decide) jc_i dX8_log_3 rfl ?_
  exact loop 7 x 0 (by omega) (by omega) (by omega) (by omega) (by omega)
set_option maxRecDepth 20000 in
theorem c_Pag_size {l : Launch} {G : jG} {B0 : Nat} {φ : jPhi}   : jC l G B0 κF 113 yX2_size cX2_size 1 (some .int) 0 [rf B0 1] φ mkI (fun z φ' => φ = φ' ∧ z = φ 1 1) := by
  refine jC_start RX2 [some (rf B0 1)] (by decide) rfl (Nat.le_of_ble_eq_true rfl) rfl (fun X Q F E => ?_)
  refine j_aload_0 (n' := 1) F dX2_size_0 rfl ?_
  refine j_getI (n' := 4) F 1 rfl fl_X2_15 kap_1 rfl dX2_size_1 rfl ?_
  exact j_ireturn F E dX2_size_4 (⟨rfl, by first | rfl | omega | (simp; omega) | (split <;> omega)⟩)
set_option maxRecDepth 20000 in
theorem c_Pag_isFull {l : Launch} {G : jG} {B0 : Nat} {φ : jPhi}  (hs : 0 ≤ φ 1 1 ∧ φ 1 1 ≤ 30) : jC l G B0 κF 113 yX2_isFull cX2_isFull 1 (some .boolean) 0 [rf B0 1] φ mkI (fun z φ' => φ = φ' ∧ z = (if 30 ≤ φ 1 1 then 1 else 0)) := by
  refine jC_start RX2 [some (rf B0 1)] (by decide) rfl (Nat.le_of_ble_eq_true rfl) rfl (fun X Q F E => ?_)
  refine j_aload_0 (n' := 1) F dX2_isFull_0 rfl ?_
  refine j_getI (n' := 4) F 1 rfl fl_X2_15 kap_1 rfl dX2_isFull_1 rfl ?_
  refine j_bipush (n' := 6) F dX2_isFull_4 (by decide) rfl ?_
  refine j_icmp_lt (t := 13) (n' := 9) F (by omega) (by omega) dX2_isFull_6 (by decide) rfl (fun c6_0 => ?_) (fun c6_0 => ?_)
  · refine j_iconst (n' := 14) F dX2_isFull_13 rfl ?_
    exact j_zreturn F E (by omega) dX2_isFull_14 (⟨rfl, by first | rfl | omega | (simp; omega) | (split <;> omega)⟩)
  · refine j_iconst (n' := 10) F dX2_isFull_9 rfl ?_
    refine j_goto (t := 14) F dX2_isFull_10 (by decide) ?_
    exact j_zreturn F E (by omega) dX2_isFull_14 (⟨rfl, by first | rfl | omega | (simp; omega) | (split <;> omega)⟩)
set_option maxRecDepth 20000 in
theorem c_Pag_clear {l : Launch} {G : jG} {B0 : Nat} {φ : jPhi}   : jC l G B0 κF 113 yX2_clear cX2_clear 1 none 0 [rf B0 1] φ mkV (fun z φ' => φ' = zU φ 1 1 0) := by
  refine jC_start RX2 [some (rf B0 1)] (by decide) rfl (Nat.le_of_ble_eq_true rfl) rfl (fun X Q F E => ?_)
  refine j_aload_0 (n' := 1) F dX2_clear_0 rfl ?_
  refine j_iconst (n' := 2) F dX2_clear_1 rfl ?_
  refine j_putI (n' := 5) F 1 rfl fp_X2_15 kap_1 rfl rfl dX2_clear_2 rfl (fun φ1 e1 => ?_)
  exact j_return F E dX2_clear_5 (e1)
set_option maxRecDepth 20000 in
theorem c_Pag_add {l : Launch} {G : jG} {B0 : Nat} {φ : jPhi} {x : Int} (hs : 0 ≤ φ 1 1 ∧ φ 1 1 ≤ 30) (hn : φ 1 1 < 30) : jC l G B0 κF 113 yX2_add cX2_add 2 none 1 [rf B0 1, iv x] φ mkV (fun z φ' => φ' = zU (zU φ 2 (φ 1 1) x) 1 1 (φ 1 1 + 1)) := by
  refine jC_start RX2 [some (rf B0 1), some (iv x)] (by decide) rfl (Nat.le_of_ble_eq_true rfl) rfl (fun X Q F E => ?_)
  refine j_aload_0 (n' := 1) F dX2_add_0 rfl ?_
  refine j_cV0i (n' := 4) F kl_X2_19 (c_Pag_isFull hs) kap_1 rfl (by decide) (Nat.le_of_ble_eq_true rfl) dX2_add_1 rfl (fun z1 φ1 h1 => ?_)
  obtain ⟨rfl, rfl⟩ := h1
  refine j_if_eq (t := 8) (n' := 7) F (by first | omega | (split <;> omega)) dX2_add_4 (by decide) rfl (fun c4_1 => ?_) (fun c4_1 => ?_)
  · refine j_aload_0 (n' := 9) F dX2_add_8 rfl ?_
    refine j_getR (n' := 12) F fl_X2_9 kap_1 rfl dX2_add_9 rfl ?_
    refine j_aload_0 (n' := 13) F dX2_add_12 rfl ?_
    refine j_getI (n' := 16) F 1 rfl fl_X2_15 kap_1 rfl dX2_add_13 rfl ?_
    refine j_iload_1 (n' := 17) F dX2_add_16 rfl ?_
    refine j_iast (n' := 18) F kap_2 (by decide) (by first | omega | (split <;> omega)) dX2_add_17 rfl (fun φ3 e3 => ?_)
    refine j_aload_0 (n' := 19) F dX2_add_18 rfl ?_
    refine j_dup (n' := 20) F rfl dX2_add_19 rfl ?_
    refine j_getI (n' := 23) F 1 rfl fl_X2_15 kap_1 rfl dX2_add_20 rfl ?_
    refine j_iconst (n' := 24) F dX2_add_23 rfl ?_
    refine j_iadd (n' := 25) F dX2_add_24 rfl ?_
    refine j_putI (n' := 28) F 1 rfl fp_X2_15 kap_1 rfl rfl dX2_add_25 rfl (fun φ4 e4 => ?_)
    exact j_return F E dX2_add_28 (by rw [e4, e3, zU_ne (a := 1) (b := 1) (by omega)])
  · exact j_return F E dX2_add_7 (by omega)
set_option maxRecDepth 20000 in
theorem c_Pag_signAt {l : Launch} {G : jG} {B0 : Nat} {φ : jPhi} {x : Int} (hs : 0 ≤ φ 1 1 ∧ φ 1 1 ≤ 30) (hx : -2147483648 ≤ x ∧ x ≤ 2147483647) : jC l G B0 κF 113 yX2_signAt cX2_signAt 2 (some .int) 0 [rf B0 1, iv x] φ mkI (fun z φ' => φ = φ' ∧ z = (if 0 ≤ x ∧ x < φ 1 1 then φ 2 x else -1)) := by
  refine jC_start RX2 [some (rf B0 1), some (iv x)] (by decide) rfl (Nat.le_of_ble_eq_true rfl) rfl (fun X Q F E => ?_)
  refine j_iload_1 (n' := 1) F dX2_signAt_0 rfl ?_
  refine j_if_lt (t := 21) (n' := 4) F (by omega) dX2_signAt_1 (by decide) rfl (fun c1_0 => ?_) (fun c1_0 => ?_)
  · refine j_iconst (n' := 22) F dX2_signAt_21 rfl ?_
    exact j_ireturn F E dX2_signAt_22 (⟨rfl, by first | rfl | omega | (simp; omega) | (split <;> omega)⟩)
  · refine j_iload_1 (n' := 5) F dX2_signAt_4 rfl ?_
    refine j_aload_0 (n' := 6) F dX2_signAt_5 rfl ?_
    refine j_getI (n' := 9) F 1 rfl fl_X2_15 kap_1 rfl dX2_signAt_6 rfl ?_
    refine j_icmp_ge (t := 21) (n' := 12) F (by omega) (by omega) dX2_signAt_9 (by decide) rfl (fun c9_1 => ?_) (fun c9_1 => ?_)
    · refine j_iconst (n' := 22) F dX2_signAt_21 rfl ?_
      exact j_ireturn F E dX2_signAt_22 (⟨rfl, by first | rfl | omega | (simp; omega) | (split <;> omega)⟩)
    · refine j_aload_0 (n' := 13) F dX2_signAt_12 rfl ?_
      refine j_getR (n' := 16) F fl_X2_9 kap_1 rfl dX2_signAt_13 rfl ?_
      refine j_iload_1 (n' := 17) F dX2_signAt_16 rfl ?_
      refine j_iald (n' := 18) F kap_2 (by decide) (by omega) dX2_signAt_17 rfl ?_
      refine j_goto (t := 22) F dX2_signAt_18 (by decide) ?_
      exact j_ireturn F E dX2_signAt_22 (⟨rfl, by first | rfl | omega | (simp; omega) | (split <;> omega)⟩)
set_option maxRecDepth 20000 in
theorem c_Pag_textFault {l : Launch} {G : jG} {B0 : Nat} {φ : jPhi}  (hs : 0 ≤ φ 1 1 ∧ φ 1 1 ≤ 30) (hp : ∀ k, 0 ≤ k → k < φ 1 1 → 32 ≤ φ 2 k ∧ φ 2 k ≤ 126) : jC l G B0 κF 113 yX2_textFault cX2_textFault 3 (some .int) 1 [rf B0 1] φ mkI (fun z φ' => φ = φ' ∧ z = tfl (φ 2) (φ 1 1) 25 0) := by
  refine jC_start RX2 [some (rf B0 1), none, none] (by decide) rfl (Nat.le_of_ble_eq_true rfl) rfl (fun X Q F E => ?_)
  have loop : ∀ (k : Nat) (i : Int), i + k = 25 → 0 ≤ i → i ≤ 24 → i ≤ φ 1 1 → tfl (φ 2) (φ 1 1) k i = tfl (φ 2) (φ 1 1) 25 0 → jJ X G B0 κF 113 0 0 Q 3 φ 2 [some (rf B0 1), some (iv i), none] [] := by
    intro k
    induction k with
    | zero => intro i h1 h2 h3; omega
    | succ k ih =>
      intro i h1 h2 h3 h4 h5
      rw [tfl] at h5
      refine j_iload_1 (n' := 3) F dX2_textFault_2 rfl ?_
      refine j_aload_0 (n' := 4) F dX2_textFault_3 rfl ?_
      refine j_getI (n' := 7) F 1 rfl fl_X2_15 kap_1 rfl dX2_textFault_4 rfl ?_
      refine j_icmp_ge (t := 42) (n' := 10) F (by first | omega | (split <;> omega)) (by first | omega | (split <;> omega)) dX2_textFault_7 (by decide) rfl (fun c7_0 => ?_) (fun c7_0 => ?_)
      · refine j_aload_0 (n' := 43) F dX2_textFault_42 rfl ?_
        refine j_getI (n' := 46) F 1 rfl fl_X2_15 kap_1 rfl dX2_textFault_43 rfl ?_
        exact j_ireturn F E dX2_textFault_46 (⟨rfl, by rw [if_neg (by omega)] at h5; omega⟩)
      · refine j_aload_0 (n' := 11) F dX2_textFault_10 rfl ?_
        refine j_iload_1 (n' := 12) F dX2_textFault_11 rfl ?_
        refine j_cV1i (n' := 15) F kl_X2_23 (c_Pag_signAt hs (by omega)) kap_1 rfl (by decide) (Nat.le_of_ble_eq_true rfl) dX2_textFault_12 rfl (fun z2 φ2 h2 => ?_)
        obtain ⟨rfl, rfl⟩ := h2
        have hq := hp i (by omega) (by omega)
        rw [if_pos (by omega)]
        refine j_bipush (n' := 17) F dX2_textFault_15 (by decide) rfl ?_
        refine j_isub (n' := 18) F dX2_textFault_17 rfl ?_
        refine j_istore_2 (n' := 19) F (by decide) jc_i dX2_textFault_18 rfl ?_
        refine j_iload_1 (n' := 20) F dX2_textFault_19 rfl ?_
        refine j_bipush (n' := 22) F dX2_textFault_20 (by decide) rfl ?_
        refine j_icmp_ge (t := 34) (n' := 25) F (by first | omega | (split <;> omega)) (by first | omega | (split <;> omega)) dX2_textFault_22 (by decide) rfl (fun c22_2 => ?_) (fun c22_2 => ?_)
        · refine j_iload_1 (n' := 35) F dX2_textFault_34 rfl ?_
          exact j_ireturn F E dX2_textFault_35 (⟨rfl, by rw [if_neg (by omega)] at h5; exact h5⟩)
        · refine j_iload_2 (n' := 26) F dX2_textFault_25 rfl ?_
          refine j_if_lt (t := 34) (n' := 29) F (by first | omega | (split <;> omega)) dX2_textFault_26 (by decide) rfl (fun c26_3 => ?_) (fun c26_3 => ?_)
          · refine j_iload_1 (n' := 35) F dX2_textFault_34 rfl ?_
            exact j_ireturn F E dX2_textFault_35 (⟨rfl, by rw [if_neg (by omega)] at h5; exact h5⟩)
          · refine j_iload_2 (n' := 30) F dX2_textFault_29 rfl ?_
            refine j_iconst (n' := 31) F dX2_textFault_30 rfl ?_
            refine j_icmp_lt (t := 36) (n' := 34) F (by first | omega | (split <;> omega)) (by first | omega | (split <;> omega)) dX2_textFault_31 (by decide) rfl (fun c31_4 => ?_) (fun c31_4 => ?_)
            · refine j_iinc_1 (n' := 39) F (by decide) jc_r dX2_textFault_36 rfl ?_
              refine j_goto (t := 2) F dX2_textFault_39 (by decide) ?_
              exact j_weak (by exact ⟨rfl, rfl, trivial⟩) (ih (i + 1) (by omega) (by omega) (by omega) (by omega) (by rw [if_pos (by omega)] at h5; exact h5))
            · refine j_iload_1 (n' := 35) F dX2_textFault_34 rfl ?_
              exact j_ireturn F E dX2_textFault_35 (⟨rfl, by rw [if_neg (by omega)] at h5; exact h5⟩)
  refine j_iconst (n' := 1) F dX2_textFault_0 rfl ?_
  refine j_istore_1 (n' := 2) F (by decide) jc_r dX2_textFault_1 rfl ?_
  exact loop 25 0 (by omega) (by omega) (by omega) (by omega) rfl
end
section
theorem tfl_bd {g : Int → Int} {n : Int} : ∀ (k : Nat) (i : Int), 0 ≤ i → i ≤ n → i ≤ tfl g n k i ∧ tfl g n k i ≤ n
  | 0, i, _, h2 => ⟨by simp [tfl], by simpa [tfl] using h2⟩
  | k + 1, i, h1, h2 => by
    unfold tfl
    split
    · rename_i q
      have := tfl_bd (g := g) (n := n) k (i + 1) (by omega) (by omega)
      omega
    · omega
set_option maxRecDepth 20000 in
theorem c_Pag_isText {l : Launch} {G : jG} {B0 : Nat} {φ : jPhi}  (hs : 0 ≤ φ 1 1 ∧ φ 1 1 ≤ 30) (hp : ∀ k, 0 ≤ k → k < φ 1 1 → 32 ≤ φ 2 k ∧ φ 2 k ≤ 126) : jC l G B0 κF 113 yX2_isText cX2_isText 1 (some .boolean) 2 [rf B0 1] φ mkI (fun z φ' => φ = φ' ∧ z = (if 0 < φ 1 1 ∧ tfl (φ 2) (φ 1 1) 25 0 = φ 1 1 then 1 else 0)) := by
  refine jC_start RX2 [some (rf B0 1)] (by decide) rfl (Nat.le_of_ble_eq_true rfl) rfl (fun X Q F E => ?_)
  refine j_aload_0 (n' := 1) F dX2_isText_0 rfl ?_
  refine j_getI (n' := 4) F 1 rfl fl_X2_15 kap_1 rfl dX2_isText_1 rfl ?_
  refine j_if_le (t := 22) (n' := 7) F (by omega) dX2_isText_4 (by decide) rfl (fun c4_0 => ?_) (fun c4_0 => ?_)
  · refine j_iconst (n' := 23) F dX2_isText_22 rfl ?_
    exact j_zreturn F E (by omega) dX2_isText_23 (⟨rfl, by first | rfl | omega | (simp; omega) | (split <;> omega)⟩)
  · refine j_aload_0 (n' := 8) F dX2_isText_7 rfl ?_
    refine j_cV0i (n' := 11) F kl_X2_27 (c_Pag_textFault hs hp) kap_1 rfl (by decide) (Nat.le_of_ble_eq_true rfl) dX2_isText_8 rfl (fun z2 φ2 h2 => ?_)
    obtain ⟨rfl, rfl⟩ := h2
    have hb := tfl_bd (g := φ 2) (n := φ 1 1) 25 0 (by omega) (by omega)
    refine j_aload_0 (n' := 12) F dX2_isText_11 rfl ?_
    refine j_getI (n' := 15) F 1 rfl fl_X2_15 kap_1 rfl dX2_isText_12 rfl ?_
    refine j_icmp_ne (t := 22) (n' := 18) F (by omega) (by omega) dX2_isText_15 (by decide) rfl (fun c15_2 => ?_) (fun c15_2 => ?_)
    · refine j_iconst (n' := 23) F dX2_isText_22 rfl ?_
      exact j_zreturn F E (by omega) dX2_isText_23 (⟨rfl, by first | rfl | omega | (simp; omega) | (split <;> omega)⟩)
    · refine j_iconst (n' := 19) F dX2_isText_18 rfl ?_
      refine j_goto (t := 23) F dX2_isText_19 (by decide) ?_
      exact j_zreturn F E (by omega) dX2_isText_23 (⟨rfl, by first | rfl | omega | (simp; omega) | (split <;> omega)⟩)
set_option maxRecDepth 20000 in
theorem c_Txt_size {l : Launch} {G : jG} {B0 : Nat} {φ : jPhi}   : jC l G B0 κF 113 yX4_size cX4_size 1 (some .int) 0 [rf B0 7] φ mkI (fun z φ' => φ = φ' ∧ z = φ 7 2) := by
  refine jC_start RX4 [some (rf B0 7)] (by decide) rfl (Nat.le_of_ble_eq_true rfl) rfl (fun X Q F E => ?_)
  refine j_aload_0 (n' := 1) F dX4_size_0 rfl ?_
  refine j_getI (n' := 4) F 2 rfl fl_X4_20 kap_7 rfl dX4_size_1 rfl ?_
  exact j_ireturn F E dX4_size_4 (⟨rfl, by first | rfl | omega | (simp; omega) | (split <;> omega)⟩)
set_option maxRecDepth 20000 in
theorem c_Txt_clear {l : Launch} {G : jG} {B0 : Nat} {φ : jPhi}   : jC l G B0 κF 113 yX4_clear cX4_clear 1 none 0 [rf B0 7] φ mkV (fun z φ' => φ' = zU φ 7 2 0) := by
  refine jC_start RX4 [some (rf B0 7)] (by decide) rfl (Nat.le_of_ble_eq_true rfl) rfl (fun X Q F E => ?_)
  refine j_aload_0 (n' := 1) F dX4_clear_0 rfl ?_
  refine j_iconst (n' := 2) F dX4_clear_1 rfl ?_
  refine j_putI (n' := 5) F 2 rfl fp_X4_20 kap_7 rfl rfl dX4_clear_2 rfl (fun φ1 e1 => ?_)
  exact j_return F E dX4_clear_5 (e1)
set_option maxRecDepth 20000 in
theorem c_Txt_add {l : Launch} {G : jG} {B0 : Nat} {φ : jPhi} {x : Int} (hs : 0 ≤ φ 7 2 ∧ φ 7 2 ≤ 24) (hn : φ 7 2 < 24) : jC l G B0 κF 113 yX4_add cX4_add 2 none 0 [rf B0 7, iv x] φ mkV (fun z φ' => φ' = zU (zU φ 8 (φ 7 2) x) 7 2 (φ 7 2 + 1)) := by
  refine jC_start RX4 [some (rf B0 7), some (iv x)] (by decide) rfl (Nat.le_of_ble_eq_true rfl) rfl (fun X Q F E => ?_)
  refine j_aload_0 (n' := 1) F dX4_add_0 rfl ?_
  refine j_getI (n' := 4) F 2 rfl fl_X4_20 kap_7 rfl dX4_add_1 rfl ?_
  refine j_bipush (n' := 6) F dX4_add_4 (by decide) rfl ?_
  refine j_icmp_lt (t := 10) (n' := 9) F (by omega) (by omega) dX4_add_6 (by decide) rfl (fun c6_0 => ?_) (fun c6_0 => ?_)
  · refine j_aload_0 (n' := 11) F dX4_add_10 rfl ?_
    refine j_getR (n' := 14) F fl_X4_9 kap_7 rfl dX4_add_11 rfl ?_
    refine j_aload_0 (n' := 15) F dX4_add_14 rfl ?_
    refine j_getI (n' := 18) F 2 rfl fl_X4_20 kap_7 rfl dX4_add_15 rfl ?_
    refine j_iload_1 (n' := 19) F dX4_add_18 rfl ?_
    refine j_iast (n' := 20) F kap_8 (by decide) (by omega) dX4_add_19 rfl (fun φ2 e2 => ?_)
    refine j_aload_0 (n' := 21) F dX4_add_20 rfl ?_
    refine j_dup (n' := 22) F rfl dX4_add_21 rfl ?_
    refine j_getI (n' := 25) F 2 rfl fl_X4_20 kap_7 rfl dX4_add_22 rfl ?_
    refine j_iconst (n' := 26) F dX4_add_25 rfl ?_
    refine j_iadd (n' := 27) F dX4_add_26 rfl ?_
    refine j_putI (n' := 30) F 2 rfl fp_X4_20 kap_7 rfl rfl dX4_add_27 rfl (fun φ3 e3 => ?_)
    exact j_return F E dX4_add_30 (by rw [e3, e2, zU_ne (a := 7) (b := 2) (by omega)])
  · exact j_return F E dX4_add_9 (by omega)
set_option maxRecDepth 20000 in
theorem c_Txt_has {l : Launch} {G : jG} {B0 : Nat} {φ : jPhi} {x : Int} (hs : 0 ≤ φ 7 2 ∧ φ 7 2 ≤ 24) (hx : -2147483648 ≤ x ∧ x ≤ 2147483647) : jC l G B0 κF 113 yX4_has cX4_has 2 (some .boolean) 0 [rf B0 7, iv x] φ mkI (fun z φ' => φ = φ' ∧ z = (if 0 ≤ x ∧ x < φ 7 2 then 1 else 0)) := by
  refine jC_start RX4 [some (rf B0 7), some (iv x)] (by decide) rfl (Nat.le_of_ble_eq_true rfl) rfl (fun X Q F E => ?_)
  refine j_iload_1 (n' := 1) F dX4_has_0 rfl ?_
  refine j_if_lt (t := 16) (n' := 4) F (by omega) dX4_has_1 (by decide) rfl (fun c1_0 => ?_) (fun c1_0 => ?_)
  · refine j_iconst (n' := 17) F dX4_has_16 rfl ?_
    exact j_zreturn F E (by omega) dX4_has_17 (⟨rfl, by first | rfl | omega | (simp; omega) | (split <;> omega)⟩)
  · refine j_iload_1 (n' := 5) F dX4_has_4 rfl ?_
    refine j_aload_0 (n' := 6) F dX4_has_5 rfl ?_
    refine j_getI (n' := 9) F 2 rfl fl_X4_20 kap_7 rfl dX4_has_6 rfl ?_
    refine j_icmp_ge (t := 16) (n' := 12) F (by omega) (by omega) dX4_has_9 (by decide) rfl (fun c9_1 => ?_) (fun c9_1 => ?_)
    · refine j_iconst (n' := 17) F dX4_has_16 rfl ?_
      exact j_zreturn F E (by omega) dX4_has_17 (⟨rfl, by first | rfl | omega | (simp; omega) | (split <;> omega)⟩)
    · refine j_iconst (n' := 13) F dX4_has_12 rfl ?_
      refine j_goto (t := 17) F dX4_has_13 (by decide) ?_
      exact j_zreturn F E (by omega) dX4_has_17 (⟨rfl, by first | rfl | omega | (simp; omega) | (split <;> omega)⟩)
set_option maxRecDepth 20000 in
theorem c_Txt_letterAt {l : Launch} {G : jG} {B0 : Nat} {φ : jPhi} {x : Int} (hs : 0 ≤ φ 7 2 ∧ φ 7 2 ≤ 24) (hx : -2147483648 ≤ x ∧ x ≤ 2147483647) : jC l G B0 κF 113 yX4_letterAt cX4_letterAt 2 (some .int) 1 [rf B0 7, iv x] φ mkI (fun z φ' => φ = φ' ∧ z = (if 0 ≤ x ∧ x < φ 7 2 then φ 8 x else 0)) := by
  refine jC_start RX4 [some (rf B0 7), some (iv x)] (by decide) rfl (Nat.le_of_ble_eq_true rfl) rfl (fun X Q F E => ?_)
  refine j_aload_0 (n' := 1) F dX4_letterAt_0 rfl ?_
  refine j_iload_1 (n' := 2) F dX4_letterAt_1 rfl ?_
  refine j_cV1i (n' := 5) F kl_X4_24 (c_Txt_has hs hx) kap_7 rfl (by decide) (Nat.le_of_ble_eq_true rfl) dX4_letterAt_2 rfl (fun z1 φ1 h1 => ?_)
  obtain ⟨rfl, rfl⟩ := h1
  refine j_if_eq (t := 17) (n' := 8) F (by first | omega | (split <;> omega)) dX4_letterAt_5 (by decide) rfl (fun c5_1 => ?_) (fun c5_1 => ?_)
  · refine j_iconst (n' := 18) F dX4_letterAt_17 rfl ?_
    exact j_ireturn F E dX4_letterAt_18 (⟨rfl, by first | rfl | omega | (simp; omega) | (split <;> omega)⟩)
  · refine j_aload_0 (n' := 9) F dX4_letterAt_8 rfl ?_
    refine j_getR (n' := 12) F fl_X4_9 kap_7 rfl dX4_letterAt_9 rfl ?_
    refine j_iload_1 (n' := 13) F dX4_letterAt_12 rfl ?_
    refine j_iald (n' := 14) F kap_8 (by decide) (by first | omega | (split <;> omega)) dX4_letterAt_13 rfl ?_
    refine j_goto (t := 18) F dX4_letterAt_14 (by decide) ?_
    exact j_ireturn F E dX4_letterAt_18 (⟨rfl, by first | rfl | omega | (simp; omega) | (split <;> omega)⟩)
set_option maxRecDepth 20000 in
theorem c_Txt_likeness {l : Launch} {G : jG} {B0 : Nat} {φ : jPhi} {x y : Int} (hs : 0 ≤ φ 7 2 ∧ φ 7 2 ≤ 24) (hx : -2147483648 ≤ x ∧ x ≤ 2147483647) (hy : -2147483648 ≤ y ∧ y ≤ 2147483647) : jC l G B0 κF 113 yX4_likeness cX4_likeness 3 (some .int) 0 [rf B0 7, iv x, iv y] φ mkI (fun z φ' => φ = φ' ∧ z = (if x < φ 7 2 ∧ 1 ≤ y ∧ y ≤ x then φ (10 + x) y else 0)) := by
  refine jC_start RX4 [some (rf B0 7), some (iv x), some (iv y)] (by decide) rfl (Nat.le_of_ble_eq_true rfl) rfl (fun X Q F E => ?_)
  refine j_iload_1 (n' := 1) F dX4_likeness_0 rfl ?_
  refine j_aload_0 (n' := 2) F dX4_likeness_1 rfl ?_
  refine j_getI (n' := 5) F 2 rfl fl_X4_20 kap_7 rfl dX4_likeness_2 rfl ?_
  refine j_icmp_ge (t := 29) (n' := 8) F (by omega) (by omega) dX4_likeness_5 (by decide) rfl (fun c5_0 => ?_) (fun c5_0 => ?_)
  · refine j_iconst (n' := 30) F dX4_likeness_29 rfl ?_
    exact j_ireturn F E dX4_likeness_30 (⟨rfl, by first | rfl | omega | (simp; omega) | (split <;> omega)⟩)
  · refine j_iload_2 (n' := 9) F dX4_likeness_8 rfl ?_
    refine j_iconst (n' := 10) F dX4_likeness_9 rfl ?_
    refine j_icmp_lt (t := 29) (n' := 13) F (by omega) (by omega) dX4_likeness_10 (by decide) rfl (fun c10_1 => ?_) (fun c10_1 => ?_)
    · refine j_iconst (n' := 30) F dX4_likeness_29 rfl ?_
      exact j_ireturn F E dX4_likeness_30 (⟨rfl, by first | rfl | omega | (simp; omega) | (split <;> omega)⟩)
    · refine j_iload_2 (n' := 14) F dX4_likeness_13 rfl ?_
      refine j_iload_1 (n' := 15) F dX4_likeness_14 rfl ?_
      refine j_icmp_gt (t := 29) (n' := 18) F (by omega) (by omega) dX4_likeness_15 (by decide) rfl (fun c15_2 => ?_) (fun c15_2 => ?_)
      · refine j_iconst (n' := 30) F dX4_likeness_29 rfl ?_
        exact j_ireturn F E dX4_likeness_30 (⟨rfl, by first | rfl | omega | (simp; omega) | (split <;> omega)⟩)
      · refine j_aload_0 (n' := 19) F dX4_likeness_18 rfl ?_
        refine j_getR (n' := 22) F fl_X4_17 kap_7 rfl dX4_likeness_19 rfl ?_
        refine j_iload_1 (n' := 23) F dX4_likeness_22 rfl ?_
        refine j_aald (n' := 24) F kap_9 (by decide) (by omega) dX4_likeness_23 rfl ?_
        refine j_iload_2 (n' := 25) F dX4_likeness_24 rfl ?_
        refine j_iald (n' := 26) F (kap_al (by omega)) (by decide) (by omega) dX4_likeness_25 rfl ?_
        refine j_goto (t := 30) F dX4_likeness_26 (by decide) ?_
        exact j_ireturn F E dX4_likeness_30 (⟨rfl, by first | rfl | omega | (simp; omega) | (split <;> omega)⟩)
set_option maxRecDepth 20000 in
theorem c_Row_size {l : Launch} {G : jG} {B0 : Nat} {φ : jPhi} {o r : Int} (hk : κF o = some (.inl (5, [.inl r, .inr 0, .inr 0, .inr 0]))) : jC l G B0 κF 113 yX6_size cX6_size 1 (some .int) 0 [rf B0 o] φ mkI (fun z φ' => φ = φ' ∧ z = φ o 1) := by
  refine jC_start RX6 [some (rf B0 o)] (by decide) rfl (Nat.le_of_ble_eq_true rfl) rfl (fun X Q F E => ?_)
  refine j_aload_0 (n' := 1) F dX6_size_0 rfl ?_
  refine j_getI (n' := 4) F 1 rfl fl_X6_15 hk rfl dX6_size_1 rfl ?_
  exact j_ireturn F E dX6_size_4 (⟨rfl, by first | rfl | omega | (simp; omega) | (split <;> omega)⟩)
set_option maxRecDepth 20000 in
theorem c_Row_plains {l : Launch} {G : jG} {B0 : Nat} {φ : jPhi} {o r : Int} (hk : κF o = some (.inl (5, [.inl r, .inr 0, .inr 0, .inr 0]))) : jC l G B0 κF 113 yX6_plains cX6_plains 1 (some .int) 0 [rf B0 o] φ mkI (fun z φ' => φ = φ' ∧ z = φ o 2) := by
  refine jC_start RX6 [some (rf B0 o)] (by decide) rfl (Nat.le_of_ble_eq_true rfl) rfl (fun X Q F E => ?_)
  refine j_aload_0 (n' := 1) F dX6_plains_0 rfl ?_
  refine j_getI (n' := 4) F 2 rfl fl_X6_19 hk rfl dX6_plains_1 rfl ?_
  exact j_ireturn F E dX6_plains_4 (⟨rfl, by first | rfl | omega | (simp; omega) | (split <;> omega)⟩)
set_option maxRecDepth 20000 in
theorem c_Row_copies {l : Launch} {G : jG} {B0 : Nat} {φ : jPhi} {o r : Int} (hk : κF o = some (.inl (5, [.inl r, .inr 0, .inr 0, .inr 0]))) : jC l G B0 κF 113 yX6_copies cX6_copies 1 (some .int) 0 [rf B0 o] φ mkI (fun z φ' => φ = φ' ∧ z = φ o 3) := by
  refine jC_start RX6 [some (rf B0 o)] (by decide) rfl (Nat.le_of_ble_eq_true rfl) rfl (fun X Q F E => ?_)
  refine j_aload_0 (n' := 1) F dX6_copies_0 rfl ?_
  refine j_getI (n' := 4) F 3 rfl fl_X6_22 hk rfl dX6_copies_1 rfl ?_
  exact j_ireturn F E dX6_copies_4 (⟨rfl, by first | rfl | omega | (simp; omega) | (split <;> omega)⟩)
set_option maxRecDepth 20000 in
theorem c_Row_agains {l : Launch} {G : jG} {B0 : Nat} {φ : jPhi} {o r : Int} (hk : κF o = some (.inl (5, [.inl r, .inr 0, .inr 0, .inr 0]))) : jC l G B0 κF 113 yX6_agains cX6_agains 1 (some .int) 0 [rf B0 o] φ mkI (fun z φ' => φ = φ' ∧ z = φ o 1 - φ o 2 - φ o 3) := by
  refine jC_start RX6 [some (rf B0 o)] (by decide) rfl (Nat.le_of_ble_eq_true rfl) rfl (fun X Q F E => ?_)
  refine j_aload_0 (n' := 1) F dX6_agains_0 rfl ?_
  refine j_getI (n' := 4) F 1 rfl fl_X6_15 hk rfl dX6_agains_1 rfl ?_
  refine j_aload_0 (n' := 5) F dX6_agains_4 rfl ?_
  refine j_getI (n' := 8) F 2 rfl fl_X6_19 hk rfl dX6_agains_5 rfl ?_
  refine j_isub (n' := 9) F dX6_agains_8 rfl ?_
  refine j_aload_0 (n' := 10) F dX6_agains_9 rfl ?_
  refine j_getI (n' := 13) F 3 rfl fl_X6_22 hk rfl dX6_agains_10 rfl ?_
  refine j_isub (n' := 14) F dX6_agains_13 rfl ?_
  exact j_ireturn F E dX6_agains_14 (⟨rfl, by first | rfl | omega | (simp; omega) | (split <;> omega)⟩)
set_option maxRecDepth 20000 in
theorem c_Row_clear {l : Launch} {G : jG} {B0 : Nat} {φ : jPhi} {o r : Int} (hk : κF o = some (.inl (5, [.inl r, .inr 0, .inr 0, .inr 0]))) : jC l G B0 κF 113 yX6_clear cX6_clear 1 none 0 [rf B0 o] φ mkV (fun z φ' => rowIs φ' o r [] ∧ frC (fun a => a = o) φ φ') := by
  refine jC_start RX6 [some (rf B0 o)] (by decide) rfl (Nat.le_of_ble_eq_true rfl) rfl (fun X Q F E => ?_)
  refine j_aload_0 (n' := 1) F dX6_clear_0 rfl ?_
  refine j_iconst (n' := 2) F dX6_clear_1 rfl ?_
  refine j_putI (n' := 5) F 1 rfl fp_X6_15 hk rfl rfl dX6_clear_2 rfl (fun φ1 e1 => ?_)
  refine j_aload_0 (n' := 6) F dX6_clear_5 rfl ?_
  refine j_iconst (n' := 7) F dX6_clear_6 rfl ?_
  refine j_putI (n' := 10) F 2 rfl fp_X6_19 hk rfl rfl dX6_clear_7 rfl (fun φ2 e2 => ?_)
  refine j_aload_0 (n' := 11) F dX6_clear_10 rfl ?_
  refine j_iconst (n' := 12) F dX6_clear_11 rfl ?_
  refine j_putI (n' := 15) F 3 rfl fp_X6_22 hk rfl rfl dX6_clear_12 rfl (fun φ3 e3 => ?_)
  exact j_return F E dX6_clear_15 (⟨⟨by simp [e3, e2, e1, zU], by simp [e3, e2, e1, zU, rwSum], by simp [e3, e2, e1, zU, rwSum], fun k hk => by simp at hk⟩, by rw [e3, e2, e1]; repeat (first | exact frC.rf | refine frC.put ?_ (by first | simp | omega))⟩)
set_option maxRecDepth 20000 in
theorem c_Row_get {l : Launch} {G : jG} {B0 : Nat} {φ : jPhi} {o r : Int} {x : Int} (hk : κF o = some (.inl (5, [.inl r, .inr 0, .inr 0, .inr 0]))) (hr : κF r = some (.inr (.inl 24))) (hs : 0 ≤ φ o 1 ∧ φ o 1 ≤ 24) (hx : -2147483648 ≤ x ∧ x ≤ 2147483647) : jC l G B0 κF 113 yX6_get cX6_get 2 (some .int) 0 [rf B0 o, iv x] φ mkI (fun z φ' => φ = φ' ∧ z = (if 0 ≤ x ∧ x < φ o 1 then φ r x else -1)) := by
  refine jC_start RX6 [some (rf B0 o), some (iv x)] (by decide) rfl (Nat.le_of_ble_eq_true rfl) rfl (fun X Q F E => ?_)
  refine j_iload_1 (n' := 1) F dX6_get_0 rfl ?_
  refine j_if_lt (t := 21) (n' := 4) F (by omega) dX6_get_1 (by decide) rfl (fun c1_0 => ?_) (fun c1_0 => ?_)
  · refine j_iconst (n' := 22) F dX6_get_21 rfl ?_
    exact j_ireturn F E dX6_get_22 (⟨rfl, by first | rfl | omega | (simp; omega) | (split <;> omega)⟩)
  · refine j_iload_1 (n' := 5) F dX6_get_4 rfl ?_
    refine j_aload_0 (n' := 6) F dX6_get_5 rfl ?_
    refine j_getI (n' := 9) F 1 rfl fl_X6_15 hk rfl dX6_get_6 rfl ?_
    refine j_icmp_ge (t := 21) (n' := 12) F (by omega) (by omega) dX6_get_9 (by decide) rfl (fun c9_1 => ?_) (fun c9_1 => ?_)
    · refine j_iconst (n' := 22) F dX6_get_21 rfl ?_
      exact j_ireturn F E dX6_get_22 (⟨rfl, by first | rfl | omega | (simp; omega) | (split <;> omega)⟩)
    · refine j_aload_0 (n' := 13) F dX6_get_12 rfl ?_
      refine j_getR (n' := 16) F fl_X6_9 hk rfl dX6_get_13 rfl ?_
      refine j_iload_1 (n' := 17) F dX6_get_16 rfl ?_
      refine j_iald (n' := 18) F hr (by decide) (by omega) dX6_get_17 rfl ?_
      refine j_goto (t := 22) F dX6_get_18 (by decide) ?_
      exact j_ireturn F E dX6_get_22 (⟨rfl, by first | rfl | omega | (simp; omega) | (split <;> omega)⟩)
theorem rowIs.push {φ φ' : jPhi} {o r x : Int} {ts : List Int} (h : rowIs φ o r ts) (h1 : φ' o 1 = φ o 1 + 1) (h2 : φ' o 2 = φ o 2 + (if x < 100 then 1 else 0)) (h3 : φ' o 3 = φ o 3 + (if 1000 ≤ x then 1 else 0)) (h4 : φ' r (φ o 1) = x) (h5 : ∀ b, b ≠ φ o 1 → φ' r b = φ r b) : rowIs φ' o r (ts ++ [x]) := by
  obtain ⟨a1, a2, a3, a4⟩ := h
  refine ⟨by rw [h1, a1]; simp, by rw [h2, a2, rwSum_app, rwSum_cons]; simp [rwSum], by rw [h3, a3, rwSum_app, rwSum_cons]; simp [rwSum], fun k hk => ?_⟩
  by_cases e : k < ts.length
  · rw [h5 k (by omega), a4 k e]
    simp [List.getD, List.getElem?_append_left e]
  · have e2 : k = ts.length := by simp at hk; omega
    subst e2
    rw [← a1, h4]
    simp [List.getD]
set_option maxRecDepth 20000 in
theorem c_Row_add {l : Launch} {G : jG} {B0 : Nat} {φ : jPhi} {o r : Int} {x : Int} {ts : List Int} (hk : κF o = some (.inl (5, [.inl r, .inr 0, .inr 0, .inr 0]))) (hr : κF r = some (.inr (.inl 24))) (hro : r ≠ o) (ht : rowIs φ o r ts) (hl : ts.length < 24) (hx : -2147483648 ≤ x ∧ x ≤ 2147483647) : jC l G B0 κF 113 yX6_add cX6_add 2 none 1 [rf B0 o, iv x] φ mkV (fun z φ' => rowIs φ' o r (ts ++ [x]) ∧ frC (fun a => a = o ∨ a = r) φ φ') := by
  refine jC_start RX6 [some (rf B0 o), some (iv x)] (by decide) rfl (Nat.le_of_ble_eq_true rfl) rfl (fun X Q F E => ?_)
  have h1 := ht.1
  have hor : o ≠ r := Ne.symm hro
  refine j_aload_0 (n' := 1) F dX6_add_0 rfl ?_
  refine j_getI (n' := 4) F 1 rfl fl_X6_15 hk rfl dX6_add_1 rfl ?_
  refine j_bipush (n' := 6) F dX6_add_4 (by decide) rfl ?_
  refine j_icmp_lt (t := 10) (n' := 9) F (by first | omega | (split <;> omega)) (by first | omega | (split <;> omega)) dX6_add_6 (by decide) rfl (fun c6_0 => ?_) (fun c6_0 => ?_)
  · refine j_aload_0 (n' := 11) F dX6_add_10 rfl ?_
    refine j_getR (n' := 14) F fl_X6_9 hk rfl dX6_add_11 rfl ?_
    refine j_aload_0 (n' := 15) F dX6_add_14 rfl ?_
    refine j_getI (n' := 18) F 1 rfl fl_X6_15 hk rfl dX6_add_15 rfl ?_
    refine j_iload_1 (n' := 19) F dX6_add_18 rfl ?_
    refine j_iast (n' := 20) F hr (by decide) (by first | omega | (split <;> omega)) dX6_add_19 rfl (fun φ2 e2 => ?_)
    refine j_aload_0 (n' := 21) F dX6_add_20 rfl ?_
    refine j_dup (n' := 22) F rfl dX6_add_21 rfl ?_
    refine j_getI (n' := 25) F 1 rfl fl_X6_15 hk rfl dX6_add_22 rfl ?_
    refine j_iconst (n' := 26) F dX6_add_25 rfl ?_
    refine j_iadd (n' := 27) F dX6_add_26 rfl ?_
    refine j_putI (n' := 30) F 1 rfl fp_X6_15 hk rfl rfl dX6_add_27 rfl (fun φ3 e3 => ?_)
    refine j_iload_1 (n' := 31) F dX6_add_30 rfl ?_
    refine j_cS1i (n' := 34) F kl_X6_25 (c_Tok_isPlain hx) (by decide) (Nat.le_of_ble_eq_true rfl) dX6_add_31 rfl (fun z4 φ4 h4 => ?_)
    obtain ⟨rfl, rfl⟩ := h4
    refine j_if_eq (t := 47) (n' := 37) F (by first | omega | (split <;> omega)) dX6_add_34 (by decide) rfl (fun c34_4 => ?_) (fun c34_4 => ?_)
    · refine j_iload_1 (n' := 48) F dX6_add_47 rfl ?_
      refine j_cS1i (n' := 51) F kl_X6_31 (c_Tok_isCopy hx) (by decide) (Nat.le_of_ble_eq_true rfl) dX6_add_48 rfl (fun z6 φ6 h6 => ?_)
      obtain ⟨rfl, rfl⟩ := h6
      refine j_if_eq (t := 64) (n' := 54) F (by first | omega | (split <;> omega)) dX6_add_51 (by decide) rfl (fun c51_6 => ?_) (fun c51_6 => ?_)
      · exact j_return F E dX6_add_64 (⟨rowIs.push ht (by rw [e3, e2]; simp [zU, hro, hor]; try omega) (by rw [e3, e2]; simp [zU, hro, hor]; try omega) (by rw [e3, e2]; simp [zU, hro, hor]; try omega) (by rw [e3, e2]; simp [zU, hro, hor]; try omega) (fun b hb => by rw [e3, e2]; simp [zU, hro, hor, hb]), by rw [e3, e2]; repeat (first | exact frC.rf | refine frC.put ?_ (by first | simp | omega))⟩)
      · refine j_aload_0 (n' := 55) F dX6_add_54 rfl ?_
        refine j_dup (n' := 56) F rfl dX6_add_55 rfl ?_
        refine j_getI (n' := 59) F 3 rfl fl_X6_22 hk rfl dX6_add_56 rfl ?_
        refine j_iconst (n' := 60) F dX6_add_59 rfl ?_
        refine j_iadd (n' := 61) F dX6_add_60 rfl ?_
        refine j_putI (n' := 64) F 3 rfl fp_X6_22 hk rfl rfl dX6_add_61 rfl (fun φ8 e8 => ?_)
        exact j_return F E dX6_add_64 (⟨rowIs.push ht (by rw [e8, e3, e2]; simp [zU, hro, hor]; try omega) (by rw [e8, e3, e2]; simp [zU, hro, hor]; try omega) (by rw [e8, e3, e2]; simp [zU, hro, hor]; try omega) (by rw [e8, e3, e2]; simp [zU, hro, hor]; try omega) (fun b hb => by rw [e8, e3, e2]; simp [zU, hro, hor, hb]), by rw [e8, e3, e2]; repeat (first | exact frC.rf | refine frC.put ?_ (by first | simp | omega))⟩)
    · refine j_aload_0 (n' := 38) F dX6_add_37 rfl ?_
      refine j_dup (n' := 39) F rfl dX6_add_38 rfl ?_
      refine j_getI (n' := 42) F 2 rfl fl_X6_19 hk rfl dX6_add_39 rfl ?_
      refine j_iconst (n' := 43) F dX6_add_42 rfl ?_
      refine j_iadd (n' := 44) F dX6_add_43 rfl ?_
      refine j_putI (n' := 47) F 2 rfl fp_X6_19 hk rfl rfl dX6_add_44 rfl (fun φ9 e9 => ?_)
      refine j_iload_1 (n' := 48) F dX6_add_47 rfl ?_
      refine j_cS1i (n' := 51) F kl_X6_31 (c_Tok_isCopy hx) (by decide) (Nat.le_of_ble_eq_true rfl) dX6_add_48 rfl (fun z10 φ10 h10 => ?_)
      obtain ⟨rfl, rfl⟩ := h10
      refine j_if_eq (t := 64) (n' := 54) F (by first | omega | (split <;> omega)) dX6_add_51 (by decide) rfl (fun c51_10 => ?_) (fun c51_10 => ?_)
      · exact j_return F E dX6_add_64 (⟨rowIs.push ht (by rw [e9, e3, e2]; simp [zU, hro, hor]; try omega) (by rw [e9, e3, e2]; simp [zU, hro, hor]; try omega) (by rw [e9, e3, e2]; simp [zU, hro, hor]; try omega) (by rw [e9, e3, e2]; simp [zU, hro, hor]; try omega) (fun b hb => by rw [e9, e3, e2]; simp [zU, hro, hor, hb]), by rw [e9, e3, e2]; repeat (first | exact frC.rf | refine frC.put ?_ (by first | simp | omega))⟩)
      · refine j_aload_0 (n' := 55) F dX6_add_54 rfl ?_
        refine j_dup (n' := 56) F rfl dX6_add_55 rfl ?_
        refine j_getI (n' := 59) F 3 rfl fl_X6_22 hk rfl dX6_add_56 rfl ?_
        refine j_iconst (n' := 60) F dX6_add_59 rfl ?_
        refine j_iadd (n' := 61) F dX6_add_60 rfl ?_
        refine j_putI (n' := 64) F 3 rfl fp_X6_22 hk rfl rfl dX6_add_61 rfl (fun φ12 e12 => ?_)
        exact j_return F E dX6_add_64 (⟨rowIs.push ht (by rw [e12, e9, e3, e2]; simp [zU, hro, hor]; try omega) (by rw [e12, e9, e3, e2]; simp [zU, hro, hor]; try omega) (by rw [e12, e9, e3, e2]; simp [zU, hro, hor]; try omega) (by rw [e12, e9, e3, e2]; simp [zU, hro, hor]; try omega) (fun b hb => by rw [e12, e9, e3, e2]; simp [zU, hro, hor, hb]), by rw [e12, e9, e3, e2]; repeat (first | exact frC.rf | refine frC.put ?_ (by first | simp | omega))⟩)
  · exact j_return F E dX6_add_9 (by omega)
set_option maxRecDepth 20000 in
theorem c_Cla_isPrice {l : Launch} {G : jG} {B0 : Nat} {φ : jPhi} {x : Int} (hx : -2147483648 ≤ x ∧ x ≤ 2147483647) : jC l G B0 κF 113 yX7_isPrice cX7_isPrice 1 (some .boolean) 0 [iv x] φ mkI (fun z φ' => φ = φ' ∧ z = (if 0 ≤ x ∧ x < 18 then 1 else 0)) := by
  refine jC_start RX7 [some (iv x)] (by decide) rfl (Nat.le_of_ble_eq_true rfl) rfl (fun X Q F E => ?_)
  refine j_iload_0 (n' := 1) F dX7_isPrice_0 rfl ?_
  refine j_if_lt (t := 14) (n' := 4) F (by omega) dX7_isPrice_1 (by decide) rfl (fun c1_0 => ?_) (fun c1_0 => ?_)
  · refine j_iconst (n' := 15) F dX7_isPrice_14 rfl ?_
    exact j_zreturn F E (by omega) dX7_isPrice_15 (⟨rfl, by first | rfl | omega | (simp; omega) | (split <;> omega)⟩)
  · refine j_iload_0 (n' := 5) F dX7_isPrice_4 rfl ?_
    refine j_bipush (n' := 7) F dX7_isPrice_5 (by decide) rfl ?_
    refine j_icmp_ge (t := 14) (n' := 10) F (by omega) (by omega) dX7_isPrice_7 (by decide) rfl (fun c7_1 => ?_) (fun c7_1 => ?_)
    · refine j_iconst (n' := 15) F dX7_isPrice_14 rfl ?_
      exact j_zreturn F E (by omega) dX7_isPrice_15 (⟨rfl, by first | rfl | omega | (simp; omega) | (split <;> omega)⟩)
    · refine j_iconst (n' := 11) F dX7_isPrice_10 rfl ?_
      refine j_goto (t := 15) F dX7_isPrice_11 (by decide) ?_
      exact j_zreturn F E (by omega) dX7_isPrice_15 (⟨rfl, by first | rfl | omega | (simp; omega) | (split <;> omega)⟩)
set_option maxRecDepth 20000 in
theorem c_Pri_get {l : Launch} {G : jG} {B0 : Nat} {φ : jPhi} {o v w : Int} {x : Int} (hk : κF o = some (.inl (3, [.inl v, .inl w]))) (hv : κF v = some (.inr (.inl 18))) (hx : -2147483648 ≤ x ∧ x ≤ 2147483647) : jC l G B0 κF 113 yX3_get cX3_get 2 (some .int) 0 [rf B0 o, iv x] φ mkI (fun z φ' => φ = φ' ∧ z = pget (φ v) x) := by
  refine jC_start RX3 [some (rf B0 o), some (iv x)] (by decide) rfl (Nat.le_of_ble_eq_true rfl) rfl (fun X Q F E => ?_)
  refine j_iload_1 (n' := 1) F dX3_get_0 rfl ?_
  refine j_if_lt (t := 19) (n' := 4) F (by omega) dX3_get_1 (by decide) rfl (fun c1_0 => ?_) (fun c1_0 => ?_)
  · refine j_iconst (n' := 20) F dX3_get_19 rfl ?_
    exact j_ireturn F E dX3_get_20 (⟨rfl, by unfold pget; first | rw [if_neg (by omega)] | rw [if_pos (by omega)]⟩)
  · refine j_iload_1 (n' := 5) F dX3_get_4 rfl ?_
    refine j_bipush (n' := 7) F dX3_get_5 (by decide) rfl ?_
    refine j_icmp_ge (t := 19) (n' := 10) F (by omega) (by omega) dX3_get_7 (by decide) rfl (fun c7_1 => ?_) (fun c7_1 => ?_)
    · refine j_iconst (n' := 20) F dX3_get_19 rfl ?_
      exact j_ireturn F E dX3_get_20 (⟨rfl, by unfold pget; first | rw [if_neg (by omega)] | rw [if_pos (by omega)]⟩)
    · refine j_aload_0 (n' := 11) F dX3_get_10 rfl ?_
      refine j_getR (n' := 14) F fl_X3_18 hk rfl dX3_get_11 rfl ?_
      refine j_iload_1 (n' := 15) F dX3_get_14 rfl ?_
      refine j_iald (n' := 16) F hv (by decide) (by omega) dX3_get_15 rfl ?_
      refine j_goto (t := 20) F dX3_get_16 (by decide) ?_
      exact j_ireturn F E dX3_get_20 (⟨rfl, by unfold pget; first | rw [if_neg (by omega)] | rw [if_pos (by omega)]⟩)
set_option maxRecDepth 20000 in
theorem c_Pri_set {l : Launch} {G : jG} {B0 : Nat} {φ : jPhi} {o v w : Int} {x y : Int} (hk : κF o = some (.inl (3, [.inl v, .inl w]))) (hv : κF v = some (.inr (.inl 18))) (hx : 0 ≤ x ∧ x < 18) : jC l G B0 κF 113 yX3_set cX3_set 3 none 1 [rf B0 o, iv x, iv y] φ mkV (fun z φ' => φ' = zU φ v x y) := by
  refine jC_start RX3 [some (rf B0 o), some (iv x), some (iv y)] (by decide) rfl (Nat.le_of_ble_eq_true rfl) rfl (fun X Q F E => ?_)
  refine j_iload_1 (n' := 1) F dX3_set_0 rfl ?_
  refine j_cN1i (n' := 4) F kl_X3_26 (c_Cla_isPrice (by omega)) (by decide) (Nat.le_of_ble_eq_true rfl) dX3_set_1 rfl (fun z1 φ1 h1 => ?_)
  obtain ⟨rfl, rfl⟩ := h1
  refine j_if_eq (t := 14) (n' := 7) F (by first | omega | (split <;> omega)) dX3_set_4 (by decide) rfl (fun c4_1 => ?_) (fun c4_1 => ?_)
  · exact j_return F E dX3_set_14 (by rw [if_pos (by omega)] at *; omega)
  · refine j_aload_0 (n' := 8) F dX3_set_7 rfl ?_
    refine j_getR (n' := 11) F fl_X3_18 hk rfl dX3_set_8 rfl ?_
    refine j_iload_1 (n' := 12) F dX3_set_11 rfl ?_
    refine j_iload_2 (n' := 13) F dX3_set_12 rfl ?_
    refine j_iast (n' := 14) F hv (by decide) (by first | omega | (split <;> omega)) dX3_set_13 rfl (fun φ3 e3 => ?_)
    exact j_return F E dX3_set_14 (e3)
set_option maxRecDepth 20000 in
theorem c_Pri_ofToken {l : Launch} {G : jG} {B0 : Nat} {φ : jPhi} {o v w : Int} {x : Int} (hk : κF o = some (.inl (3, [.inl v, .inl w]))) (hv : κF v = some (.inr (.inl 18))) (hx : tkOk x) (hP : prOk (φ v)) : jC l G B0 κF 113 yX3_ofToken cX3_ofToken 3 (some .int) 1 [rf B0 o, iv x] φ mkI (fun z φ' => φ = φ' ∧ z = tkPrice (φ v) x) := by
  refine jC_start RX3 [some (rf B0 o), some (iv x), none] (by decide) rfl (Nat.le_of_ble_eq_true rfl) rfl (fun X Q F E => ?_)
  unfold tkOk at hx
  have hlen : 0 ≤ tkLen x ∧ tkLen x ≤ 9 := by unfold tkLen; split <;> omega
  have hdi : 0 ≤ tkDist x ∧ tkDist x ≤ 24 := by unfold tkDist; split <;> omega
  have hlg := zlog_bd 7 (tkDist x)
  refine j_iload_1 (n' := 1) F dX3_ofToken_0 rfl ?_
  refine j_cS1i (n' := 4) F kl_X3_34 (c_Tok_isPlain (by omega)) (by decide) (Nat.le_of_ble_eq_true rfl) dX3_ofToken_1 rfl (fun z1 φ1 h1 => ?_)
  obtain ⟨rfl, rfl⟩ := h1
  refine j_if_eq (t := 13) (n' := 7) F (by first | omega | (split <;> omega)) dX3_ofToken_4 (by decide) rfl (fun c4_1 => ?_) (fun c4_1 => ?_)
  · refine j_aload_0 (n' := 14) F dX3_ofToken_13 rfl ?_
    refine j_bipush (n' := 16) F dX3_ofToken_14 (by decide) rfl ?_
    refine j_iload_1 (n' := 17) F dX3_ofToken_16 rfl ?_
    refine j_cS1i (n' := 20) F kl_X3_39 (c_Tok_lengthOf (by omega)) (by decide) (Nat.le_of_ble_eq_true rfl) dX3_ofToken_17 rfl (fun z3 φ3 h3 => ?_)
    obtain ⟨rfl, rfl⟩ := h3
    refine j_iadd (n' := 21) F dX3_ofToken_20 rfl ?_
    refine j_iconst (n' := 22) F dX3_ofToken_21 rfl ?_
    refine j_isub (n' := 23) F dX3_ofToken_22 rfl ?_
    refine j_cV1i (n' := 26) F kl_X3_30 (c_Pri_get hk hv (by omega)) hk rfl (by decide) (Nat.le_of_ble_eq_true rfl) dX3_ofToken_23 rfl (fun z4 φ4 h4 => ?_)
    obtain ⟨rfl, rfl⟩ := h4
    refine j_istore_2 (n' := 27) F (by decide) jc_i dX3_ofToken_26 rfl ?_
    refine j_iload_1 (n' := 28) F dX3_ofToken_27 rfl ?_
    refine j_cS1i (n' := 31) F kl_X3_42 (c_Tok_isCopy (by omega)) (by decide) (Nat.le_of_ble_eq_true rfl) dX3_ofToken_28 rfl (fun z5 φ5 h5 => ?_)
    obtain ⟨rfl, rfl⟩ := h5
    refine j_if_ne (t := 43) (n' := 34) F (by first | omega | (split <;> omega)) dX3_ofToken_31 (by decide) rfl (fun c31_5 => ?_) (fun c31_5 => ?_)
    · refine j_aload_0 (n' := 44) F dX3_ofToken_43 rfl ?_
      refine j_iconst (n' := 45) F dX3_ofToken_44 rfl ?_
      refine j_cV1i (n' := 48) F kl_X3_30 (c_Pri_get hk hv (by omega)) hk rfl (by decide) (Nat.le_of_ble_eq_true rfl) dX3_ofToken_45 rfl (fun z7 φ7 h7 => ?_)
      obtain ⟨rfl, rfl⟩ := h7
      refine j_aload_0 (n' := 49) F dX3_ofToken_48 rfl ?_
      refine j_iconst (n' := 50) F dX3_ofToken_49 rfl ?_
      refine j_iload_1 (n' := 51) F dX3_ofToken_50 rfl ?_
      refine j_cS1i (n' := 54) F kl_X3_45 (c_Tok_distanceOf (by omega)) (by decide) (Nat.le_of_ble_eq_true rfl) dX3_ofToken_51 rfl (fun z8 φ8 h8 => ?_)
      obtain ⟨rfl, rfl⟩ := h8
      refine j_cN1i (n' := 57) F kl_X3_48 (c_Cla_log (by omega)) (by decide) (Nat.le_of_ble_eq_true rfl) dX3_ofToken_54 rfl (fun z9 φ9 h9 => ?_)
      obtain ⟨rfl, rfl⟩ := h9
      refine j_iadd (n' := 58) F dX3_ofToken_57 rfl ?_
      refine j_cV1i (n' := 61) F kl_X3_30 (c_Pri_get hk hv (by omega)) hk rfl (by decide) (Nat.le_of_ble_eq_true rfl) dX3_ofToken_58 rfl (fun z10 φ10 h10 => ?_)
      obtain ⟨rfl, rfl⟩ := h10
      refine j_iadd (n' := 62) F dX3_ofToken_61 rfl ?_
      refine j_iload_2 (n' := 63) F dX3_ofToken_62 rfl ?_
      refine j_iadd (n' := 64) F dX3_ofToken_63 rfl ?_
      exact j_ireturn F E dX3_ofToken_64 (⟨rfl, by unfold tkPrice; repeat (first | rfl | omega | split)⟩)
    · refine j_aload_0 (n' := 35) F dX3_ofToken_34 rfl ?_
      refine j_bipush (n' := 37) F dX3_ofToken_35 (by decide) rfl ?_
      refine j_cV1i (n' := 40) F kl_X3_30 (c_Pri_get hk hv (by omega)) hk rfl (by decide) (Nat.le_of_ble_eq_true rfl) dX3_ofToken_37 rfl (fun z11 φ11 h11 => ?_)
      obtain ⟨rfl, rfl⟩ := h11
      refine j_iload_2 (n' := 41) F dX3_ofToken_40 rfl ?_
      refine j_iadd (n' := 42) F dX3_ofToken_41 rfl ?_
      exact j_ireturn F E dX3_ofToken_42 (⟨rfl, by unfold tkPrice; repeat (first | rfl | omega | split)⟩)
  · refine j_aload_0 (n' := 8) F dX3_ofToken_7 rfl ?_
    refine j_iload_1 (n' := 9) F dX3_ofToken_8 rfl ?_
    refine j_cV1i (n' := 12) F kl_X3_30 (c_Pri_get hk hv (by omega)) hk rfl (by decide) (Nat.le_of_ble_eq_true rfl) dX3_ofToken_9 rfl (fun z12 φ12 h12 => ?_)
    obtain ⟨rfl, rfl⟩ := h12
    exact j_ireturn F E dX3_ofToken_12 (⟨rfl, by unfold tkPrice; repeat (first | rfl | omega | split)⟩)
set_option maxRecDepth 20000 in
theorem c_Pri_ofRow {l : Launch} {G : jG} {B0 : Nat} {φ : jPhi} {o v w : Int} {o2 r2 : Int} {ts : List Int} (hk : κF o = some (.inl (3, [.inl v, .inl w]))) (hv : κF v = some (.inr (.inl 18))) (hP : prOk (φ v)) (hk2 : κF o2 = some (.inl (5, [.inl r2, .inr 0, .inr 0, .inr 0]))) (hr2 : κF r2 = some (.inr (.inl 24))) (ht : rowIs φ o2 r2 ts) (hl : ts.length ≤ 24) (hok : rwOk ts) : jC l G B0 κF 113 yX3_ofRow cX3_ofRow 4 (some .int) 2 [rf B0 o, rf B0 o2] φ mkI (fun z φ' => φ = φ' ∧ z = rwSum (tkPrice (φ v)) ts) := by
  refine jC_start RX3 [some (rf B0 o), some (rf B0 o2), none, none] (by decide) rfl (Nat.le_of_ble_eq_true rfl) rfl (fun X Q F E => ?_)
  have h1 := ht.1
  have loop : ∀ (m k : Nat) (a : Int), k + m = ts.length → 0 ≤ a → a ≤ 90 * k → a + rwSum (tkPrice (φ v)) (ts.drop k) = rwSum (tkPrice (φ v)) ts → jJ X G B0 κF 113 0 0 Q 4 φ 4 [some (rf B0 o), some (rf B0 o2), some (iv a), some (iv (k : Int))] [] := by
    intro m
    induction m with
    | zero =>
      intro k a h2 h3 h4 h5
      rw [List.drop_eq_nil_of_le (by omega)] at h5
      refine j_iload_3 (n' := 5) F dX3_ofRow_4 rfl ?_
      refine j_aload_1 (n' := 6) F dX3_ofRow_5 rfl ?_
      refine j_cV0i (n' := 9) F kl_X3_51 (c_Row_size hk2) hk2 rfl (by decide) (Nat.le_of_ble_eq_true rfl) dX3_ofRow_6 rfl (fun z1 φ1 h1 => ?_)
      obtain ⟨rfl, rfl⟩ := h1
      refine j_icmp_ge (t := 30) (n' := 12) F (by omega) (by omega) dX3_ofRow_9 (by decide) rfl (fun c9_1 => ?_) (fun c9_1 => ?_)
      · refine j_iload_2 (n' := 31) F dX3_ofRow_30 rfl ?_
        exact j_ireturn F E dX3_ofRow_31 (⟨rfl, by simpa [rwSum] using h5⟩)
      · omega
    | succ m ih =>
      intro k a h2 h3 h4 h5
      rw [rwSum_drop (by omega)] at h5
      have hb := tkPrice_bd hP (ts.getD k 0)
      refine j_iload_3 (n' := 5) F dX3_ofRow_4 rfl ?_
      refine j_aload_1 (n' := 6) F dX3_ofRow_5 rfl ?_
      refine j_cV0i (n' := 9) F kl_X3_51 (c_Row_size hk2) hk2 rfl (by decide) (Nat.le_of_ble_eq_true rfl) dX3_ofRow_6 rfl (fun z1 φ1 h1 => ?_)
      obtain ⟨rfl, rfl⟩ := h1
      refine j_icmp_ge (t := 30) (n' := 12) F (by omega) (by omega) dX3_ofRow_9 (by decide) rfl (fun c9_1 => ?_) (fun c9_1 => ?_)
      · refine j_iload_2 (n' := 31) F dX3_ofRow_30 rfl ?_
        exact j_ireturn F E dX3_ofRow_31 (by omega)
      · refine j_iload_2 (n' := 13) F dX3_ofRow_12 rfl ?_
        refine j_aload_0 (n' := 14) F dX3_ofRow_13 rfl ?_
        refine j_aload_1 (n' := 15) F dX3_ofRow_14 rfl ?_
        refine j_iload_3 (n' := 16) F dX3_ofRow_15 rfl ?_
        refine j_cV1i (n' := 19) F kl_X3_57 (c_Row_get hk2 hr2 (by omega) (by omega)) hk2 rfl (by decide) (Nat.le_of_ble_eq_true rfl) dX3_ofRow_16 rfl (fun z3 φ3 h3 => ?_)
        obtain ⟨rfl, rfl⟩ := h3
        rw [if_pos (by omega), ht.2.2.2 k (by omega)]
        refine j_cV1i (n' := 22) F kl_X3_58 (c_Pri_ofToken hk hv (hok _ (rw_mem (by omega))) hP) hk rfl (by decide) (Nat.le_of_ble_eq_true rfl) dX3_ofRow_19 rfl (fun z4 φ4 h4 => ?_)
        obtain ⟨rfl, rfl⟩ := h4
        refine j_iadd (n' := 23) F dX3_ofRow_22 rfl ?_
        refine j_istore_2 (n' := 24) F (by decide) jc_r dX3_ofRow_23 rfl ?_
        refine j_iinc_3 (n' := 27) F (by decide) jc_i dX3_ofRow_24 rfl ?_
        refine j_goto (t := 4) F dX3_ofRow_27 (by decide) ?_
        exact ih (k + 1) (a + tkPrice (φ v) (ts.getD k 0)) (by omega) (by omega) (by omega) (by omega)
  refine j_iconst (n' := 1) F dX3_ofRow_0 rfl ?_
  refine j_istore_2 (n' := 2) F (by decide) jc_r dX3_ofRow_1 rfl ?_
  refine j_iconst (n' := 3) F dX3_ofRow_2 rfl ?_
  refine j_istore_3 (n' := 4) F (by decide) jc_i dX3_ofRow_3 rfl ?_
  exact loop ts.length 0 0 (by omega) (by omega) (by omega) (by simp)
end
section
/-- the letter of a row at a place of its code -/
def sgnL : List Int → Int → Int
  | [], _ => -1
  | t :: r, x => if x < tkSigns t then tkSign t x else sgnL r (x - tkSigns t)
theorem sgnL_drop {ts : List Int} {k : Nat} (h : k < ts.length) (x : Int) : sgnL (ts.drop k) x = if x < tkSigns (ts.getD k 0) then tkSign (ts.getD k 0) x else sgnL (ts.drop (k + 1)) (x - tkSigns (ts.getD k 0)) := by
  rw [List.drop_eq_getElem_cons h, sgnL]
  simp [h]
theorem tkSigns_bd (x : Int) : 1 ≤ tkSigns x ∧ tkSigns x ≤ 2 := by
  unfold tkSigns
  split <;> omega
/-- how often a token takes the price k -/
def tkTk (x k : Int) : Int :=
  if x < 100 then (if k = x then 1 else 0) else (if k = 10 + tkLen x - 2 then 1 else 0) + (if k = (if 1000 ≤ x then 4 else 17) then 1 else 0) + (if 1000 ≤ x ∧ k = 5 + zlog 7 (tkDist x) then 1 else 0)
def tak (ts : List Int) (k : Int) : Int := rwSum (fun x => tkTk x k) ts
theorem tkTk_bd (x k : Int) : 0 ≤ tkTk x k ∧ tkTk x k ≤ 3 := by
  unfold tkTk
  repeat (first | omega | split)
theorem tak_bd {ts : List Int} (h : ts.length ≤ 24) (k : Int) : 0 ≤ tak ts k ∧ tak ts k ≤ 72 := by
  have := rwSum_bd (f := fun x => tkTk x k) (B := 3) (ts := ts) (fun x _ => tkTk_bd x k)
  unfold tak
  omega
def rpr (all tk : Int) : Int := 1 + 2 * zlog 7 (all / (1 + tk))
def rwP (ts : List Int) : Int := rwSum (fun x => if x < 100 then 1 else 0) ts
def rwC (ts : List Int) : Int := rwSum (fun x => if 1000 ≤ x then 1 else 0) ts
def allOf (ts : List Int) (k : Int) : Int := if k < 4 then rwP ts + 4 else if k = 4 ∨ k = 17 then ts.length + 3 else if k < 10 then rwC ts + 5 else rwC ts + (ts.length - rwP ts - rwC ts) + 7
def newP (ts : List Int) (P : Int → Int) (k : Int) : Int := if 0 ≤ k ∧ k < 18 then rpr (allOf ts k) (tak ts k) else P k
def othP (P P' : Int → Int) (lo hi a : Int) : Int := lpI (fun i a => a + if P' i = P i then 0 else 1) lo hi a
theorem othP_add {P P' : Int → Int} {lo hi a : Int} (h : lo ≤ hi) : othP P P' lo hi a = a + othP P P' lo hi 0 ∧ 0 ≤ othP P P' lo hi 0 ∧ othP P P' lo hi 0 ≤ hi - lo := by
  have h1 := lpI_inv (f := fun i a => a + if P' i = P i then 0 else 1) (fun i b => b = a + (othP P P' lo i 0) ∧ 0 ≤ othP P P' lo i 0 ∧ othP P P' lo i 0 ≤ i - lo) (a := a) h (by unfold othP; rw [lpI_end (Int.le_refl _)]; omega) (fun j b h1 h2 h3 => by
    have e : othP P P' lo (j + 1) 0 = othP P P' lo j 0 + if P' j = P j then 0 else 1 := by unfold othP; exact lpI_last h1
    rw [e, h3.1]
    split <;> omega)
  exact h1
theorem othP_congr {P P' P2 P2' : Int → Int} {lo hi a : Int} (h : ∀ j, lo ≤ j → j < hi → P' j = P2' j ∧ P j = P2 j) : othP P P' lo hi a = othP P2 P2' lo hi a := by
  unfold othP
  exact lpI_congr (fun j b h1 h2 => by rw [(h j h1 h2).1, (h j h1 h2).2])
theorem othP_app {P P' : Int → Int} {lo mi hi a : Int} (h1 : lo ≤ mi) (h2 : mi ≤ hi) : othP P P' lo hi a = othP P P' lo mi a + othP P P' mi hi 0 := by
  rw [← (othP_add (a := othP P P' lo mi a) h2).1]
  unfold othP
  exact lpI_app h1 h2
/-- likeness by the place behind -/
theorem lik_min (t : Int → Int) (e : Int) : ∀ (k : Nat) (p d : Int), lik t e k p d = min (k : Int) (lik t e (k + 1) p d)
  | 0, p, d => by
    have := lik_bd t e 1 p d
    simp only [lik]
    omega
  | k + 1, p, d => by
    have h := lik_min t e k (p + 1) d
    have hb := lik_bd t e (k + 1) (p + 1) d
    rw [lik, lik]
    split
    · omega
    · omega
theorem lik_next {t : Int → Int} {e p d : Int} (h : p < e) : lik t e 8 p d = if t p = t (p - d) then min 8 (1 + lik t e 8 (p + 1) d) else 0 := by
  have h1 : lik t e 7 (p + 1) d = min (7 : Int) (lik t e 8 (p + 1) d) := lik_min t e 7 (p + 1) d
  rw [show lik t e 8 p d = if p < e ∧ t p = t (p - d) then 1 + lik t e 7 (p + 1) d else 0 from rfl]
  simp only [h, true_and]
  split
  · omega
  · rfl
theorem lik_end {t : Int → Int} {e p d : Int} {k : Nat} (h : e ≤ p) : lik t e k p d = 0 := by
  cases k with
  | zero => rfl
  | succ k => rw [lik, if_neg (by omega)]
/-- a nearer end cuts it -/
theorem lik_cut (t : Int → Int) {e n : Int} (h : e ≤ n) : ∀ (k : Nat) (p d : Int), p ≤ e → lik t e k p d = min (lik t n k p d) (e - p)
  | 0, p, d, hp => by simp only [lik]; omega
  | k + 1, p, d, hp => by
    rw [lik, lik]
    by_cases h1 : p < e
    · have h2 := lik_cut t h k (p + 1) d (by omega)
      have hb := lik_bd t n k (p + 1) d
      by_cases h3 : t p = t (p - d)
      · rw [if_pos ⟨h1, h3⟩, if_pos ⟨by omega, h3⟩]
        omega
      · rw [if_neg (fun q => h3 q.2), if_neg (fun q => h3 q.2)]
        omega
    · rw [if_neg (fun q => h1 q.1)]
      have hb := lik_bd t n (k + 1) p d
      rw [lik] at hb
      omega
/-- the distance of the longest -/
def farS (f : Int → Int) (d : Int) (b : Int × Int) : Int × Int := if b.2 < f d then (d, f d) else b
def farOf' (f : Int → Int) (p : Int) : Int × Int := lpI (farS f) 1 (p + 1) (0, 1)
def chF (f : Int → Int) (p : Int) : Nat → Int → Int → Int
  | 0, _, _ => -1
  | m + 1, d, k => if d ≤ p then (if 2 ≤ f d then (if k = 0 then p - d else chF f p m (d + 1) (k - 1)) else chF f p m (d + 1) k) else -1
/-- the class's table of likenesses -/
def alOk (φ : jPhi) : Prop := ∀ p d, 1 ≤ d → d ≤ p → p < φ 7 2 → φ (10 + p) d = lik (φ 8) (φ 7 2) 8 p d
end
section
set_option maxRecDepth 20000 in
theorem c_Row_signs {l : Launch} {G : jG} {B0 : Nat} {φ : jPhi} {o r : Int} {ts : List Int} (hk : κF o = some (.inl (5, [.inl r, .inr 0, .inr 0, .inr 0]))) (hr : κF r = some (.inr (.inl 24))) (ht : rowIs φ o r ts) (hl : ts.length ≤ 24) (hok : rwOk ts) : jC l G B0 κF 113 yX6_signs cX6_signs 3 (some .int) 2 [rf B0 o] φ mkI (fun z φ' => φ = φ' ∧ z = rwSum tkSigns ts) := by
  refine jC_start RX6 [some (rf B0 o), none, none] (by decide) rfl (Nat.le_of_ble_eq_true rfl) rfl (fun X Q F E => ?_)
  have h1 := ht.1
  have loop : ∀ (m k : Nat) (a : Int), k + m = ts.length → 0 ≤ a → a ≤ 2 * k → a + rwSum tkSigns (ts.drop k) = rwSum tkSigns ts → jJ X G B0 κF 113 0 0 Q 3 φ 4 [some (rf B0 o), some (iv a), some (iv (k : Int))] [] := by
    intro m
    induction m with
    | zero =>
      intro k a h2 h3 h4 h5
      rw [List.drop_eq_nil_of_le (by omega)] at h5
      refine j_iload_2 (n' := 5) F dX6_signs_4 rfl ?_
      refine j_aload_0 (n' := 6) F dX6_signs_5 rfl ?_
      refine j_getI (n' := 9) F 1 rfl fl_X6_15 hk rfl dX6_signs_6 rfl ?_
      refine j_icmp_ge (t := 29) (n' := 12) F (by omega) (by omega) dX6_signs_9 (by decide) rfl (fun c9_0 => ?_) (fun c9_0 => ?_)
      · refine j_iload_1 (n' := 30) F dX6_signs_29 rfl ?_
        exact j_ireturn F E dX6_signs_30 (⟨rfl, by simpa [rwSum] using h5⟩)
      · omega
    | succ m ih =>
      intro k a h2 h3 h4 h5
      rw [rwSum_drop (by omega)] at h5
      have hb := tkSigns_bd (ts.getD k 0)
      have hx := hok _ (rw_mem (ts := ts) (k := k) (by omega))
      unfold tkOk at hx
      refine j_iload_2 (n' := 5) F dX6_signs_4 rfl ?_
      refine j_aload_0 (n' := 6) F dX6_signs_5 rfl ?_
      refine j_getI (n' := 9) F 1 rfl fl_X6_15 hk rfl dX6_signs_6 rfl ?_
      refine j_icmp_ge (t := 29) (n' := 12) F (by omega) (by omega) dX6_signs_9 (by decide) rfl (fun c9_0 => ?_) (fun c9_0 => ?_)
      · refine j_iload_1 (n' := 30) F dX6_signs_29 rfl ?_
        exact j_ireturn F E dX6_signs_30 (by omega)
      · refine j_iload_1 (n' := 13) F dX6_signs_12 rfl ?_
        refine j_aload_0 (n' := 14) F dX6_signs_13 rfl ?_
        refine j_iload_2 (n' := 15) F dX6_signs_14 rfl ?_
        refine j_cV1i (n' := 18) F kl_X6_34 (c_Row_get hk hr (by omega) (by omega)) hk rfl (by decide) (Nat.le_of_ble_eq_true rfl) dX6_signs_15 rfl (fun z2 φ2 h2 => ?_)
        obtain ⟨rfl, rfl⟩ := h2
        rw [if_pos (by omega), ht.2.2.2 k (by omega)]
        refine j_cS1i (n' := 21) F kl_X6_38 (c_Tok_signsOf (by omega)) (by decide) (Nat.le_of_ble_eq_true rfl) dX6_signs_18 rfl (fun z3 φ3 h3 => ?_)
        obtain ⟨rfl, rfl⟩ := h3
        refine j_iadd (n' := 22) F dX6_signs_21 rfl ?_
        refine j_istore_1 (n' := 23) F (by decide) jc_r dX6_signs_22 rfl ?_
        refine j_iinc_2 (n' := 26) F (by decide) jc_i dX6_signs_23 rfl ?_
        refine j_goto (t := 4) F dX6_signs_26 (by decide) ?_
        exact ih (k + 1) (a + tkSigns (ts.getD k 0)) (by omega) (by omega) (by omega) (by omega)
  refine j_iconst (n' := 1) F dX6_signs_0 rfl ?_
  refine j_istore_1 (n' := 2) F (by decide) jc_r dX6_signs_1 rfl ?_
  refine j_iconst (n' := 3) F dX6_signs_2 rfl ?_
  refine j_istore_2 (n' := 4) F (by decide) jc_i dX6_signs_3 rfl ?_
  exact loop ts.length 0 0 (by omega) (by omega) (by omega) (by simp)
set_option maxRecDepth 20000 in
theorem c_Row_signAt {l : Launch} {G : jG} {B0 : Nat} {φ : jPhi} {o r : Int} {x : Int} {ts : List Int} (hk : κF o = some (.inl (5, [.inl r, .inr 0, .inr 0, .inr 0]))) (hr : κF r = some (.inr (.inl 24))) (ht : rowIs φ o r ts) (hl : ts.length ≤ 24) (hok : rwOk ts) (hx : -2147483648 ≤ x ∧ x ≤ 2147483647) : jC l G B0 κF 113 yX6_signAt cX6_signAt 5 (some .int) 2 [rf B0 o, iv x] φ mkI (fun z φ' => φ = φ' ∧ z = (if x < 0 then -1 else sgnL ts x)) := by
  refine jC_start RX6 [some (rf B0 o), some (iv x), none, none, none] (by decide) rfl (Nat.le_of_ble_eq_true rfl) rfl (fun X Q F E => ?_)
  have h1 := ht.1
  have loop : ∀ (m k : Nat) (a : Int), 0 ≤ x → k + m = ts.length → 0 ≤ a → a ≤ 2 * k → a ≤ x → sgnL (ts.drop k) (x - a) = sgnL ts x → jJ X G B0 κF 113 0 0 Q 5 φ 10 [some (rf B0 o), some (iv x), some (iv a), some (iv (k : Int)), none] [] := by
    intro m
    induction m with
    | zero =>
      intro k a h0 h2 h3 h4 h6 h5
      rw [List.drop_eq_nil_of_le (by omega)] at h5
      refine j_iload_3 (n' := 11) F dX6_signAt_10 rfl ?_
      refine j_aload_0 (n' := 12) F dX6_signAt_11 rfl ?_
      refine j_getI (n' := 15) F 1 rfl fl_X6_15 hk rfl dX6_signAt_12 rfl ?_
      refine j_icmp_ge (t := 57) (n' := 18) F (by omega) (by omega) dX6_signAt_15 (by decide) rfl (fun c15_0 => ?_) (fun c15_0 => ?_)
      · refine j_iconst (n' := 58) F dX6_signAt_57 rfl ?_
        exact j_ireturn F E dX6_signAt_58 (⟨rfl, by rw [if_neg (by omega), ← h5]; rfl⟩)
      · omega
    | succ m ih =>
      intro k a h0 h2 h3 h4 h6 h5
      rw [sgnL_drop (by omega)] at h5
      have hb := tkSigns_bd (ts.getD k 0)
      have hx := hok _ (rw_mem (ts := ts) (k := k) (by omega))
      unfold tkOk at hx
      refine j_iload_3 (n' := 11) F dX6_signAt_10 rfl ?_
      refine j_aload_0 (n' := 12) F dX6_signAt_11 rfl ?_
      refine j_getI (n' := 15) F 1 rfl fl_X6_15 hk rfl dX6_signAt_12 rfl ?_
      refine j_icmp_ge (t := 57) (n' := 18) F (by omega) (by omega) dX6_signAt_15 (by decide) rfl (fun c15_0 => ?_) (fun c15_0 => ?_)
      · refine j_iconst (n' := 58) F dX6_signAt_57 rfl ?_
        exact j_ireturn F E dX6_signAt_58 (by omega)
      · refine j_iload_2 (n' := 19) F dX6_signAt_18 rfl ?_
        refine j_aload_0 (n' := 20) F dX6_signAt_19 rfl ?_
        refine j_iload_3 (n' := 21) F dX6_signAt_20 rfl ?_
        refine j_cV1i (n' := 24) F kl_X6_34 (c_Row_get hk hr (by omega) (by omega)) hk rfl (by decide) (Nat.le_of_ble_eq_true rfl) dX6_signAt_21 rfl (fun z2 φ2 h2 => ?_)
        obtain ⟨rfl, rfl⟩ := h2
        rw [if_pos (by omega), ht.2.2.2 k (by omega)]
        refine j_cS1i (n' := 27) F kl_X6_38 (c_Tok_signsOf (by omega)) (by decide) (Nat.le_of_ble_eq_true rfl) dX6_signAt_24 rfl (fun z3 φ3 h3 => ?_)
        obtain ⟨rfl, rfl⟩ := h3
        refine j_iadd (n' := 28) F dX6_signAt_27 rfl ?_
        refine j_istore_4 (n' := 30) F (by decide) jc_i dX6_signAt_28 rfl ?_
        refine j_iload_1 (n' := 31) F dX6_signAt_30 rfl ?_
        refine j_iload_4 (n' := 33) F dX6_signAt_31 rfl ?_
        refine j_icmp_ge (t := 48) (n' := 36) F (by omega) (by omega) dX6_signAt_33 (by decide) rfl (fun c33_3 => ?_) (fun c33_3 => ?_)
        · refine j_iload_4 (n' := 50) F dX6_signAt_48 rfl ?_
          refine j_istore_2 (n' := 51) F (by decide) jc_i dX6_signAt_50 rfl ?_
          refine j_iinc_3 (n' := 54) F (by decide) jc_i dX6_signAt_51 rfl ?_
          refine j_goto (t := 10) F dX6_signAt_54 (by decide) ?_
          exact j_weak (by exact ⟨rfl, rfl, rfl, rfl, trivial⟩) (ih (k + 1) (a + tkSigns (ts.getD k 0)) (by omega) (by omega) (by omega) (by omega) (by omega) (by rw [if_neg (by omega)] at h5; rw [← h5]; congr 1; omega))
        · refine j_aload_0 (n' := 37) F dX6_signAt_36 rfl ?_
          refine j_iload_3 (n' := 38) F dX6_signAt_37 rfl ?_
          refine j_cV1i (n' := 41) F kl_X6_34 (c_Row_get hk hr (by omega) (by omega)) hk rfl (by decide) (Nat.le_of_ble_eq_true rfl) dX6_signAt_38 rfl (fun z5 φ5 h5 => ?_)
          obtain ⟨rfl, rfl⟩ := h5
          rw [if_pos (by omega), ht.2.2.2 k (by omega)]
          refine j_iload_1 (n' := 42) F dX6_signAt_41 rfl ?_
          refine j_iload_2 (n' := 43) F dX6_signAt_42 rfl ?_
          refine j_isub (n' := 44) F dX6_signAt_43 rfl ?_
          refine j_cS2i (n' := 47) F kl_X6_41 (c_Tok_signOf (by omega) (by omega)) (by decide) (Nat.le_of_ble_eq_true rfl) dX6_signAt_44 rfl (fun z6 φ6 h6 => ?_)
          obtain ⟨rfl, rfl⟩ := h6
          exact j_ireturn F E dX6_signAt_47 (⟨rfl, by rw [if_neg (by omega), ← h5, if_pos (by omega)]⟩)
  refine j_iload_1 (n' := 1) F dX6_signAt_0 rfl ?_
  refine j_if_ge (t := 6) (n' := 4) F (by omega) dX6_signAt_1 (by decide) rfl (fun c1_0 => ?_) (fun c1_0 => ?_)
  · refine j_iconst (n' := 7) F dX6_signAt_6 rfl ?_
    refine j_istore_2 (n' := 8) F (by decide) jc_i dX6_signAt_7 rfl ?_
    refine j_iconst (n' := 9) F dX6_signAt_8 rfl ?_
    refine j_istore_3 (n' := 10) F (by decide) jc_i dX6_signAt_9 rfl ?_
    exact loop ts.length 0 0 (by omega) (by omega) (by omega) (by omega) (by omega) (by simp)
  · refine j_iconst (n' := 5) F dX6_signAt_4 rfl ?_
    exact j_ireturn F E dX6_signAt_5 (⟨rfl, by rw [if_pos (by omega)]⟩)
set_option maxRecDepth 20000 in
theorem c_Txt_compare {l : Launch} {G : jG} {B0 : Nat} {φ : jPhi}  (hs : 0 ≤ φ 7 2 ∧ φ 7 2 ≤ 24) (hle : ∀ k, 0 ≤ k → k < φ 7 2 → 0 ≤ φ 8 k ∧ φ 8 k ≤ 3) : jC l G B0 κF 113 yX4_compare cX4_compare 4 none 1 [rf B0 7] φ mkV (fun z φ' => alOk φ' ∧ frC (fun a => 10 ≤ a ∧ a < 34) φ φ') := by
  refine jC_start RX4 [some (rf B0 7), none, none, none] (by decide) rfl (Nat.le_of_ble_eq_true rfl) rfl (fun X Q F E => ?_)
  have outer : ∀ (m : Nat) (p : Int) (ψ : jPhi), p + 1 = m → p < φ 7 2 → (∀ q d, p < q → q < φ 7 2 → 1 ≤ d → d ≤ q → ψ (10 + q) d = lik (φ 8) (φ 7 2) 8 q d) → frC (fun a => 10 ≤ a ∧ a < 34) φ ψ → jJ X G B0 κF 113 0 0 Q 4 ψ 7 [some (rf B0 7), some (iv p), none, none] [] := by
    intro m
    induction m with
    | zero =>
      intro p ψ h1 h2 h3 h4
      have u7 : ψ 7 2 = φ 7 2 := h4 7 2 (by omega)
      have u8 : ψ 8 = φ 8 := funext fun b => h4 8 b (by omega)
      refine j_iload_1 (n' := 8) F dX4_compare_7 rfl ?_
      refine j_if_lt (t := 84) (n' := 11) F (by omega) dX4_compare_8 (by decide) rfl (fun c8_0 => ?_) (fun c8_0 => ?_)
      · exact j_return F E dX4_compare_84 (⟨fun q d g1 g2 g3 => by rw [u7, u8]; exact h3 q d (by omega) (by omega) g1 g2, h4⟩)
      · omega
    | succ m ih =>
      intro p ψ h1 h2 h3 h4
      have inner : ∀ (j : Nat) (d : Int) (χ : jPhi), d + j = p + 1 → 1 ≤ d → (∀ q d, p < q → q < φ 7 2 → 1 ≤ d → d ≤ q → χ (10 + q) d = lik (φ 8) (φ 7 2) 8 q d) → (∀ c, 1 ≤ c → c < d → χ (10 + p) c = lik (φ 8) (φ 7 2) 8 p c) → frC (fun a => 10 ≤ a ∧ a < 34) φ χ → jJ X G B0 κF 113 0 0 Q 4 χ 13 [some (rf B0 7), some (iv p), some (iv d), none] [] := by
        intro j
        induction j with
        | zero =>
          intro d χ g1 g2 g3 g4 g5
          refine j_iload_2 (n' := 14) F dX4_compare_13 rfl ?_
          refine j_iload_1 (n' := 15) F dX4_compare_14 rfl ?_
          refine j_icmp_gt (t := 78) (n' := 18) F (by omega) (by omega) dX4_compare_15 (by decide) rfl (fun c15_0 => ?_) (fun c15_0 => ?_)
          · refine j_iinc_1 (n' := 81) F (by decide) jc_r dX4_compare_78 rfl ?_
            refine j_goto (t := 7) F dX4_compare_81 (by decide) ?_
            refine j_weak (by exact ⟨rfl, rfl, trivial⟩) (ih (p + -1) χ (by omega) (by omega) (fun q c k1 k2 k3 k4 => ?_) g5)
            by_cases e : q = p
            · subst e
              exact g4 c k3 (by omega)
            · exact g3 q c (by omega) k2 k3 k4
          · omega
        | succ j ihj =>
          intro d χ g1 g2 g3 g4 g5
          have u7 : χ 7 2 = φ 7 2 := g5 7 2 (by omega)
          have u8 : χ 8 = φ 8 := funext fun b => g5 8 b (by omega)
          have b1 := hle p (by omega) (by omega)
          have b2 := hle (p - d) (by omega) (by omega)
          have hn := lik_next (t := φ 8) (e := φ 7 2) (p := p) (d := d) (by omega)
          have hb := lik_bd (φ 8) (φ 7 2) 8 (p + 1) d
          rw [← u8] at b1 b2
          rw [← u8, ← u7] at hn hb
          have hlk : (if p + 1 < χ 7 2 ∧ 1 ≤ d ∧ d ≤ p + 1 then χ (10 + (p + 1)) d else 0) = lik (χ 8) (χ 7 2) 8 (p + 1) d := by
            by_cases e : p + 1 < χ 7 2
            · rw [if_pos (by omega), u8, u7]
              exact g3 (p + 1) d (by omega) (by omega) (by omega) (by omega)
            · rw [if_neg (by omega), lik_end (by omega)]
          refine j_iload_2 (n' := 14) F dX4_compare_13 rfl ?_
          refine j_iload_1 (n' := 15) F dX4_compare_14 rfl ?_
          refine j_icmp_gt (t := 78) (n' := 18) F (by omega) (by omega) dX4_compare_15 (by decide) rfl (fun c15_0 => ?_) (fun c15_0 => ?_)
          · omega
          · refine j_aload_0 (n' := 19) F dX4_compare_18 rfl ?_
            refine j_getR (n' := 22) F fl_X4_9 kap_7 rfl dX4_compare_19 rfl ?_
            refine j_iload_1 (n' := 23) F dX4_compare_22 rfl ?_
            refine j_iald (n' := 24) F kap_8 (by decide) (by omega) dX4_compare_23 rfl ?_
            refine j_aload_0 (n' := 25) F dX4_compare_24 rfl ?_
            refine j_getR (n' := 28) F fl_X4_9 kap_7 rfl dX4_compare_25 rfl ?_
            refine j_iload_1 (n' := 29) F dX4_compare_28 rfl ?_
            refine j_iload_2 (n' := 30) F dX4_compare_29 rfl ?_
            refine j_isub (n' := 31) F dX4_compare_30 rfl ?_
            refine j_iald (n' := 32) F kap_8 (by decide) (by omega) dX4_compare_31 rfl ?_
            refine j_icmp_ne (t := 39) (n' := 35) F (by omega) (by omega) dX4_compare_32 (by decide) rfl (fun c32_1 => ?_) (fun c32_1 => ?_)
            · refine j_iconst (n' := 40) F dX4_compare_39 rfl ?_
              refine j_istore_3 (n' := 41) F (by decide) jc_i dX4_compare_40 rfl ?_
              refine j_aload_0 (n' := 42) F dX4_compare_41 rfl ?_
              refine j_getR (n' := 45) F fl_X4_17 kap_7 rfl dX4_compare_42 rfl ?_
              refine j_iload_1 (n' := 46) F dX4_compare_45 rfl ?_
              refine j_aald (n' := 47) F kap_9 (by decide) (by omega) dX4_compare_46 rfl ?_
              refine j_iload_2 (n' := 48) F dX4_compare_47 rfl ?_
              refine j_iload_3 (n' := 49) F dX4_compare_48 rfl ?_
              refine j_if_eq (t := 70) (n' := 52) F (by omega) dX4_compare_49 (by decide) rfl (fun c49_2 => ?_) (fun c49_2 => ?_)
              · refine j_iconst (n' := 71) F dX4_compare_70 rfl ?_
                refine j_iast (n' := 72) F (kap_al (by omega)) (by decide) (by omega) dX4_compare_71 rfl (fun φ4 e4 => ?_)
                refine j_iinc_2 (n' := 75) F (by decide) jc_i dX4_compare_72 rfl ?_
                refine j_goto (t := 13) F dX4_compare_75 (by decide) ?_
                refine j_weak (by exact ⟨rfl, rfl, rfl, trivial⟩) (ihj (d + 1) φ4 (by omega) (by omega) (fun q c k1 k2 k3 k4 => ?_) (fun c k1 k2 => ?_) ?_)
                · rw [e4, zU_ne (by omega)]
                  exact g3 q c k1 k2 k3 k4
                · by_cases e : c = d
                  · subst e
                    rw [e4, zU_self, ← u8, ← u7, hn]
                    first | (rw [if_pos (by omega)]; done) | (rw [if_neg (by omega)]; done)
                  · rw [e4, zU_ne (by omega)]
                    exact g4 c k1 (by omega)
                · rw [e4]
                  exact g5.put (by omega)
              · refine j_bipush (n' := 54) F dX4_compare_52 (by decide) rfl ?_
                refine j_iconst (n' := 55) F dX4_compare_54 rfl ?_
                refine j_aload_0 (n' := 56) F dX4_compare_55 rfl ?_
                refine j_iload_1 (n' := 57) F dX4_compare_56 rfl ?_
                refine j_iconst (n' := 58) F dX4_compare_57 rfl ?_
                refine j_iadd (n' := 59) F dX4_compare_58 rfl ?_
                refine j_iload_2 (n' := 60) F dX4_compare_59 rfl ?_
                refine j_cV2i (n' := 63) F kl_X4_28 (c_Txt_likeness (by omega) (by omega) (by omega)) kap_7 rfl (by decide) (Nat.le_of_ble_eq_true rfl) dX4_compare_60 rfl (fun z5 φ5 h5 => ?_)
                obtain ⟨rfl, rfl⟩ := h5
                rw [hlk]
                refine j_iadd (n' := 64) F dX4_compare_63 rfl ?_
                refine j_min (n' := 67) F q_318 (by decide) (Nat.le_of_ble_eq_true rfl) (by omega) (by omega) dX4_compare_64 rfl ?_
                refine j_goto (t := 71) F dX4_compare_67 (by decide) ?_
                refine j_iast (n' := 72) F (kap_al (by omega)) (by decide) (by omega) dX4_compare_71 rfl (fun φ6 e6 => ?_)
                refine j_iinc_2 (n' := 75) F (by decide) jc_i dX4_compare_72 rfl ?_
                refine j_goto (t := 13) F dX4_compare_75 (by decide) ?_
                refine j_weak (by exact ⟨rfl, rfl, rfl, trivial⟩) (ihj (d + 1) φ6 (by omega) (by omega) (fun q c k1 k2 k3 k4 => ?_) (fun c k1 k2 => ?_) ?_)
                · rw [e6, zU_ne (by omega)]
                  exact g3 q c k1 k2 k3 k4
                · by_cases e : c = d
                  · subst e
                    rw [e6, zU_self, ← u8, ← u7, hn]
                    first | (rw [if_pos (by omega)]; done) | (rw [if_neg (by omega)]; done)
                  · rw [e6, zU_ne (by omega)]
                    exact g4 c k1 (by omega)
                · rw [e6]
                  exact g5.put (by omega)
            · refine j_iconst (n' := 36) F dX4_compare_35 rfl ?_
              refine j_goto (t := 40) F dX4_compare_36 (by decide) ?_
              refine j_istore_3 (n' := 41) F (by decide) jc_i dX4_compare_40 rfl ?_
              refine j_aload_0 (n' := 42) F dX4_compare_41 rfl ?_
              refine j_getR (n' := 45) F fl_X4_17 kap_7 rfl dX4_compare_42 rfl ?_
              refine j_iload_1 (n' := 46) F dX4_compare_45 rfl ?_
              refine j_aald (n' := 47) F kap_9 (by decide) (by omega) dX4_compare_46 rfl ?_
              refine j_iload_2 (n' := 48) F dX4_compare_47 rfl ?_
              refine j_iload_3 (n' := 49) F dX4_compare_48 rfl ?_
              refine j_if_eq (t := 70) (n' := 52) F (by omega) dX4_compare_49 (by decide) rfl (fun c49_6 => ?_) (fun c49_6 => ?_)
              · refine j_iconst (n' := 71) F dX4_compare_70 rfl ?_
                refine j_iast (n' := 72) F (kap_al (by omega)) (by decide) (by omega) dX4_compare_71 rfl (fun φ8 e8 => ?_)
                refine j_iinc_2 (n' := 75) F (by decide) jc_i dX4_compare_72 rfl ?_
                refine j_goto (t := 13) F dX4_compare_75 (by decide) ?_
                refine j_weak (by exact ⟨rfl, rfl, rfl, trivial⟩) (ihj (d + 1) φ8 (by omega) (by omega) (fun q c k1 k2 k3 k4 => ?_) (fun c k1 k2 => ?_) ?_)
                · rw [e8, zU_ne (by omega)]
                  exact g3 q c k1 k2 k3 k4
                · by_cases e : c = d
                  · subst e
                    rw [e8, zU_self, ← u8, ← u7, hn]
                    first | (rw [if_pos (by omega)]; done) | (rw [if_neg (by omega)]; done)
                  · rw [e8, zU_ne (by omega)]
                    exact g4 c k1 (by omega)
                · rw [e8]
                  exact g5.put (by omega)
              · refine j_bipush (n' := 54) F dX4_compare_52 (by decide) rfl ?_
                refine j_iconst (n' := 55) F dX4_compare_54 rfl ?_
                refine j_aload_0 (n' := 56) F dX4_compare_55 rfl ?_
                refine j_iload_1 (n' := 57) F dX4_compare_56 rfl ?_
                refine j_iconst (n' := 58) F dX4_compare_57 rfl ?_
                refine j_iadd (n' := 59) F dX4_compare_58 rfl ?_
                refine j_iload_2 (n' := 60) F dX4_compare_59 rfl ?_
                refine j_cV2i (n' := 63) F kl_X4_28 (c_Txt_likeness (by omega) (by omega) (by omega)) kap_7 rfl (by decide) (Nat.le_of_ble_eq_true rfl) dX4_compare_60 rfl (fun z9 φ9 h9 => ?_)
                obtain ⟨rfl, rfl⟩ := h9
                rw [hlk]
                refine j_iadd (n' := 64) F dX4_compare_63 rfl ?_
                refine j_min (n' := 67) F q_318 (by decide) (Nat.le_of_ble_eq_true rfl) (by omega) (by omega) dX4_compare_64 rfl ?_
                refine j_goto (t := 71) F dX4_compare_67 (by decide) ?_
                refine j_iast (n' := 72) F (kap_al (by omega)) (by decide) (by omega) dX4_compare_71 rfl (fun φ10 e10 => ?_)
                refine j_iinc_2 (n' := 75) F (by decide) jc_i dX4_compare_72 rfl ?_
                refine j_goto (t := 13) F dX4_compare_75 (by decide) ?_
                refine j_weak (by exact ⟨rfl, rfl, rfl, trivial⟩) (ihj (d + 1) φ10 (by omega) (by omega) (fun q c k1 k2 k3 k4 => ?_) (fun c k1 k2 => ?_) ?_)
                · rw [e10, zU_ne (by omega)]
                  exact g3 q c k1 k2 k3 k4
                · by_cases e : c = d
                  · subst e
                    rw [e10, zU_self, ← u8, ← u7, hn]
                    first | (rw [if_pos (by omega)]; done) | (rw [if_neg (by omega)]; done)
                  · rw [e10, zU_ne (by omega)]
                    exact g4 c k1 (by omega)
                · rw [e10]
                  exact g5.put (by omega)
      refine j_iload_1 (n' := 8) F dX4_compare_7 rfl ?_
      refine j_if_lt (t := 84) (n' := 11) F (by omega) dX4_compare_8 (by decide) rfl (fun c8_0 => ?_) (fun c8_0 => ?_)
      · omega
      · refine j_iconst (n' := 12) F dX4_compare_11 rfl ?_
        refine j_istore_2 (n' := 13) F (by decide) jc_i dX4_compare_12 rfl ?_
        exact inner (p - 0).toNat 1 ψ (by omega) (by omega) h3 (fun c k1 k2 => by omega) h4
  refine j_aload_0 (n' := 1) F dX4_compare_0 rfl ?_
  refine j_getI (n' := 4) F 2 rfl fl_X4_20 kap_7 rfl dX4_compare_1 rfl ?_
  refine j_iconst (n' := 5) F dX4_compare_4 rfl ?_
  refine j_isub (n' := 6) F dX4_compare_5 rfl ?_
  refine j_istore_1 (n' := 7) F (by decide) jc_r dX4_compare_6 rfl ?_
  exact outer (φ 7 2).toNat (φ 7 2 - 1) φ (by omega) (by omega) (fun q d k1 k2 => by omega) frC.rf
set_option maxRecDepth 20000 in
theorem c_Txt_longestDistance {l : Launch} {G : jG} {B0 : Nat} {φ : jPhi} {x : Int} (hs : 0 ≤ φ 7 2 ∧ φ 7 2 ≤ 24) (hal : alOk φ) (hx : 0 ≤ x ∧ x < φ 7 2) : jC l G B0 κF 113 yX4_longestDistance cX4_longestDistance 6 (some .int) 1 [rf B0 7, iv x] φ mkI (fun z φ' => φ = φ' ∧ z = (farOf' (lik (φ 8) (φ 7 2) 8 x) x).1) := by
  refine jC_start RX4 [some (rf B0 7), some (iv x), none, none, none, none] (by decide) rfl (Nat.le_of_ble_eq_true rfl) rfl (fun X Q F E => ?_)
  have hlk : ∀ d, 1 ≤ d → d ≤ x → (if x < φ 7 2 ∧ 1 ≤ d ∧ d ≤ x then φ (10 + x) d else 0) = lik (φ 8) (φ 7 2) 8 x d := fun d h1 h2 => by
    rw [if_pos (by omega)]
    exact hal x d h1 h2 (by omega)
  have loop : ∀ (m : Nat) (d b n : Int), d + m = x + 1 → 1 ≤ d → 0 ≤ n → n ≤ 8 → (lpI (farS (lik (φ 8) (φ 7 2) 8 x)) d (x + 1) (b, n)).1 = (farOf' (lik (φ 8) (φ 7 2) 8 x) x).1 → jJ X G B0 κF 113 0 0 Q 6 φ 7 [some (rf B0 7), some (iv x), some (iv b), some (iv n), some (iv d), none] [] := by
    intro m
    induction m with
    | zero =>
      intro d b n h1 h2 h3 h4 h5
      rw [lpI_end (by omega)] at h5
      refine j_aload_0 (n' := 8) F dX4_longestDistance_7 rfl ?_
      refine j_iload_1 (n' := 9) F dX4_longestDistance_8 rfl ?_
      refine j_cV1i (n' := 12) F kl_X4_24 (c_Txt_has hs (by omega)) kap_7 rfl (by decide) (Nat.le_of_ble_eq_true rfl) dX4_longestDistance_9 rfl (fun z1 φ1 h1 => ?_)
      obtain ⟨rfl, rfl⟩ := h1
      refine j_if_eq (t := 48) (n' := 15) F (by first | omega | (split <;> omega)) dX4_longestDistance_12 (by decide) rfl (fun c12_1 => ?_) (fun c12_1 => ?_)
      · refine j_iload_2 (n' := 49) F dX4_longestDistance_48 rfl ?_
        exact j_ireturn F E dX4_longestDistance_49 (⟨rfl, h5⟩)
      · refine j_iload_4 (n' := 17) F dX4_longestDistance_15 rfl ?_
        refine j_iload_1 (n' := 18) F dX4_longestDistance_17 rfl ?_
        refine j_icmp_gt (t := 48) (n' := 21) F (by first | omega | (split <;> omega)) (by first | omega | (split <;> omega)) dX4_longestDistance_18 (by decide) rfl (fun c18_2 => ?_) (fun c18_2 => ?_)
        · refine j_iload_2 (n' := 49) F dX4_longestDistance_48 rfl ?_
          exact j_ireturn F E dX4_longestDistance_49 (⟨rfl, h5⟩)
        · omega
    | succ m ih =>
      intro d b n h1 h2 h3 h4 h5
      have hb := lik_bd (φ 8) (φ 7 2) 8 x d
      rw [lpI_step (by omega), farS] at h5
      refine j_aload_0 (n' := 8) F dX4_longestDistance_7 rfl ?_
      refine j_iload_1 (n' := 9) F dX4_longestDistance_8 rfl ?_
      refine j_cV1i (n' := 12) F kl_X4_24 (c_Txt_has hs (by omega)) kap_7 rfl (by decide) (Nat.le_of_ble_eq_true rfl) dX4_longestDistance_9 rfl (fun z1 φ1 h1 => ?_)
      obtain ⟨rfl, rfl⟩ := h1
      refine j_if_eq (t := 48) (n' := 15) F (by first | omega | (split <;> omega)) dX4_longestDistance_12 (by decide) rfl (fun c12_1 => ?_) (fun c12_1 => ?_)
      · first | omega | (rw [if_pos (by omega)] at *; omega)
      · refine j_iload_4 (n' := 17) F dX4_longestDistance_15 rfl ?_
        refine j_iload_1 (n' := 18) F dX4_longestDistance_17 rfl ?_
        refine j_icmp_gt (t := 48) (n' := 21) F (by first | omega | (split <;> omega)) (by first | omega | (split <;> omega)) dX4_longestDistance_18 (by decide) rfl (fun c18_2 => ?_) (fun c18_2 => ?_)
        · first | omega | (rw [if_pos (by omega)] at *; omega)
        · refine j_aload_0 (n' := 22) F dX4_longestDistance_21 rfl ?_
          refine j_iload_1 (n' := 23) F dX4_longestDistance_22 rfl ?_
          refine j_iload_4 (n' := 25) F dX4_longestDistance_23 rfl ?_
          refine j_cV2i (n' := 28) F kl_X4_28 (c_Txt_likeness hs (by omega) (by omega)) kap_7 rfl (by decide) (Nat.le_of_ble_eq_true rfl) dX4_longestDistance_25 rfl (fun z4 φ4 h4 => ?_)
          obtain ⟨rfl, rfl⟩ := h4
          rw [hlk d (by omega) (by omega)]
          refine j_istore_5 (n' := 30) F (by decide) jc_i dX4_longestDistance_28 rfl ?_
          refine j_iload_5 (n' := 32) F dX4_longestDistance_30 rfl ?_
          refine j_iload_3 (n' := 33) F dX4_longestDistance_32 rfl ?_
          refine j_icmp_le (t := 42) (n' := 36) F (by first | omega | (split <;> omega)) (by first | omega | (split <;> omega)) dX4_longestDistance_33 (by decide) rfl (fun c33_4 => ?_) (fun c33_4 => ?_)
          · refine j_iinc_4 (n' := 45) F (by decide) jc_i dX4_longestDistance_42 rfl ?_
            refine j_goto (t := 7) F dX4_longestDistance_45 (by decide) ?_
            first
              | exact j_weak (by exact ⟨rfl, rfl, rfl, rfl, rfl, trivial⟩) (ih (d + 1) d (lik (φ 8) (φ 7 2) 8 x d) (by omega) (by omega) (by omega) (by omega) (by rw [if_pos (by omega)] at h5; exact h5))
              | exact j_weak (by exact ⟨rfl, rfl, rfl, rfl, rfl, trivial⟩) (ih (d + 1) b n (by omega) (by omega) (by omega) (by omega) (by rw [if_neg (by omega)] at h5; exact h5))
          · refine j_iload_5 (n' := 38) F dX4_longestDistance_36 rfl ?_
            refine j_istore_3 (n' := 39) F (by decide) jc_i dX4_longestDistance_38 rfl ?_
            refine j_iload_4 (n' := 41) F dX4_longestDistance_39 rfl ?_
            refine j_istore_2 (n' := 42) F (by decide) jc_i dX4_longestDistance_41 rfl ?_
            refine j_iinc_4 (n' := 45) F (by decide) jc_i dX4_longestDistance_42 rfl ?_
            refine j_goto (t := 7) F dX4_longestDistance_45 (by decide) ?_
            first
              | exact j_weak (by exact ⟨rfl, rfl, rfl, rfl, rfl, trivial⟩) (ih (d + 1) d (lik (φ 8) (φ 7 2) 8 x d) (by omega) (by omega) (by omega) (by omega) (by rw [if_pos (by omega)] at h5; exact h5))
              | exact j_weak (by exact ⟨rfl, rfl, rfl, rfl, rfl, trivial⟩) (ih (d + 1) b n (by omega) (by omega) (by omega) (by omega) (by rw [if_neg (by omega)] at h5; exact h5))
  refine j_iconst (n' := 1) F dX4_longestDistance_0 rfl ?_
  refine j_istore_2 (n' := 2) F (by decide) jc_i dX4_longestDistance_1 rfl ?_
  refine j_iconst (n' := 3) F dX4_longestDistance_2 rfl ?_
  refine j_istore_3 (n' := 4) F (by decide) jc_i dX4_longestDistance_3 rfl ?_
  refine j_iconst (n' := 5) F dX4_longestDistance_4 rfl ?_
  refine j_istore_4 (n' := 7) F (by decide) jc_i dX4_longestDistance_5 rfl ?_
  exact loop x.toNat 1 0 1 (by omega) (by omega) (by omega) (by omega) rfl
set_option maxRecDepth 20000 in
theorem c_Txt_chainPlace {l : Launch} {G : jG} {B0 : Nat} {φ : jPhi} {x k : Int} (hs : 0 ≤ φ 7 2 ∧ φ 7 2 ≤ 24) (hal : alOk φ) (hx : 0 ≤ x ∧ x < φ 7 2) (hk : -2147483648 ≤ k ∧ k ≤ 2147483647) : jC l G B0 κF 113 yX4_chainPlace cX4_chainPlace 5 (some .int) 1 [rf B0 7, iv x, iv k] φ mkI (fun z φ' => φ = φ' ∧ z = chF (lik (φ 8) (φ 7 2) 8 x) x 25 1 k) := by
  refine jC_start RX4 [some (rf B0 7), some (iv x), some (iv k), none, none] (by decide) rfl (Nat.le_of_ble_eq_true rfl) rfl (fun X Q F E => ?_)
  have hlk : ∀ d, 1 ≤ d → d ≤ x → (if x < φ 7 2 ∧ 1 ≤ d ∧ d ≤ x then φ (10 + x) d else 0) = lik (φ 8) (φ 7 2) 8 x d := fun d h1 h2 => by
    rw [if_pos (by omega)]
    exact hal x d h1 h2 (by omega)
  have loop : ∀ (m : Nat) (d n : Int), d + m = 26 → 1 ≤ d → d ≤ x + 1 → 0 ≤ n → n < d → chF (lik (φ 8) (φ 7 2) 8 x) x m d (k - n) = chF (lik (φ 8) (φ 7 2) 8 x) x 25 1 k → jJ X G B0 κF 113 0 0 Q 5 φ 5 [some (rf B0 7), some (iv x), some (iv k), some (iv n), some (iv d)] [] := by
    intro m
    induction m with
    | zero =>
      intro d n h1 h2 h3 h4 h5
      omega
    | succ m ih =>
      intro d n h1 h2 h3 h4 h5 h6
      have hb := lik_bd (φ 8) (φ 7 2) 8 x d
      rw [chF] at h6
      refine j_aload_0 (n' := 6) F dX4_chainPlace_5 rfl ?_
      refine j_iload_1 (n' := 7) F dX4_chainPlace_6 rfl ?_
      refine j_cV1i (n' := 10) F kl_X4_24 (c_Txt_has hs (by omega)) kap_7 rfl (by decide) (Nat.le_of_ble_eq_true rfl) dX4_chainPlace_7 rfl (fun z1 φ1 h1 => ?_)
      obtain ⟨rfl, rfl⟩ := h1
      refine j_if_eq (t := 49) (n' := 13) F (by first | omega | (split <;> omega)) dX4_chainPlace_10 (by decide) rfl (fun c10_1 => ?_) (fun c10_1 => ?_)
      · refine j_iconst (n' := 50) F dX4_chainPlace_49 rfl ?_
        exact j_ireturn F E dX4_chainPlace_50 (⟨rfl, by first | (rw [if_neg (by omega)] at h6; exact h6) | (rw [if_pos (by omega)] at *; omega) | omega⟩)
      · refine j_iload_4 (n' := 15) F dX4_chainPlace_13 rfl ?_
        refine j_iload_1 (n' := 16) F dX4_chainPlace_15 rfl ?_
        refine j_icmp_gt (t := 49) (n' := 19) F (by first | omega | (split <;> omega)) (by first | omega | (split <;> omega)) dX4_chainPlace_16 (by decide) rfl (fun c16_2 => ?_) (fun c16_2 => ?_)
        · refine j_iconst (n' := 50) F dX4_chainPlace_49 rfl ?_
          exact j_ireturn F E dX4_chainPlace_50 (⟨rfl, by first | (rw [if_neg (by omega)] at h6; exact h6) | (rw [if_pos (by omega)] at *; omega) | omega⟩)
        · refine j_aload_0 (n' := 20) F dX4_chainPlace_19 rfl ?_
          refine j_iload_1 (n' := 21) F dX4_chainPlace_20 rfl ?_
          refine j_iload_4 (n' := 23) F dX4_chainPlace_21 rfl ?_
          refine j_cV2i (n' := 26) F kl_X4_28 (c_Txt_likeness hs (by omega) (by omega)) kap_7 rfl (by decide) (Nat.le_of_ble_eq_true rfl) dX4_chainPlace_23 rfl (fun z4 φ4 h4 => ?_)
          obtain ⟨rfl, rfl⟩ := h4
          rw [hlk d (by omega) (by omega)]
          refine j_iconst (n' := 27) F dX4_chainPlace_26 rfl ?_
          refine j_icmp_lt (t := 43) (n' := 30) F (by first | omega | (split <;> omega)) (by first | omega | (split <;> omega)) dX4_chainPlace_27 (by decide) rfl (fun c27_4 => ?_) (fun c27_4 => ?_)
          · refine j_iinc_4 (n' := 46) F (by decide) jc_i dX4_chainPlace_43 rfl ?_
            refine j_goto (t := 5) F dX4_chainPlace_46 (by decide) ?_
            first
              | exact ih (d + 1) (n + 1) (by omega) (by omega) (by omega) (by omega) (by omega) (by rw [if_pos (by omega), if_pos (by omega), if_neg (by omega)] at h6; rw [← h6]; congr 1; omega)
              | exact ih (d + 1) n (by omega) (by omega) (by omega) (by omega) (by omega) (by rw [if_pos (by omega), if_neg (by omega)] at h6; exact h6)
          · refine j_iload_3 (n' := 31) F dX4_chainPlace_30 rfl ?_
            refine j_iload_2 (n' := 32) F dX4_chainPlace_31 rfl ?_
            refine j_icmp_ne (t := 40) (n' := 35) F (by first | omega | (split <;> omega)) (by first | omega | (split <;> omega)) dX4_chainPlace_32 (by decide) rfl (fun c32_5 => ?_) (fun c32_5 => ?_)
            · refine j_iinc_3 (n' := 43) F (by decide) jc_i dX4_chainPlace_40 rfl ?_
              refine j_iinc_4 (n' := 46) F (by decide) jc_i dX4_chainPlace_43 rfl ?_
              refine j_goto (t := 5) F dX4_chainPlace_46 (by decide) ?_
              first
                | exact ih (d + 1) (n + 1) (by omega) (by omega) (by omega) (by omega) (by omega) (by rw [if_pos (by omega), if_pos (by omega), if_neg (by omega)] at h6; rw [← h6]; congr 1; omega)
                | exact ih (d + 1) n (by omega) (by omega) (by omega) (by omega) (by omega) (by rw [if_pos (by omega), if_neg (by omega)] at h6; exact h6)
            · refine j_iload_1 (n' := 36) F dX4_chainPlace_35 rfl ?_
              refine j_iload_4 (n' := 38) F dX4_chainPlace_36 rfl ?_
              refine j_isub (n' := 39) F dX4_chainPlace_38 rfl ?_
              exact j_ireturn F E dX4_chainPlace_39 (⟨rfl, by rw [if_pos (by omega), if_pos (by omega), if_pos (by omega)] at h6; exact h6⟩)
  refine j_iconst (n' := 1) F dX4_chainPlace_0 rfl ?_
  refine j_istore_3 (n' := 2) F (by decide) jc_i dX4_chainPlace_1 rfl ?_
  refine j_iconst (n' := 3) F dX4_chainPlace_2 rfl ?_
  refine j_istore_4 (n' := 5) F (by decide) jc_i dX4_chainPlace_3 rfl ?_
  exact loop 25 1 0 (by omega) (by omega) (by omega) (by omega) (by omega) (by rw [Int.sub_zero])
end
section
theorem zU_inc (φ : jPhi) (w x b : Int) : zU φ w x (φ w x + 1) w b = φ w b + if b = x then 1 else 0 := by
  unfold zU
  by_cases h : b = x
  · subst h; simp
  · simp [h]
set_option maxRecDepth 20000 in
theorem c_Pri_take {l : Launch} {G : jG} {B0 : Nat} {φ : jPhi} {o v w : Int} {o2 v2 w2 : Int} (hk : κF o = some (.inl (3, [.inl v, .inl w]))) (hv : κF v = some (.inr (.inl 18))) (hk2 : κF o2 = some (.inl (3, [.inl v2, .inl w2]))) (hv2 : κF v2 = some (.inr (.inl 18))) (hne : v2 ≠ v) : jC l G B0 κF 113 yX3_take cX3_take 3 none 1 [rf B0 o, rf B0 o2] φ mkV (fun z φ' => (∀ b, φ' v b = if 0 ≤ b ∧ b < 18 then φ v2 b else φ v b) ∧ frC (fun a => a = v) φ φ') := by
  refine jC_start RX3 [some (rf B0 o), some (rf B0 o2), none] (by decide) rfl (Nat.le_of_ble_eq_true rfl) rfl (fun X Q F E => ?_)
  have loop : ∀ (m : Nat) (i : Int) (ψ : jPhi), i + m = 18 → 0 ≤ i → (∀ b, ψ v b = if 0 ≤ b ∧ b < i then φ v2 b else φ v b) → frC (fun a => a = v) φ ψ → jJ X G B0 κF 113 0 0 Q 3 ψ 2 [some (rf B0 o), some (rf B0 o2), some (iv i)] [] := by
    intro m
    induction m with
    | zero =>
      intro i ψ h1 h2 h3 h4
      refine j_iload_2 (n' := 3) F dX3_take_2 rfl ?_
      refine j_bipush (n' := 5) F dX3_take_3 (by decide) rfl ?_
      refine j_icmp_ge (t := 25) (n' := 8) F (by omega) (by omega) dX3_take_5 (by decide) rfl (fun c5_0 => ?_) (fun c5_0 => ?_)
      · exact j_return F E dX3_take_25 (⟨fun b => by rw [h3, show i = 18 by omega], h4⟩)
      · omega
    | succ m ih =>
      intro i ψ h1 h2 h3 h4
      refine j_iload_2 (n' := 3) F dX3_take_2 rfl ?_
      refine j_bipush (n' := 5) F dX3_take_3 (by decide) rfl ?_
      refine j_icmp_ge (t := 25) (n' := 8) F (by omega) (by omega) dX3_take_5 (by decide) rfl (fun c5_0 => ?_) (fun c5_0 => ?_)
      · omega
      · refine j_aload_0 (n' := 9) F dX3_take_8 rfl ?_
        refine j_getR (n' := 12) F fl_X3_18 hk rfl dX3_take_9 rfl ?_
        refine j_iload_2 (n' := 13) F dX3_take_12 rfl ?_
        refine j_aload_1 (n' := 14) F dX3_take_13 rfl ?_
        refine j_iload_2 (n' := 15) F dX3_take_14 rfl ?_
        refine j_cV1i (n' := 18) F kl_X3_30 (c_Pri_get hk2 hv2 (by omega)) hk2 rfl (by decide) (Nat.le_of_ble_eq_true rfl) dX3_take_15 rfl (fun z2 φ2 h2 => ?_)
        obtain ⟨rfl, rfl⟩ := h2
        refine j_iast (n' := 19) F hv (by decide) (by omega) dX3_take_18 rfl (fun φ3 e3 => ?_)
        refine j_iinc_2 (n' := 22) F (by decide) jc_r dX3_take_19 rfl ?_
        refine j_goto (t := 2) F dX3_take_22 (by decide) ?_
        refine ih (i + 1) φ3 (by omega) (by omega) (fun b => ?_) (by rw [e3]; exact h4.put rfl)
        by_cases q : b = i
        · subst q
          rw [e3, zU_self, if_pos (by omega), pget, if_pos (by omega)]
          exact h4 v2 b hne
        · rw [e3, zU_ne (by omega), h3]
          by_cases q2 : 0 ≤ b ∧ b < i
          · rw [if_pos q2, if_pos (by omega)]
          · rw [if_neg q2, if_neg (by omega)]
  refine j_iconst (n' := 1) F dX3_take_0 rfl ?_
  refine j_istore_2 (n' := 2) F (by decide) jc_r dX3_take_1 rfl ?_
  exact loop 18 0 φ (by omega) (by omega) (fun b => by rw [if_neg (by omega)]) frC.rf
set_option maxRecDepth 20000 in
theorem c_Pri_countOne {l : Launch} {G : jG} {B0 : Nat} {φ : jPhi} {o v w : Int} {x : Int} (hk : κF o = some (.inl (3, [.inl v, .inl w]))) (hw : κF w = some (.inr (.inl 18))) (hx : 0 ≤ x ∧ x < 18) : jC l G B0 κF 113 yX3_countOne cX3_countOne 2 none 1 [rf B0 o, iv x] φ mkV (fun z φ' => φ' = zU φ w x (φ w x + 1)) := by
  refine jC_start RX3 [some (rf B0 o), some (iv x)] (by decide) rfl (Nat.le_of_ble_eq_true rfl) rfl (fun X Q F E => ?_)
  refine j_iload_1 (n' := 1) F dX3_countOne_0 rfl ?_
  refine j_cN1i (n' := 4) F kl_X3_26 (c_Cla_isPrice (by omega)) (by decide) (Nat.le_of_ble_eq_true rfl) dX3_countOne_1 rfl (fun z1 φ1 h1 => ?_)
  obtain ⟨rfl, rfl⟩ := h1
  refine j_if_eq (t := 17) (n' := 7) F (by first | omega | (split <;> omega)) dX3_countOne_4 (by decide) rfl (fun c4_1 => ?_) (fun c4_1 => ?_)
  · exact j_return F E dX3_countOne_17 (by rw [if_pos (by omega)] at *; omega)
  · refine j_aload_0 (n' := 8) F dX3_countOne_7 rfl ?_
    refine j_getR (n' := 11) F fl_X3_23 hk rfl dX3_countOne_8 rfl ?_
    refine j_iload_1 (n' := 12) F dX3_countOne_11 rfl ?_
    refine j_dup2 (n' := 13) F rfl rfl dX3_countOne_12 rfl ?_
    refine j_iald (n' := 14) F hw (by decide) (by first | omega | (split <;> omega)) dX3_countOne_13 rfl ?_
    refine j_iconst (n' := 15) F dX3_countOne_14 rfl ?_
    refine j_iadd (n' := 16) F dX3_countOne_15 rfl ?_
    refine j_iast (n' := 17) F hw (by decide) (by first | omega | (split <;> omega)) dX3_countOne_16 rfl (fun φ3 e3 => ?_)
    exact j_return F E dX3_countOne_17 (e3)
set_option maxRecDepth 20000 in
theorem c_Pri_countTaken {l : Launch} {G : jG} {B0 : Nat} {φ : jPhi} {o v w : Int} {o2 r2 : Int} {ts : List Int} (hk : κF o = some (.inl (3, [.inl v, .inl w]))) (hw : κF w = some (.inr (.inl 18))) (hk2 : κF o2 = some (.inl (5, [.inl r2, .inr 0, .inr 0, .inr 0]))) (hr2 : κF r2 = some (.inr (.inl 24))) (ho : o2 ≠ w) (hr : r2 ≠ w) (ht : rowIs φ o2 r2 ts) (hl : ts.length ≤ 24) (hok : rwOk ts) : jC l G B0 κF 113 yX3_countTaken cX3_countTaken 4 none 2 [rf B0 o, rf B0 o2] φ mkV (fun z φ' => (∀ b, φ' w b = if 0 ≤ b ∧ b < 18 then tak ts b else φ w b) ∧ frC (fun a => a = w) φ φ') := by
  refine jC_start RX3 [some (rf B0 o), some (rf B0 o2), none, none] (by decide) rfl (Nat.le_of_ble_eq_true rfl) rfl (fun X Q F E => ?_)
  have l2 : ∀ (m k : Nat) (ψ : jPhi), k + m = ts.length → (∀ b, 0 ≤ b → b < 18 → ψ w b + rwSum (fun x => tkTk x b) (ts.drop k) = tak ts b) → (∀ b, ¬ (0 ≤ b ∧ b < 18) → ψ w b = φ w b) → frC (fun a => a = w) φ ψ → jJ X G B0 κF 113 0 0 Q 4 ψ 23 [some (rf B0 o), some (rf B0 o2), some (iv (k : Int)), none] [] := by
    intro m
    induction m with
    | zero =>
      intro k ψ h1 h2 h3 h4
      have u1 : ψ o2 1 = ts.length := (h4 o2 1 ho).trans ht.1
      rw [List.drop_eq_nil_of_le (by omega)] at h2
      refine j_iload_2 (n' := 24) F dX3_countTaken_23 rfl ?_
      refine j_aload_1 (n' := 25) F dX3_countTaken_24 rfl ?_
      refine j_cV0i (n' := 28) F kl_X3_51 (c_Row_size hk2) hk2 rfl (by decide) (Nat.le_of_ble_eq_true rfl) dX3_countTaken_25 rfl (fun z1 φ1 h1 => ?_)
      obtain ⟨rfl, rfl⟩ := h1
      refine j_icmp_ge (t := 108) (n' := 31) F (by omega) (by omega) dX3_countTaken_28 (by decide) rfl (fun c28_1 => ?_) (fun c28_1 => ?_)
      · refine j_return F E dX3_countTaken_108 ?_
        refine ⟨fun b => ?_, h4⟩
        split
        · rename_i q
          have := h2 b q.1 q.2
          simpa [rwSum] using this
        · rename_i q
          exact h3 b q
      · omega
    | succ m ih =>
      intro k ψ h1 h2 h3 h4
      have u1 : ψ o2 1 = ts.length := (h4 o2 1 ho).trans ht.1
      have u2 : ψ r2 k = ts.getD k 0 := (h4 r2 k hr).trans (ht.2.2.2 k (by omega))
      have hx := hok _ (rw_mem (ts := ts) (k := k) (by omega))
      have hlg := zlog_bd 7 (tkDist (ts.getD k 0))
      have h2 : ∀ b, 0 ≤ b → b < 18 → ψ w b + (tkTk (ts.getD k 0) b + rwSum (fun x => tkTk x b) (ts.drop (k + 1))) = tak ts b := fun b q1 q2 => by
        have := h2 b q1 q2
        rw [rwSum_drop (by omega)] at this
        exact this
      generalize ts.getD k 0 = x at *
      unfold tkOk at hx
      have hlen : (100 ≤ x → 2 ≤ tkLen x ∧ tkLen x ≤ 8) ∧ 0 ≤ tkLen x ∧ tkLen x ≤ 9 := by unfold tkLen; split <;> omega
      have hdi : 0 ≤ tkDist x ∧ tkDist x ≤ 24 ∧ (1000 ≤ x → 1 ≤ tkDist x) := by unfold tkDist; split <;> omega
      have hlg2 : zlog 7 (tkDist x) ≤ 7 := hlg.2
      refine j_iload_2 (n' := 24) F dX3_countTaken_23 rfl ?_
      refine j_aload_1 (n' := 25) F dX3_countTaken_24 rfl ?_
      refine j_cV0i (n' := 28) F kl_X3_51 (c_Row_size hk2) hk2 rfl (by decide) (Nat.le_of_ble_eq_true rfl) dX3_countTaken_25 rfl (fun z1 φ1 h1 => ?_)
      obtain ⟨rfl, rfl⟩ := h1
      refine j_icmp_ge (t := 108) (n' := 31) F (by first | omega | (split <;> omega)) (by first | omega | (split <;> omega)) dX3_countTaken_28 (by decide) rfl (fun c28_1 => ?_) (fun c28_1 => ?_)
      · omega
      · refine j_aload_1 (n' := 32) F dX3_countTaken_31 rfl ?_
        refine j_iload_2 (n' := 33) F dX3_countTaken_32 rfl ?_
        refine j_cV1i (n' := 36) F kl_X3_57 (c_Row_get hk2 hr2 (by omega) (by omega)) hk2 rfl (by decide) (Nat.le_of_ble_eq_true rfl) dX3_countTaken_33 rfl (fun z3 φ3 h3 => ?_)
        obtain ⟨rfl, rfl⟩ := h3
        rw [if_pos (by omega), u2]
        refine j_istore_3 (n' := 37) F (by decide) jc_i dX3_countTaken_36 rfl ?_
        refine j_iload_3 (n' := 38) F dX3_countTaken_37 rfl ?_
        refine j_cS1i (n' := 41) F kl_X3_34 (c_Tok_isPlain (by omega)) (by decide) (Nat.le_of_ble_eq_true rfl) dX3_countTaken_38 rfl (fun z4 φ4 h4 => ?_)
        obtain ⟨rfl, rfl⟩ := h4
        refine j_if_eq (t := 52) (n' := 44) F (by first | omega | (split <;> omega)) dX3_countTaken_41 (by decide) rfl (fun c41_4 => ?_) (fun c41_4 => ?_)
        · refine j_aload_0 (n' := 53) F dX3_countTaken_52 rfl ?_
          refine j_bipush (n' := 55) F dX3_countTaken_53 (by decide) rfl ?_
          refine j_iload_3 (n' := 56) F dX3_countTaken_55 rfl ?_
          refine j_cS1i (n' := 59) F kl_X3_39 (c_Tok_lengthOf (by omega)) (by decide) (Nat.le_of_ble_eq_true rfl) dX3_countTaken_56 rfl (fun z6 φ6 h6 => ?_)
          obtain ⟨rfl, rfl⟩ := h6
          refine j_iadd (n' := 60) F dX3_countTaken_59 rfl ?_
          refine j_iconst (n' := 61) F dX3_countTaken_60 rfl ?_
          refine j_isub (n' := 62) F dX3_countTaken_61 rfl ?_
          refine j_cV1v (n' := 65) F kl_X3_84 (c_Pri_countOne hk hw (by first | omega | (split <;> omega))) hk rfl (by decide) (Nat.le_of_ble_eq_true rfl) dX3_countTaken_62 rfl (fun z7 φ7 h7 => ?_)
          skip
          refine j_aload_0 (n' := 66) F dX3_countTaken_65 rfl ?_
          refine j_iload_3 (n' := 67) F dX3_countTaken_66 rfl ?_
          refine j_cS1i (n' := 70) F kl_X3_42 (c_Tok_isCopy (by omega)) (by decide) (Nat.le_of_ble_eq_true rfl) dX3_countTaken_67 rfl (fun z8 φ8 h8 => ?_)
          obtain ⟨rfl, rfl⟩ := h8
          refine j_if_eq (t := 77) (n' := 73) F (by first | omega | (split <;> omega)) dX3_countTaken_70 (by decide) rfl (fun c70_8 => ?_) (fun c70_8 => ?_)
          · refine j_bipush (n' := 79) F dX3_countTaken_77 (by decide) rfl ?_
            refine j_cV1v (n' := 82) F kl_X3_84 (c_Pri_countOne hk hw (by first | omega | (split <;> omega))) hk rfl (by decide) (Nat.le_of_ble_eq_true rfl) dX3_countTaken_79 rfl (fun z10 φ10 h10 => ?_)
            skip
            refine j_iload_3 (n' := 83) F dX3_countTaken_82 rfl ?_
            refine j_cS1i (n' := 86) F kl_X3_42 (c_Tok_isCopy (by omega)) (by decide) (Nat.le_of_ble_eq_true rfl) dX3_countTaken_83 rfl (fun z11 φ11 h11 => ?_)
            obtain ⟨rfl, rfl⟩ := h11
            refine j_if_eq (t := 102) (n' := 89) F (by first | omega | (split <;> omega)) dX3_countTaken_86 (by decide) rfl (fun c86_11 => ?_) (fun c86_11 => ?_)
            · refine j_iinc_2 (n' := 105) F (by decide) jc_r dX3_countTaken_102 rfl ?_
              refine j_goto (t := 23) F dX3_countTaken_105 (by decide) ?_
              refine j_weak (by exact ⟨rfl, rfl, rfl, trivial⟩) (ih (k + 1) φ10 (by omega) (fun b q1 q2 => ?_) (fun b q => ?_) ?_)
              · have g := h2 b q1 q2
                generalize rwSum (fun x => tkTk x b) (ts.drop (k + 1)) = sm at g ⊢
                unfold tkTk at g
                rw [h10, zU_inc, h7, zU_inc]
                repeat (first | omega | split at g | split)
              · rw [h10, zU_inc, h7, zU_inc]
                have g := h3 b q
                repeat (first | omega | split)
              · rw [h10, h7]
                exact ((h4.put rfl).put rfl)
            · refine j_aload_0 (n' := 90) F dX3_countTaken_89 rfl ?_
              refine j_iconst (n' := 91) F dX3_countTaken_90 rfl ?_
              refine j_iload_3 (n' := 92) F dX3_countTaken_91 rfl ?_
              refine j_cS1i (n' := 95) F kl_X3_45 (c_Tok_distanceOf (by omega)) (by decide) (Nat.le_of_ble_eq_true rfl) dX3_countTaken_92 rfl (fun z13 φ13 h13 => ?_)
              obtain ⟨rfl, rfl⟩ := h13
              refine j_cN1i (n' := 98) F kl_X3_48 (c_Cla_log (by omega)) (by decide) (Nat.le_of_ble_eq_true rfl) dX3_countTaken_95 rfl (fun z14 φ14 h14 => ?_)
              obtain ⟨rfl, rfl⟩ := h14
              refine j_iadd (n' := 99) F dX3_countTaken_98 rfl ?_
              refine j_cV1v (n' := 102) F kl_X3_84 (c_Pri_countOne hk hw (by first | omega | (split <;> omega))) hk rfl (by decide) (Nat.le_of_ble_eq_true rfl) dX3_countTaken_99 rfl (fun z15 φ15 h15 => ?_)
              skip
              refine j_iinc_2 (n' := 105) F (by decide) jc_r dX3_countTaken_102 rfl ?_
              refine j_goto (t := 23) F dX3_countTaken_105 (by decide) ?_
              refine j_weak (by exact ⟨rfl, rfl, rfl, trivial⟩) (ih (k + 1) φ15 (by omega) (fun b q1 q2 => ?_) (fun b q => ?_) ?_)
              · have g := h2 b q1 q2
                generalize rwSum (fun x => tkTk x b) (ts.drop (k + 1)) = sm at g ⊢
                unfold tkTk at g
                rw [h15, zU_inc, h10, zU_inc, h7, zU_inc]
                repeat (first | omega | split at g | split)
              · rw [h15, zU_inc, h10, zU_inc, h7, zU_inc]
                have g := h3 b q
                repeat (first | omega | split)
              · rw [h15, h10, h7]
                exact (((h4.put rfl).put rfl).put rfl)
          · refine j_iconst (n' := 74) F dX3_countTaken_73 rfl ?_
            refine j_goto (t := 79) F dX3_countTaken_74 (by decide) ?_
            refine j_cV1v (n' := 82) F kl_X3_84 (c_Pri_countOne hk hw (by first | omega | (split <;> omega))) hk rfl (by decide) (Nat.le_of_ble_eq_true rfl) dX3_countTaken_79 rfl (fun z16 φ16 h16 => ?_)
            skip
            refine j_iload_3 (n' := 83) F dX3_countTaken_82 rfl ?_
            refine j_cS1i (n' := 86) F kl_X3_42 (c_Tok_isCopy (by omega)) (by decide) (Nat.le_of_ble_eq_true rfl) dX3_countTaken_83 rfl (fun z17 φ17 h17 => ?_)
            obtain ⟨rfl, rfl⟩ := h17
            refine j_if_eq (t := 102) (n' := 89) F (by first | omega | (split <;> omega)) dX3_countTaken_86 (by decide) rfl (fun c86_17 => ?_) (fun c86_17 => ?_)
            · refine j_iinc_2 (n' := 105) F (by decide) jc_r dX3_countTaken_102 rfl ?_
              refine j_goto (t := 23) F dX3_countTaken_105 (by decide) ?_
              refine j_weak (by exact ⟨rfl, rfl, rfl, trivial⟩) (ih (k + 1) φ16 (by omega) (fun b q1 q2 => ?_) (fun b q => ?_) ?_)
              · have g := h2 b q1 q2
                generalize rwSum (fun x => tkTk x b) (ts.drop (k + 1)) = sm at g ⊢
                unfold tkTk at g
                rw [h16, zU_inc, h7, zU_inc]
                repeat (first | omega | split at g | split)
              · rw [h16, zU_inc, h7, zU_inc]
                have g := h3 b q
                repeat (first | omega | split)
              · rw [h16, h7]
                exact ((h4.put rfl).put rfl)
            · refine j_aload_0 (n' := 90) F dX3_countTaken_89 rfl ?_
              refine j_iconst (n' := 91) F dX3_countTaken_90 rfl ?_
              refine j_iload_3 (n' := 92) F dX3_countTaken_91 rfl ?_
              refine j_cS1i (n' := 95) F kl_X3_45 (c_Tok_distanceOf (by omega)) (by decide) (Nat.le_of_ble_eq_true rfl) dX3_countTaken_92 rfl (fun z19 φ19 h19 => ?_)
              obtain ⟨rfl, rfl⟩ := h19
              refine j_cN1i (n' := 98) F kl_X3_48 (c_Cla_log (by omega)) (by decide) (Nat.le_of_ble_eq_true rfl) dX3_countTaken_95 rfl (fun z20 φ20 h20 => ?_)
              obtain ⟨rfl, rfl⟩ := h20
              refine j_iadd (n' := 99) F dX3_countTaken_98 rfl ?_
              refine j_cV1v (n' := 102) F kl_X3_84 (c_Pri_countOne hk hw (by first | omega | (split <;> omega))) hk rfl (by decide) (Nat.le_of_ble_eq_true rfl) dX3_countTaken_99 rfl (fun z21 φ21 h21 => ?_)
              skip
              refine j_iinc_2 (n' := 105) F (by decide) jc_r dX3_countTaken_102 rfl ?_
              refine j_goto (t := 23) F dX3_countTaken_105 (by decide) ?_
              refine j_weak (by exact ⟨rfl, rfl, rfl, trivial⟩) (ih (k + 1) φ21 (by omega) (fun b q1 q2 => ?_) (fun b q => ?_) ?_)
              · have g := h2 b q1 q2
                generalize rwSum (fun x => tkTk x b) (ts.drop (k + 1)) = sm at g ⊢
                unfold tkTk at g
                rw [h21, zU_inc, h16, zU_inc, h7, zU_inc]
                repeat (first | omega | split at g | split)
              · rw [h21, zU_inc, h16, zU_inc, h7, zU_inc]
                have g := h3 b q
                repeat (first | omega | split)
              · rw [h21, h16, h7]
                exact (((h4.put rfl).put rfl).put rfl)
        · refine j_aload_0 (n' := 45) F dX3_countTaken_44 rfl ?_
          refine j_iload_3 (n' := 46) F dX3_countTaken_45 rfl ?_
          refine j_cV1v (n' := 49) F kl_X3_84 (c_Pri_countOne hk hw (by first | omega | (split <;> omega))) hk rfl (by decide) (Nat.le_of_ble_eq_true rfl) dX3_countTaken_46 rfl (fun z22 φ22 h22 => ?_)
          skip
          refine j_goto (t := 102) F dX3_countTaken_49 (by decide) ?_
          refine j_iinc_2 (n' := 105) F (by decide) jc_r dX3_countTaken_102 rfl ?_
          refine j_goto (t := 23) F dX3_countTaken_105 (by decide) ?_
          refine j_weak (by exact ⟨rfl, rfl, rfl, trivial⟩) (ih (k + 1) φ22 (by omega) (fun b q1 q2 => ?_) (fun b q => ?_) ?_)
          · have g := h2 b q1 q2
            generalize rwSum (fun x => tkTk x b) (ts.drop (k + 1)) = sm at g ⊢
            unfold tkTk at g
            rw [h22, zU_inc]
            repeat (first | omega | split at g | split)
          · rw [h22, zU_inc]
            have g := h3 b q
            repeat (first | omega | split)
          · rw [h22]
            exact (h4.put rfl)
  have l1 : ∀ (m : Nat) (i : Int) (ψ : jPhi), i + m = 18 → 0 ≤ i → (∀ b, 0 ≤ b → b < i → ψ w b = 0) → (∀ b, ¬ (0 ≤ b ∧ b < 18) → ψ w b = φ w b) → frC (fun a => a = w) φ ψ → jJ X G B0 κF 113 0 0 Q 4 ψ 2 [some (rf B0 o), some (rf B0 o2), some (iv i), none] [] := by
    intro m
    induction m with
    | zero =>
      intro i ψ h1 h2 h3 h4 h5
      refine j_iload_2 (n' := 3) F dX3_countTaken_2 rfl ?_
      refine j_bipush (n' := 5) F dX3_countTaken_3 (by decide) rfl ?_
      refine j_icmp_ge (t := 21) (n' := 8) F (by omega) (by omega) dX3_countTaken_5 (by decide) rfl (fun c5_0 => ?_) (fun c5_0 => ?_)
      · refine j_iconst (n' := 22) F dX3_countTaken_21 rfl ?_
        refine j_istore_2 (n' := 23) F (by decide) jc_r dX3_countTaken_22 rfl ?_
        exact l2 ts.length 0 ψ (by omega) (fun b q1 q2 => by rw [h3 b q1 (by omega)]; simp [tak]) h4 h5
      · omega
    | succ m ih =>
      intro i ψ h1 h2 h3 h4 h5
      refine j_iload_2 (n' := 3) F dX3_countTaken_2 rfl ?_
      refine j_bipush (n' := 5) F dX3_countTaken_3 (by decide) rfl ?_
      refine j_icmp_ge (t := 21) (n' := 8) F (by omega) (by omega) dX3_countTaken_5 (by decide) rfl (fun c5_0 => ?_) (fun c5_0 => ?_)
      · omega
      · refine j_aload_0 (n' := 9) F dX3_countTaken_8 rfl ?_
        refine j_getR (n' := 12) F fl_X3_23 hk rfl dX3_countTaken_9 rfl ?_
        refine j_iload_2 (n' := 13) F dX3_countTaken_12 rfl ?_
        refine j_iconst (n' := 14) F dX3_countTaken_13 rfl ?_
        refine j_iast (n' := 15) F hw (by decide) (by omega) dX3_countTaken_14 rfl (fun φ2 e2 => ?_)
        refine j_iinc_2 (n' := 18) F (by decide) jc_r dX3_countTaken_15 rfl ?_
        refine j_goto (t := 2) F dX3_countTaken_18 (by decide) ?_
        refine ih (i + 1) φ2 (by omega) (by omega) (fun b q1 q2 => ?_) (fun b q => ?_) (by rw [e2]; exact h5.put rfl)
        · by_cases q : b = i
          · rw [e2, q, zU_self]
          · rw [e2, zU_ne (by omega)]
            exact h3 b q1 (by omega)
        · rw [e2, zU_ne (by omega)]
          exact h4 b q
  refine j_iconst (n' := 1) F dX3_countTaken_0 rfl ?_
  refine j_istore_2 (n' := 2) F (by decide) jc_r dX3_countTaken_1 rfl ?_
  exact l1 18 0 φ (by omega) (by omega) (fun b q1 q2 => by omega) (fun b q => rfl) frC.rf
set_option maxRecDepth 20000 in
theorem c_Pri_reprice {l : Launch} {G : jG} {B0 : Nat} {φ : jPhi} {o v w : Int} {fr to al : Int} (hk : κF o = some (.inl (3, [.inl v, .inl w]))) (hv : κF v = some (.inr (.inl 18))) (hw : κF w = some (.inr (.inl 18))) (hvw : v ≠ w) (hf : 0 ≤ fr ∧ fr ≤ to ∧ to ≤ 18) (ha : 1 ≤ al ∧ al ≤ 100) (htk : ∀ b, 0 ≤ b → b < 18 → 0 ≤ φ w b ∧ φ w b ≤ 72) (hpv : ∀ b, 0 ≤ b → b < 18 → 0 ≤ φ v b ∧ φ v b ≤ 30) : jC l G B0 κF 113 yX3_reprice cX3_reprice 7 (some .int) 1 [rf B0 o, iv fr, iv to, iv al] φ mkI (fun z φ' => (∀ b, φ' v b = if fr ≤ b ∧ b < to then rpr al (φ w b) else φ v b) ∧ frC (fun a => a = v) φ φ' ∧ z = othP (φ v) (fun b => rpr al (φ w b)) fr to 0) := by
  refine jC_start RX3 [some (rf B0 o), some (iv fr), some (iv to), some (iv al), none, none, none] (by decide) rfl (Nat.le_of_ble_eq_true rfl) rfl (fun X Q F E => ?_)
  have loop : ∀ (m : Nat) (i c : Int) (ψ : jPhi), i + m = to → fr ≤ i → 0 ≤ c → c ≤ i → (∀ b, ψ v b = if fr ≤ b ∧ b < i then rpr al (φ w b) else φ v b) → frC (fun a => a = v) φ ψ → othP (φ v) (fun b => rpr al (φ w b)) i to c = othP (φ v) (fun b => rpr al (φ w b)) fr to 0 → jJ X G B0 κF 113 0 0 Q 7 ψ 10 [some (rf B0 o), some (iv fr), some (iv to), some (iv al), some (iv c), some (iv i), none] [] := by
    intro m
    induction m with
    | zero =>
      intro i c ψ h1 h2 h3 h4 h5 h6 h7
      refine j_iload_5 (n' := 12) F dX3_reprice_10 rfl ?_
      refine j_iload_2 (n' := 13) F dX3_reprice_12 rfl ?_
      refine j_icmp_ge (t := 77) (n' := 16) F (by omega) (by omega) dX3_reprice_13 (by decide) rfl (fun c13_0 => ?_) (fun c13_0 => ?_)
      · refine j_iload_4 (n' := 79) F dX3_reprice_77 rfl ?_
        exact j_ireturn F E dX3_reprice_79 (⟨fun b => by rw [h5, show i = to by omega], h6, by rw [← h7]; unfold othP; rw [lpI_end (by omega)]⟩)
      · omega
    | succ m ih =>
      intro i c ψ h1 h2 h3 h4 h5 h6 h7
      have g1 := htk i (by omega) (by omega)
      have g2 := hpv i (by omega) (by omega)
      have u1 : ψ w i = φ w i := h6 w i (Ne.symm hvw)
      have u2 : ψ v i = φ v i := by rw [h5, if_neg (by omega)]
      have hd1 : 0 ≤ al / (1 + φ w i) ∧ al / (1 + φ w i) ≤ 100 := by
        constructor
        · exact Int.ediv_nonneg (by omega) (by omega)
        · exact Int.le_trans (Int.ediv_le_self _ (by omega)) (by omega)
      have hlg := zlog_bd 7 (al / (1 + φ w i))
      have hm : max 1 (1 + ψ w i) = 1 + φ w i := by omega
      unfold othP at h7
      rw [lpI_step (by omega)] at h7
      refine j_iload_5 (n' := 12) F dX3_reprice_10 rfl ?_
      refine j_iload_2 (n' := 13) F dX3_reprice_12 rfl ?_
      refine j_icmp_ge (t := 77) (n' := 16) F (by omega) (by omega) dX3_reprice_13 (by decide) rfl (fun c13_0 => ?_) (fun c13_0 => ?_)
      · omega
      · refine j_iload_5 (n' := 18) F dX3_reprice_16 rfl ?_
        refine j_bipush (n' := 20) F dX3_reprice_18 (by decide) rfl ?_
        refine j_icmp_ge (t := 77) (n' := 23) F (by omega) (by omega) dX3_reprice_20 (by decide) rfl (fun c20_1 => ?_) (fun c20_1 => ?_)
        · omega
        · refine j_iconst (n' := 24) F dX3_reprice_23 rfl ?_
          refine j_iconst (n' := 25) F dX3_reprice_24 rfl ?_
          refine j_iload_3 (n' := 26) F dX3_reprice_25 rfl ?_
          refine j_iconst (n' := 27) F dX3_reprice_26 rfl ?_
          refine j_iconst (n' := 28) F dX3_reprice_27 rfl ?_
          refine j_aload_0 (n' := 29) F dX3_reprice_28 rfl ?_
          refine j_getR (n' := 32) F fl_X3_23 hk rfl dX3_reprice_29 rfl ?_
          refine j_iload_5 (n' := 34) F dX3_reprice_32 rfl ?_
          refine j_iald (n' := 35) F hw (by decide) (by omega) dX3_reprice_34 rfl ?_
          refine j_iadd (n' := 36) F dX3_reprice_35 rfl ?_
          refine j_max (n' := 39) F q_473 (by decide) (Nat.le_of_ble_eq_true rfl) (by omega) (by omega) dX3_reprice_36 rfl ?_
          rw [hm]
          refine j_idiv (n' := 40) F (by omega) (by omega) dX3_reprice_39 rfl ?_
          refine j_cN1i (n' := 43) F kl_X3_48 (c_Cla_log (by omega)) (by decide) (Nat.le_of_ble_eq_true rfl) dX3_reprice_40 rfl (fun z51 φ51 h51 => ?_)
          obtain ⟨rfl, rfl⟩ := h51
          refine j_imul (n' := 44) F dX3_reprice_43 rfl ?_
          refine j_iadd (n' := 45) F dX3_reprice_44 rfl ?_
          refine j_istore_6 (n' := 47) F (by decide) jc_i dX3_reprice_45 rfl ?_
          refine j_iload_6 (n' := 49) F dX3_reprice_47 rfl ?_
          refine j_aload_0 (n' := 50) F dX3_reprice_49 rfl ?_
          refine j_getR (n' := 53) F fl_X3_18 hk rfl dX3_reprice_50 rfl ?_
          refine j_iload_5 (n' := 55) F dX3_reprice_53 rfl ?_
          refine j_iald (n' := 56) F hv (by decide) (by omega) dX3_reprice_55 rfl ?_
          refine j_icmp_eq (t := 62) (n' := 59) F (by omega) (by omega) dX3_reprice_56 (by decide) rfl (fun c56_51 => ?_) (fun c56_51 => ?_)
          · refine j_aload_0 (n' := 63) F dX3_reprice_62 rfl ?_
            refine j_getR (n' := 66) F fl_X3_18 hk rfl dX3_reprice_63 rfl ?_
            refine j_iload_5 (n' := 68) F dX3_reprice_66 rfl ?_
            refine j_iload_6 (n' := 70) F dX3_reprice_68 rfl ?_
            refine j_iast (n' := 71) F hv (by decide) (by omega) dX3_reprice_70 rfl (fun φ53 e53 => ?_)
            refine j_iinc_5 (n' := 74) F (by decide) jc_i dX3_reprice_71 rfl ?_
            refine j_goto (t := 10) F dX3_reprice_74 (by decide) ?_
            refine j_weak (by exact ⟨rfl, rfl, rfl, rfl, rfl, rfl, trivial⟩) (ih (i + 1) _ φ53 (by omega) (by omega) (by omega) (by omega) (fun b => ?_) (by rw [e53]; exact h6.put rfl) ?_)
            · by_cases q : b = i
              · rw [e53, q, zU_self, if_pos (by omega)]
                rfl
              · rw [e53, zU_ne (by omega), h5]
                by_cases q2 : fr ≤ b ∧ b < i
                · rw [if_pos q2, if_pos (by omega)]
                · rw [if_neg q2, if_neg (by omega)]
            · unfold othP
              rw [← h7]
              congr 1
              show _ = c + if rpr al (φ w i) = φ v i then 0 else 1
              unfold rpr
              first | (rw [if_neg (by omega)]; done) | (rw [if_pos (by omega)]; omega)
          · refine j_iinc_4 (n' := 62) F (by decide) jc_i dX3_reprice_59 rfl ?_
            refine j_aload_0 (n' := 63) F dX3_reprice_62 rfl ?_
            refine j_getR (n' := 66) F fl_X3_18 hk rfl dX3_reprice_63 rfl ?_
            refine j_iload_5 (n' := 68) F dX3_reprice_66 rfl ?_
            refine j_iload_6 (n' := 70) F dX3_reprice_68 rfl ?_
            refine j_iast (n' := 71) F hv (by decide) (by omega) dX3_reprice_70 rfl (fun φ54 e54 => ?_)
            refine j_iinc_5 (n' := 74) F (by decide) jc_i dX3_reprice_71 rfl ?_
            refine j_goto (t := 10) F dX3_reprice_74 (by decide) ?_
            refine j_weak (by exact ⟨rfl, rfl, rfl, rfl, rfl, rfl, trivial⟩) (ih (i + 1) _ φ54 (by omega) (by omega) (by omega) (by omega) (fun b => ?_) (by rw [e54]; exact h6.put rfl) ?_)
            · by_cases q : b = i
              · rw [e54, q, zU_self, if_pos (by omega)]
                rfl
              · rw [e54, zU_ne (by omega), h5]
                by_cases q2 : fr ≤ b ∧ b < i
                · rw [if_pos q2, if_pos (by omega)]
                · rw [if_neg q2, if_neg (by omega)]
            · unfold othP
              rw [← h7]
              congr 1
              show _ = c + if rpr al (φ w i) = φ v i then 0 else 1
              unfold rpr
              first | (rw [if_neg (by omega)]; done) | (rw [if_pos (by omega)]; omega)
  refine j_iconst (n' := 1) F dX3_reprice_0 rfl ?_
  refine j_istore_4 (n' := 3) F (by decide) jc_i dX3_reprice_1 rfl ?_
  refine j_iconst (n' := 4) F dX3_reprice_3 rfl ?_
  refine j_iload_1 (n' := 5) F dX3_reprice_4 rfl ?_
  refine j_max (n' := 8) F q_473 (by decide) (Nat.le_of_ble_eq_true rfl) (by omega) (by omega) dX3_reprice_5 rfl ?_
  refine j_istore_5 (n' := 10) F (by decide) jc_i dX3_reprice_8 rfl ?_
  rw [show max 0 fr = fr by omega]
  exact loop (to - fr).toNat fr 0 φ (by omega) (by omega) (by omega) (by omega) (fun b => by rw [if_neg (by omega)]) frC.rf rfl
end
section
theorem rpr_bd (a t : Int) : 0 ≤ rpr a t ∧ rpr a t ≤ 30 := by
  unfold rpr
  have := zlog_bd 7 (a / (1 + t))
  omega
theorem rwPC_bd {ts : List Int} : 0 ≤ rwP ts ∧ 0 ≤ rwC ts ∧ rwP ts + rwC ts ≤ ts.length := by
  induction ts with
  | nil => simp [rwP, rwC, rwSum]
  | cons x r ih =>
    have e1 : rwP (x :: r) = (if x < 100 then 1 else 0) + rwP r := rwSum_cons _ _ _
    have e2 : rwC (x :: r) = (if 1000 ≤ x then 1 else 0) + rwC r := rwSum_cons _ _ _
    have e3 : ((x :: r).length : Int) = r.length + 1 := by simp
    rw [e1, e2, e3]
    repeat (first | omega | split)
set_option maxRecDepth 20000 in
theorem c_Pri_follow {l : Launch} {G : jG} {B0 : Nat} {φ : jPhi} {o v w : Int} {o2 r2 : Int} {ts : List Int} (hk : κF o = some (.inl (3, [.inl v, .inl w]))) (hv : κF v = some (.inr (.inl 18))) (hw : κF w = some (.inr (.inl 18))) (hvw : v ≠ w) (hk2 : κF o2 = some (.inl (5, [.inl r2, .inr 0, .inr 0, .inr 0]))) (hr2 : κF r2 = some (.inr (.inl 24))) (ho : o2 ≠ w) (hr : r2 ≠ w) (hov : o2 ≠ v) (hrv : r2 ≠ v) (ht : rowIs φ o2 r2 ts) (hl : ts.length ≤ 24) (hok : rwOk ts) (hpv : ∀ b, 0 ≤ b → b < 18 → 0 ≤ φ v b ∧ φ v b ≤ 30) : jC l G B0 κF 113 yX3_follow cX3_follow 4 (some .int) 3 [rf B0 o, rf B0 o2] φ mkI (fun z φ' => (∀ b, φ' v b = newP ts (φ v) b) ∧ frC (fun a => a = v ∨ a = w) φ φ' ∧ z = othP (φ v) (newP ts (φ v)) 0 18 0) := by
  refine jC_start RX3 [some (rf B0 o), some (rf B0 o2), none, none] (by decide) rfl (Nat.le_of_ble_eq_true rfl) rfl (fun X Q F E => ?_)
  have hpc := rwPC_bd (ts := ts)
  refine j_aload_0 (n' := 1) F dX3_follow_0 rfl ?_
  refine j_aload_1 (n' := 2) F dX3_follow_1 rfl ?_
  refine j_cV1v (n' := 5) F kl_X3_61 (c_Pri_countTaken hk hw hk2 hr2 ho hr ht hl hok) hk rfl (by decide) (Nat.le_of_ble_eq_true rfl) dX3_follow_2 rfl (fun z1 φ1 h1 => ?_)
  obtain ⟨ct, fr1⟩ := h1
  have tw1 : ∀ b, 0 ≤ b → b < 18 → φ1 w b = tak ts b := fun b q1 q2 => by rw [ct, if_pos ⟨q1, q2⟩]
  have fv1 : ∀ b, φ1 v b = φ v b := fun b => fr1 v b hvw
  have rw1 : rowIs φ1 o2 r2 ts := ht.fr (fun b => fr1 o2 b ho) (fun b => fr1 r2 b hr)
  have s1 : φ1 o2 1 = ts.length := (rw1).1
  have pl1 : φ1 o2 2 = rwP ts := (rw1).2.1
  have co1 : φ1 o2 3 = rwC ts := (rw1).2.2.1
  have bd1 : ∀ b, 0 ≤ b → b < 18 → 0 ≤ φ1 v b ∧ φ1 v b ≤ 30 := fun b q1 q2 => by rw [fv1]; exact hpv b q1 q2
  refine j_aload_1 (n' := 6) F dX3_follow_5 rfl ?_
  refine j_cV0i (n' := 9) F kl_X3_51 (c_Row_size hk2) hk2 rfl (by decide) (Nat.le_of_ble_eq_true rfl) dX3_follow_6 rfl (fun z2 φ2 h2 => ?_)
  obtain ⟨rfl, rfl⟩ := h2
  rw [s1]
  refine j_iconst (n' := 10) F dX3_follow_9 rfl ?_
  refine j_iadd (n' := 11) F dX3_follow_10 rfl ?_
  refine j_istore_2 (n' := 12) F (by decide) jc_r dX3_follow_11 rfl ?_
  refine j_aload_0 (n' := 13) F dX3_follow_12 rfl ?_
  refine j_iconst (n' := 14) F dX3_follow_13 rfl ?_
  refine j_iconst (n' := 15) F dX3_follow_14 rfl ?_
  refine j_aload_1 (n' := 16) F dX3_follow_15 rfl ?_
  refine j_cV0i (n' := 19) F kl_X3_65 (c_Row_plains hk2) hk2 rfl (by decide) (Nat.le_of_ble_eq_true rfl) dX3_follow_16 rfl (fun z3 φ3 h3 => ?_)
  obtain ⟨rfl, rfl⟩ := h3
  rw [pl1]
  refine j_iconst (n' := 20) F dX3_follow_19 rfl ?_
  refine j_iadd (n' := 21) F dX3_follow_20 rfl ?_
  refine j_cV3i (n' := 24) F kl_X3_68 (c_Pri_reprice hk hv hw hvw (by omega) (by omega) (fun b q1 q2 => by rw [tw1 b q1 q2]; exact tak_bd hl b) bd1) hk rfl (by decide) (Nat.le_of_ble_eq_true rfl) dX3_follow_21 rfl (fun z4 φ4 h4 => ?_)
  obtain ⟨va4, fr4, rfl⟩ := h4
  have tw4 : ∀ b, 0 ≤ b → b < 18 → φ4 w b = tak ts b := fun b q1 q2 => (fr4 w b (Ne.symm hvw)).trans (tw1 b q1 q2)
  have rw4 : rowIs φ4 o2 r2 ts := rw1.fr (fun b => fr4 o2 b hov) (fun b => fr4 r2 b hrv)
  have bd4 : ∀ b, 0 ≤ b → b < 18 → 0 ≤ φ4 v b ∧ φ4 v b ≤ 30 := fun b q1 q2 => by
    have g1 := bd1 b q1 q2
    rw [va4]
    split
    · exact rpr_bd _ _
    · exact g1
  have s4 : φ4 o2 1 = ts.length := (rw4).1
  have pl4 : φ4 o2 2 = rwP ts := (rw4).2.1
  have co4 : φ4 o2 3 = rwC ts := (rw4).2.2.1
  refine j_istore_3 (n' := 25) F (by decide) jc_i dX3_follow_24 rfl ?_
  refine j_iload_3 (n' := 26) F dX3_follow_25 rfl ?_
  refine j_aload_0 (n' := 27) F dX3_follow_26 rfl ?_
  refine j_iconst (n' := 28) F dX3_follow_27 rfl ?_
  refine j_iconst (n' := 29) F dX3_follow_28 rfl ?_
  refine j_iload_2 (n' := 30) F dX3_follow_29 rfl ?_
  refine j_cV3i (n' := 33) F kl_X3_68 (c_Pri_reprice hk hv hw hvw (by omega) (by omega) (fun b q1 q2 => by rw [tw4 b q1 q2]; exact tak_bd hl b) bd4) hk rfl (by decide) (Nat.le_of_ble_eq_true rfl) dX3_follow_30 rfl (fun z5 φ5 h5 => ?_)
  obtain ⟨va5, fr5, rfl⟩ := h5
  have tw5 : ∀ b, 0 ≤ b → b < 18 → φ5 w b = tak ts b := fun b q1 q2 => (fr5 w b (Ne.symm hvw)).trans (tw4 b q1 q2)
  have rw5 : rowIs φ5 o2 r2 ts := rw4.fr (fun b => fr5 o2 b hov) (fun b => fr5 r2 b hrv)
  have bd5 : ∀ b, 0 ≤ b → b < 18 → 0 ≤ φ5 v b ∧ φ5 v b ≤ 30 := fun b q1 q2 => by
    have g1 := bd4 b q1 q2
    rw [va5]
    split
    · exact rpr_bd _ _
    · exact g1
  have s5 : φ5 o2 1 = ts.length := (rw5).1
  have pl5 : φ5 o2 2 = rwP ts := (rw5).2.1
  have co5 : φ5 o2 3 = rwC ts := (rw5).2.2.1
  refine j_iadd (n' := 34) F dX3_follow_33 rfl ?_
  refine j_istore_3 (n' := 35) F (by decide) jc_i dX3_follow_34 rfl ?_
  refine j_iload_3 (n' := 36) F dX3_follow_35 rfl ?_
  refine j_aload_0 (n' := 37) F dX3_follow_36 rfl ?_
  refine j_iconst (n' := 38) F dX3_follow_37 rfl ?_
  refine j_bipush (n' := 40) F dX3_follow_38 (by decide) rfl ?_
  refine j_aload_1 (n' := 41) F dX3_follow_40 rfl ?_
  refine j_cV0i (n' := 44) F kl_X3_72 (c_Row_copies hk2) hk2 rfl (by decide) (Nat.le_of_ble_eq_true rfl) dX3_follow_41 rfl (fun z6 φ6 h6 => ?_)
  obtain ⟨rfl, rfl⟩ := h6
  rw [co5]
  refine j_iconst (n' := 45) F dX3_follow_44 rfl ?_
  refine j_iadd (n' := 46) F dX3_follow_45 rfl ?_
  refine j_cV3i (n' := 49) F kl_X3_68 (c_Pri_reprice hk hv hw hvw (by omega) (by omega) (fun b q1 q2 => by rw [tw5 b q1 q2]; exact tak_bd hl b) bd5) hk rfl (by decide) (Nat.le_of_ble_eq_true rfl) dX3_follow_46 rfl (fun z7 φ7 h7 => ?_)
  obtain ⟨va7, fr7, rfl⟩ := h7
  have tw7 : ∀ b, 0 ≤ b → b < 18 → φ7 w b = tak ts b := fun b q1 q2 => (fr7 w b (Ne.symm hvw)).trans (tw5 b q1 q2)
  have rw7 : rowIs φ7 o2 r2 ts := rw5.fr (fun b => fr7 o2 b hov) (fun b => fr7 r2 b hrv)
  have bd7 : ∀ b, 0 ≤ b → b < 18 → 0 ≤ φ7 v b ∧ φ7 v b ≤ 30 := fun b q1 q2 => by
    have g1 := bd5 b q1 q2
    rw [va7]
    split
    · exact rpr_bd _ _
    · exact g1
  have s7 : φ7 o2 1 = ts.length := (rw7).1
  have pl7 : φ7 o2 2 = rwP ts := (rw7).2.1
  have co7 : φ7 o2 3 = rwC ts := (rw7).2.2.1
  refine j_iadd (n' := 50) F dX3_follow_49 rfl ?_
  refine j_istore_3 (n' := 51) F (by decide) jc_i dX3_follow_50 rfl ?_
  refine j_iload_3 (n' := 52) F dX3_follow_51 rfl ?_
  refine j_aload_0 (n' := 53) F dX3_follow_52 rfl ?_
  refine j_bipush (n' := 55) F dX3_follow_53 (by decide) rfl ?_
  refine j_bipush (n' := 57) F dX3_follow_55 (by decide) rfl ?_
  refine j_aload_1 (n' := 58) F dX3_follow_57 rfl ?_
  refine j_cV0i (n' := 61) F kl_X3_72 (c_Row_copies hk2) hk2 rfl (by decide) (Nat.le_of_ble_eq_true rfl) dX3_follow_58 rfl (fun z8 φ8 h8 => ?_)
  obtain ⟨rfl, rfl⟩ := h8
  rw [co7]
  refine j_aload_1 (n' := 62) F dX3_follow_61 rfl ?_
  refine j_cV0i (n' := 65) F kl_X3_75 (c_Row_agains hk2) hk2 rfl (by decide) (Nat.le_of_ble_eq_true rfl) dX3_follow_62 rfl (fun z9 φ9 h9 => ?_)
  obtain ⟨rfl, rfl⟩ := h9
  rw [s7, pl7, co7]
  refine j_iadd (n' := 66) F dX3_follow_65 rfl ?_
  refine j_bipush (n' := 68) F dX3_follow_66 (by decide) rfl ?_
  refine j_iadd (n' := 69) F dX3_follow_68 rfl ?_
  refine j_cV3i (n' := 72) F kl_X3_68 (c_Pri_reprice hk hv hw hvw (by omega) (by omega) (fun b q1 q2 => by rw [tw7 b q1 q2]; exact tak_bd hl b) bd7) hk rfl (by decide) (Nat.le_of_ble_eq_true rfl) dX3_follow_69 rfl (fun z10 φ10 h10 => ?_)
  obtain ⟨va10, fr10, rfl⟩ := h10
  have tw10 : ∀ b, 0 ≤ b → b < 18 → φ10 w b = tak ts b := fun b q1 q2 => (fr10 w b (Ne.symm hvw)).trans (tw7 b q1 q2)
  have rw10 : rowIs φ10 o2 r2 ts := rw7.fr (fun b => fr10 o2 b hov) (fun b => fr10 r2 b hrv)
  have bd10 : ∀ b, 0 ≤ b → b < 18 → 0 ≤ φ10 v b ∧ φ10 v b ≤ 30 := fun b q1 q2 => by
    have g1 := bd7 b q1 q2
    rw [va10]
    split
    · exact rpr_bd _ _
    · exact g1
  have s10 : φ10 o2 1 = ts.length := (rw10).1
  have pl10 : φ10 o2 2 = rwP ts := (rw10).2.1
  have co10 : φ10 o2 3 = rwC ts := (rw10).2.2.1
  refine j_iadd (n' := 73) F dX3_follow_72 rfl ?_
  refine j_istore_3 (n' := 74) F (by decide) jc_i dX3_follow_73 rfl ?_
  refine j_iload_3 (n' := 75) F dX3_follow_74 rfl ?_
  refine j_aload_0 (n' := 76) F dX3_follow_75 rfl ?_
  refine j_bipush (n' := 78) F dX3_follow_76 (by decide) rfl ?_
  refine j_bipush (n' := 80) F dX3_follow_78 (by decide) rfl ?_
  refine j_iload_2 (n' := 81) F dX3_follow_80 rfl ?_
  refine j_cV3i (n' := 84) F kl_X3_68 (c_Pri_reprice hk hv hw hvw (by omega) (by omega) (fun b q1 q2 => by rw [tw10 b q1 q2]; exact tak_bd hl b) bd10) hk rfl (by decide) (Nat.le_of_ble_eq_true rfl) dX3_follow_81 rfl (fun z11 φ11 h11 => ?_)
  obtain ⟨va11, fr11, rfl⟩ := h11
  have tw11 : ∀ b, 0 ≤ b → b < 18 → φ11 w b = tak ts b := fun b q1 q2 => (fr11 w b (Ne.symm hvw)).trans (tw10 b q1 q2)
  have rw11 : rowIs φ11 o2 r2 ts := rw10.fr (fun b => fr11 o2 b hov) (fun b => fr11 r2 b hrv)
  have bd11 : ∀ b, 0 ≤ b → b < 18 → 0 ≤ φ11 v b ∧ φ11 v b ≤ 30 := fun b q1 q2 => by
    have g1 := bd10 b q1 q2
    rw [va11]
    split
    · exact rpr_bd _ _
    · exact g1
  have s11 : φ11 o2 1 = ts.length := (rw11).1
  have pl11 : φ11 o2 2 = rwP ts := (rw11).2.1
  have co11 : φ11 o2 3 = rwC ts := (rw11).2.2.1
  refine j_iadd (n' := 85) F dX3_follow_84 rfl ?_
  refine j_ireturn F E dX3_follow_85 ?_
  refine ⟨fun b => ?_, ?_, ?_⟩
  · rw [va11, va10, va7, va5, va4, fv1]
    by_cases q : 0 ≤ b ∧ b < 18
    · have t0 := tak_bd hl b
      rw [newP, if_pos q, tw1 b q.1 q.2, tw4 b q.1 q.2, tw5 b q.1 q.2, tw7 b q.1 q.2, tw10 b q.1 q.2]
      unfold allOf
      repeat (first | omega | rfl | split)
    · rw [newP, if_neg q]
      repeat (first | omega | rfl | split)
  · exact ((((((fr1.wk (fun _ h => Or.inr h)).tr (fr4.wk (fun _ h => Or.inl h))).tr (fr5.wk (fun _ h => Or.inl h))).tr (fr7.wk (fun _ h => Or.inl h))).tr (fr10.wk (fun _ h => Or.inl h))).tr (fr11.wk (fun _ h => Or.inl h)))
  · skip
    have g9 : othP (φ v) (newP ts (φ v)) 0 18 0 = othP (φ v) (newP ts (φ v)) 0 4 0 + othP (φ v) (newP ts (φ v)) 4 5 0 + othP (φ v) (newP ts (φ v)) 5 10 0 + othP (φ v) (newP ts (φ v)) 10 17 0 + othP (φ v) (newP ts (φ v)) 17 18 0 := by
      rw [othP_app (lo := 0) (mi := 17) (hi := 18) (by omega) (by omega), othP_app (lo := 0) (mi := 10) (hi := 17) (by omega) (by omega), othP_app (lo := 0) (mi := 5) (hi := 10) (by omega) (by omega), othP_app (lo := 0) (mi := 4) (hi := 5) (by omega) (by omega)]
    have g0 : othP (φ1 v) (fun b => rpr (rwP ts + 4) (φ1 w b)) 0 4 0 = othP (φ v) (newP ts (φ v)) 0 4 0 := othP_congr (fun j q1 q2 => by
      refine ⟨?_, ?_⟩
      · show rpr _ (φ1 w j) = _
        rw [tw1 j (by omega) (by omega), newP, if_pos (by omega)]
        congr 1
        unfold allOf
        repeat (first | omega | rfl | split)
      · rw [fv1])
    have g1 : othP (φ4 v) (fun b => rpr ((ts.length : Int) + 3) (φ4 w b)) 4 5 0 = othP (φ v) (newP ts (φ v)) 4 5 0 := othP_congr (fun j q1 q2 => by
      refine ⟨?_, ?_⟩
      · show rpr _ (φ4 w j) = _
        rw [tw4 j (by omega) (by omega), newP, if_pos (by omega)]
        congr 1
        unfold allOf
        repeat (first | omega | rfl | split)
      · rw [va4, if_neg (by omega), fv1])
    have g2 : othP (φ5 v) (fun b => rpr (rwC ts + 5) (φ5 w b)) 5 10 0 = othP (φ v) (newP ts (φ v)) 5 10 0 := othP_congr (fun j q1 q2 => by
      refine ⟨?_, ?_⟩
      · show rpr _ (φ5 w j) = _
        rw [tw5 j (by omega) (by omega), newP, if_pos (by omega)]
        congr 1
        unfold allOf
        repeat (first | omega | rfl | split)
      · rw [va5, if_neg (by omega), va4, if_neg (by omega), fv1])
    have g3 : othP (φ7 v) (fun b => rpr (rwC ts + ((ts.length : Int) - rwP ts - rwC ts) + 7) (φ7 w b)) 10 17 0 = othP (φ v) (newP ts (φ v)) 10 17 0 := othP_congr (fun j q1 q2 => by
      refine ⟨?_, ?_⟩
      · show rpr _ (φ7 w j) = _
        rw [tw7 j (by omega) (by omega), newP, if_pos (by omega)]
        congr 1
        unfold allOf
        repeat (first | omega | rfl | split)
      · rw [va7, if_neg (by omega), va5, if_neg (by omega), va4, if_neg (by omega), fv1])
    have g4 : othP (φ10 v) (fun b => rpr ((ts.length : Int) + 3) (φ10 w b)) 17 18 0 = othP (φ v) (newP ts (φ v)) 17 18 0 := othP_congr (fun j q1 q2 => by
      refine ⟨?_, ?_⟩
      · show rpr _ (φ10 w j) = _
        rw [tw10 j (by omega) (by omega), newP, if_pos (by omega)]
        congr 1
        unfold allOf
        repeat (first | omega | rfl | split)
      · rw [va10, if_neg (by omega), va7, if_neg (by omega), va5, if_neg (by omega), va4, if_neg (by omega), fv1])
    omega
end
section
/-! ===== the cheapest, from the end backwards: a weight is 32 times the price and the number of tokens ===== -/
def cnd (b : Int × Int) (w x : Int) : Int × Int := if b.2 ≠ -1 ∧ b.1 ≤ w then b else (w, x)
def cpI (P : Int → Int) (T : Int → Int → Int) (q d : Int) : Int → Int × Int → Int × Int := fun len b => cnd b (32 * tkPrice P (1000 + 10 * d + len) + 1 + T (q + len) d) (1000 + 10 * d + len)
def cpD (P : Int → Int) (T : Int → Int → Int) (L : Int → Int) (q : Int) : Int → Int × Int → Int × Int := fun d b => lpI (cpI P T q d) 2 (L d + 1) b
def cpF (P : Int → Int) (T : Int → Int → Int) (L : Int → Int) (q f : Int) (b : Int × Int) : Int × Int := lpI (cpD P T L q) 1 (q - f + 1) b
def agI (P : Int → Int) (T : Int → Int → Int) (q la : Int) : Int → Int × Int → Int × Int := fun len b => cnd b (32 * tkPrice P (100 + len) + 1 + T (q + len) la) (100 + len)
def agF (P : Int → Int) (T : Int → Int → Int) (m q la : Int) (b : Int × Int) : Int × Int := lpI (agI P T q la) 2 (m + 1) b
def agM (L : Int → Int) (la : Int) : Int := if la = 0 then 0 else L la
def plB (P : Int → Int) (T : Int → Int → Int) (t : Int → Int) (q la : Int) : Int × Int := (32 * tkPrice P (t q) + 1 + T (q + 1) la, t q)
def stS (P : Int → Int) (T : Int → Int → Int) (t : Int → Int) (L : Int → Int) (q la f : Int) : Int × Int :=
  if (cpF P T L q f (0, -1)).2 ≠ -1 ∧ (cpF P T L q f (0, -1)).1 < (agF P T (agM L la) q la (plB P T t q la)).1 then cpF P T L q f (0, -1) else agF P T (agM L la) q la (plB P T t q la)
def tbl (P t : Int → Int) (f e : Int) : Nat → Int → Int → Int × Int
  | 0 => fun _ _ => (0, -1)
  | k + 1 => fun q la => if q = e - ((k : Int) + 1) then stS P (fun q la => (tbl P t f e k q la).1) t (lik t e 8 q) q la f else tbl P t f e k q la
/-- of the letters from f up to e: at place q, la the latest distance: weight and first token -/
def Tb (P t : Int → Int) (f e q la : Int) : Int × Int := tbl P t f e (e - q).toNat q la
def Tw (P t : Int → Int) (f e q la : Int) : Int := (Tb P t f e q la).1
def Tf (P t : Int → Int) (f e q la : Int) : Int := (Tb P t f e q la).2
theorem tbl_up {P t : Int → Int} {f e q la : Int} : ∀ (k : Nat), (e - q).toNat ≤ k → q ≤ e → tbl P t f e k q la = Tb P t f e q la
  | 0, h, hq => by
    unfold Tb
    rw [show (e - q).toNat = 0 by omega]
  | k + 1, h, hq => by
    by_cases h1 : (e - q).toNat = k + 1
    · unfold Tb
      rw [h1]
    · rw [tbl]
      simp only
      rw [if_neg (by omega)]
      exact tbl_up k (by omega) hq
theorem agF_congr {P : Int → Int} {T T' : Int → Int → Int} {m q la : Int} {b : Int × Int} (h : ∀ j, 2 ≤ j → j ≤ m → T (q + j) la = T' (q + j) la) : agF P T m q la b = agF P T' m q la b := by
  unfold agF
  exact lpI_congr (fun j b h1 h2 => by unfold agI; rw [h j h1 (by omega)])
theorem cpF_congr {P : Int → Int} {T T' : Int → Int → Int} {L : Int → Int} {q f : Int} {b : Int × Int} (h : ∀ d j, 1 ≤ d → d ≤ q - f → 2 ≤ j → j ≤ L d → T (q + j) d = T' (q + j) d) : cpF P T L q f b = cpF P T' L q f b := by
  unfold cpF
  refine lpI_congr (fun d b h1 h2 => ?_)
  unfold cpD
  exact lpI_congr (fun j b h3 h4 => by unfold cpI; rw [h d j h1 (by omega) h3 (by omega)])
theorem stS_congr {P : Int → Int} {T T' : Int → Int → Int} {t L : Int → Int} {q la f e : Int} (hq : q < e) (hL : ∀ d, L d ≤ e - q) (h : ∀ q' d, q < q' → q' ≤ e → T q' d = T' q' d) : stS P T t L q la f = stS P T' t L q la f := by
  have hm : agM L la ≤ e - q := by
    unfold agM
    have := hL la
    split <;> omega
  unfold stS plB
  rw [cpF_congr (T' := T') (fun d j h1 h2 h3 h4 => h _ _ (by omega) (by have := hL d; omega)), agF_congr (T' := T') (fun j h1 h2 => h _ _ (by omega) (by omega)), h _ _ (by omega) (by omega)]
theorem Tb_end {P t : Int → Int} {f e la : Int} : Tb P t f e e la = (0, -1) := by
  unfold Tb
  rw [show (e - e).toNat = 0 by omega]
  rfl
theorem Tb_step {P t : Int → Int} {f e q la : Int} (h : q < e) : Tb P t f e q la = stS P (Tw P t f e) t (lik t e 8 q) q la f := by
  have e1 : (e - q).toNat = (e - q - 1).toNat + 1 := by omega
  unfold Tb
  rw [e1, tbl]
  simp only
  rw [if_pos (by omega)]
  refine stS_congr h (fun d => ?_) (fun q' d h1 h2 => ?_)
  · have := (lik_bd t e 8 q d).2.2 (by omega)
    omega
  · unfold Tw
    rw [tbl_up _ (by omega) h2]
/-- what is chosen: a token that goes no further than e, and its weight -/
def nxL (la x : Int) : Int := if 1000 ≤ x then tkDist x else la
def okB (P : Int → Int) (T : Int → Int → Int) (f e q la : Int) (b : Int × Int) : Prop :=
  tkOk b.2 ∧ q + tkLen b.2 ≤ e ∧ (1000 ≤ b.2 → tkDist b.2 ≤ q - f) ∧ (100 ≤ b.2 → b.2 < 1000 → la ≠ 0) ∧ b.1 = 32 * tkPrice P b.2 + 1 + T (q + tkLen b.2) (nxL la b.2)
theorem tk_again {j : Int} (h : 2 ≤ j ∧ j ≤ 8) (la : Int) : tkOk (100 + j) ∧ tkLen (100 + j) = j ∧ nxL la (100 + j) = la := by
  unfold tkOk tkLen nxL
  rw [if_neg (by omega), if_neg (by omega)]
  omega
theorem tk_copy {d j : Int} (h : 2 ≤ j ∧ j ≤ 8) (hd : 1 ≤ d ∧ d ≤ 24) (la : Int) : tkOk (1000 + 10 * d + j) ∧ tkLen (1000 + 10 * d + j) = j ∧ tkDist (1000 + 10 * d + j) = d ∧ nxL la (1000 + 10 * d + j) = d := by
  unfold tkOk tkLen nxL tkDist
  rw [if_neg (by omega), if_neg (by omega), if_pos (by omega)]
  omega
theorem okB_again {P : Int → Int} {T : Int → Int → Int} {f e q la m : Int} {b : Int × Int} (hm : m ≤ e - q ∧ m ≤ 8) (hla : m ≤ 1 ∨ la ≠ 0) (h : okB P T f e q la b) : okB P T f e q la (agF P T m q la b) := by
  unfold agF
  by_cases hm2 : 2 ≤ m
  · refine lpI_inv (fun _ b => okB P T f e q la b) (by omega) h (fun j b h1 h2 h3 => ?_)
    unfold agI cnd
    split
    · exact h3
    · obtain ⟨a1, a2, a3⟩ := tk_again (j := j) (by omega) la
      refine ⟨a1, by rw [a2]; omega, fun q => by simp only at q; omega, fun _ _ => by omega, by rw [a2, a3]⟩
  · rw [lpI_end (by omega)]
    exact h
theorem okB_copy {P : Int → Int} {T : Int → Int → Int} {L : Int → Int} {f e q la : Int} (hf : 0 ≤ f ∧ f ≤ q ∧ q ≤ 24) (hL : ∀ d, L d ≤ e - q ∧ L d ≤ 8) {b : Int × Int} (hb : b.2 = -1 ∨ okB P T f e q la b) : (cpF P T L q f b).2 = -1 ∨ okB P T f e q la (cpF P T L q f b) := by
  unfold cpF
  refine lpI_inv (lo := 1) (hi := q - f + 1) (fun _ b => b.2 = -1 ∨ okB P T f e q la b) (by omega) hb (fun d b h1 h2 h3 => ?_)
  unfold cpD
  have hl := hL d
  by_cases hm2 : 2 ≤ L d
  · refine lpI_inv (lo := 2) (hi := L d + 1) (fun _ b => b.2 = -1 ∨ okB P T f e q la b) (by omega) h3 (fun j b h4 h5 h6 => ?_)
    unfold cpI cnd
    split
    · exact h6
    · obtain ⟨a1, a2, a3, a4⟩ := tk_copy (j := j) (d := d) (by omega) (by omega) la
      exact Or.inr ⟨a1, by rw [a2]; omega, fun _ => by rw [a3]; omega, fun _ q => by simp only at q; omega, by rw [a2, a4]⟩
  · rw [lpI_end (by omega)]
    exact h3
theorem agF_le {P : Int → Int} {T : Int → Int → Int} {m q la : Int} {b : Int × Int} (hb : b.2 ≠ -1) : (agF P T m q la b).1 ≤ b.1 ∧ (agF P T m q la b).2 ≠ -1 := by
  unfold agF
  by_cases hm : 2 ≤ m + 1
  · refine lpI_inv (fun (_ : Int) (c : Int × Int) => c.1 ≤ b.1 ∧ c.2 ≠ -1) hm ⟨Int.le_refl _, hb⟩ (fun j c h1 h2 h3 => ?_)
    unfold agI cnd
    split
    · exact h3
    · rename_i q
      simp only
      omega
  · rw [lpI_end (by omega)]
    exact ⟨Int.le_refl _, hb⟩
def txOk (t : Int → Int) (n : Int) : Prop := ∀ k, 0 ≤ k → k < n → 0 ≤ t k ∧ t k ≤ 3
theorem Tb_ok {P t : Int → Int} {f e : Int} (hf : 0 ≤ f) (he : e ≤ 24) (ht : txOk t e) {q la : Int} (h1 : f ≤ q) (h2 : q < e) : okB P (Tw P t f e) f e q la (Tb P t f e q la) := by
  have hl : ∀ d, lik t e 8 q d ≤ e - q ∧ lik t e 8 q d ≤ 8 := fun d => by
    have := lik_bd t e 8 q d
    have := this.2.2 (by omega)
    omega
  have hc := ht q (by omega) h2
  rw [Tb_step h2]
  unfold stS
  split
  · rename_i g
    rcases okB_copy (P := P) (T := Tw P t f e) (L := lik t e 8 q) (f := f) (e := e) (q := q) (la := la) (by omega) hl (b := (0, -1)) (Or.inl rfl) with h | h
    · exact absurd h g.1
    · exact h
  · have hm : agM (lik t e 8 q) la ≤ e - q ∧ agM (lik t e 8 q) la ≤ 8 := by
      have := hl la
      unfold agM
      split <;> omega
    refine okB_again hm ?_ ?_
    · unfold agM
      split
      · exact Or.inl (by omega)
      · rename_i g
        exact Or.inr g
    · have e1 : tkLen (t q) = 1 := by unfold tkLen; rw [if_pos (by omega)]
      have e2 : nxL la (t q) = la := by unfold nxL; rw [if_neg (by omega)]
      unfold plB
      exact ⟨by simp only [tkOk]; omega, by simp only [e1]; omega, fun q => by simp only at q; omega, fun q _ => by simp only at q; omega, by simp only [e1, e2]⟩
theorem Tw_bd {P t : Int → Int} {f e : Int} (hP : prOk P) (hf : 0 ≤ f) (he : e ≤ 24) (ht : txOk t e) : ∀ (k : Nat) (q la : Int), f ≤ q → q ≤ e → (e - q).toNat = k → 0 ≤ Tw P t f e q la ∧ Tw P t f e q la ≤ 961 * (e - q)
  | 0, q, la, h1, h2, h3 => by
    have : q = e := by omega
    subst this
    unfold Tw
    rw [Tb_end]
    simp only
    omega
  | k + 1, q, la, h1, h2, h3 => by
    have h4 : q < e := by omega
    have ok := Tb_ok (P := P) (la := la) hf he ht h1 h4
    obtain ⟨a1, a2, a3, a4, a5⟩ := ok
    have hlen : 1 ≤ tkLen (Tb P t f e q la).2 := by
      unfold tkOk at a1
      unfold tkLen
      split <;> omega
    have n1 := Tw_bd hP hf he ht (e - (q + tkLen (Tb P t f e q la).2)).toNat
    have hb := tkPrice_bd hP (Tb P t f e q la).2
    have hc := ht q (by omega) h4
    have nx : 0 ≤ Tw P t f e (q + tkLen (Tb P t f e q la).2) (nxL la (Tb P t f e q la).2) := by
      by_cases hk : (e - (q + tkLen (Tb P t f e q la).2)).toNat ≤ k
      · have hz : ∀ j : Nat, j ≤ k → ∀ q la : Int, f ≤ q → q ≤ e → (e - q).toNat = j → 0 ≤ Tw P t f e q la ∧ Tw P t f e q la ≤ 961 * (e - q) := fun j hj q la g1 g2 g3 => Tw_bd hP hf he ht j q la g1 g2 g3
        exact (hz _ hk _ _ (by omega) a2 rfl).1
      · omega
    have n2 := Tw_bd hP hf he ht k (q + 1) la (by omega) (by omega) (by omega)
    refine ⟨by unfold Tw; rw [a5]; omega, ?_⟩
    have hx : Tw P t f e q la ≤ 32 * tkPrice P (t q) + 1 + Tw P t f e (q + 1) la := by
      show (Tb P t f e q la).1 ≤ _
      rw [Tb_step h4]
      have hg := agF_le (P := P) (T := Tw P t f e) (m := agM (lik t e 8 q) la) (q := q) (la := la) (b := plB P (Tw P t f e) t q la) (by simp only [plB]; omega)
      unfold stS
      split
      · rename_i g
        have := hg.1
        simp only [plB] at this
        simp only [plB] at g
        omega
      · have := hg.1
        simp only [plB] at this ⊢
        exact this
    have hp : tkPrice P (t q) ≤ 30 := by
      unfold tkPrice
      rw [if_pos (by omega)]
      exact (pget_bd hP _).2
    omega
/-- the copies' fold from a stale weight -/
theorem cpF_stale {P : Int → Int} {T : Int → Int → Int} {L : Int → Int} {q f x : Int} (hf : f ≤ q) : (cpF P T L q f (x, -1)).2 = (cpF P T L q f (0, -1)).2 ∧ ((cpF P T L q f (0, -1)).2 ≠ -1 → cpF P T L q f (x, -1) = cpF P T L q f (0, -1)) := by
  have key : ∀ {b c : Int × Int} (w z : Int), (b.2 = c.2 ∧ (c.2 ≠ -1 → b = c)) → ((cnd b w z).2 = (cnd c w z).2 ∧ ((cnd c w z).2 ≠ -1 → cnd b w z = cnd c w z)) := by
    intro b c w z h
    by_cases e : c.2 = -1
    · have e2 : b.2 = -1 := h.1.trans e
      unfold cnd
      rw [if_neg (fun q => q.1 e2), if_neg (fun q => q.1 e)]
      exact ⟨rfl, fun _ => rfl⟩
    · rw [h.2 e]
      exact ⟨rfl, fun _ => rfl⟩
  have pair : ∀ (k : Nat) (F : Int → Int × Int → Int × Int), (∀ i b c, (b.2 = c.2 ∧ (c.2 ≠ -1 → b = c)) → ((F i b).2 = (F i c).2 ∧ ((F i c).2 ≠ -1 → F i b = F i c))) → ∀ (i : Int) (b c : Int × Int), (b.2 = c.2 ∧ (c.2 ≠ -1 → b = c)) → ((lpN F k i b).2 = (lpN F k i c).2 ∧ ((lpN F k i c).2 ≠ -1 → lpN F k i b = lpN F k i c)) := by
    intro k F hF
    induction k with
    | zero => intro i b c h; exact h
    | succ k ih => intro i b c h; exact ih (i + 1) _ _ (hF i b c h)
  unfold cpF lpI
  refine pair _ _ (fun d b c h => ?_) _ _ _ ⟨rfl, fun q => absurd rfl q⟩
  unfold cpD lpI
  exact pair _ (cpI P T q d) (fun j b c h => key _ _ h) _ _ _ h
/-- the row of tokens: by the first ones, on and on -/
def wlk (F : Int → Int → Int) (e : Int) : Nat → Int → Int → List Int
  | 0, _, _ => []
  | k + 1, p, la => if p < e then F p la :: wlk F e k (p + tkLen (F p la)) (nxL la (F p la)) else []
def toks (P t : Int → Int) (f e : Int) : List Int := wlk (Tf P t f e) e 24 f 0
end
section
def bst (φ : jPhi) : Int × Int := (φ 37 3, φ 37 2)
def bOk (b : Int × Int) : Prop := -1 ≤ b.2 ∧ b.2 ≤ 1248 ∧ (b.2 ≠ -1 → 0 ≤ b.1 ∧ b.1 ≤ 40000)
theorem bOk_cnd {b : Int × Int} {w x : Int} (h : bOk b) (hw : 0 ≤ w ∧ w ≤ 40000) (hx : -1 ≤ x ∧ x ≤ 1248) : bOk (cnd b w x) := by
  unfold cnd
  split
  · exact h
  · exact ⟨hx.1, hx.2, fun _ => hw⟩
set_option maxRecDepth 20000 in
theorem c_Cho_consider {l : Launch} {G : jG} {B0 : Nat} {φ : jPhi} {x c b : Int} (hc : 0 ≤ c ∧ c ≤ 90) (hb : 0 ≤ b ∧ b ≤ 30000) (hk : bOk (bst φ)) : jC l G B0 κF 113 yX0_consider cX0_consider 5 none 0 [rf B0 37, iv x, iv c, iv b] φ mkV (fun z φ' => bst φ' = cnd (bst φ) (32 * c + 1 + b) x ∧ frC (fun a => a = 37) φ φ') := by
  refine jC_start RX0 [some (rf B0 37), some (iv x), some (iv c), some (iv b), none] (by decide) rfl (Nat.le_of_ble_eq_true rfl) rfl (fun X Q F E => ?_)
  obtain ⟨k1, k2, k3⟩ := hk
  simp only [bst] at k1 k2 k3
  refine j_bipush (n' := 2) F dX0_consider_0 (by decide) rfl ?_
  refine j_iload_2 (n' := 3) F dX0_consider_2 rfl ?_
  refine j_imul (n' := 4) F dX0_consider_3 rfl ?_
  refine j_iconst (n' := 5) F dX0_consider_4 rfl ?_
  refine j_iadd (n' := 6) F dX0_consider_5 rfl ?_
  refine j_iload_3 (n' := 7) F dX0_consider_6 rfl ?_
  refine j_iadd (n' := 8) F dX0_consider_7 rfl ?_
  refine j_istore_4 (n' := 10) F (by decide) jc_i dX0_consider_8 rfl ?_
  refine j_aload_0 (n' := 11) F dX0_consider_10 rfl ?_
  refine j_getI (n' := 14) F 2 rfl fl_X0_19 kap_37 rfl dX0_consider_11 rfl ?_
  refine j_iconst (n' := 15) F dX0_consider_14 rfl ?_
  refine j_icmp_eq (t := 28) (n' := 18) F (by omega) (by omega) dX0_consider_15 (by decide) rfl (fun c15_0 => ?_) (fun c15_0 => ?_)
  · refine j_aload_0 (n' := 29) F dX0_consider_28 rfl ?_
    refine j_iload_1 (n' := 30) F dX0_consider_29 rfl ?_
    refine j_putI (n' := 33) F 2 rfl fp_X0_19 kap_37 rfl rfl dX0_consider_30 rfl (fun φ2 e2 => ?_)
    refine j_aload_0 (n' := 34) F dX0_consider_33 rfl ?_
    refine j_iload_4 (n' := 36) F dX0_consider_34 rfl ?_
    refine j_putI (n' := 39) F 3 rfl fp_X0_23 kap_37 rfl rfl dX0_consider_36 rfl (fun φ3 e3 => ?_)
    exact j_return F E dX0_consider_39 (⟨by unfold cnd bst; rw [if_neg (by simp only; omega), e3, e2]; simp [zU], by rw [e3, e2]; exact (frC.put (frC.put frC.rf rfl) rfl)⟩)
  · refine j_iload_4 (n' := 20) F dX0_consider_18 rfl ?_
    refine j_aload_0 (n' := 21) F dX0_consider_20 rfl ?_
    refine j_getI (n' := 24) F 3 rfl fl_X0_23 kap_37 rfl dX0_consider_21 rfl ?_
    refine j_icmp_lt (t := 28) (n' := 27) F (by omega) (by omega) dX0_consider_24 (by decide) rfl (fun c24_3 => ?_) (fun c24_3 => ?_)
    · refine j_aload_0 (n' := 29) F dX0_consider_28 rfl ?_
      refine j_iload_1 (n' := 30) F dX0_consider_29 rfl ?_
      refine j_putI (n' := 33) F 2 rfl fp_X0_19 kap_37 rfl rfl dX0_consider_30 rfl (fun φ5 e5 => ?_)
      refine j_aload_0 (n' := 34) F dX0_consider_33 rfl ?_
      refine j_iload_4 (n' := 36) F dX0_consider_34 rfl ?_
      refine j_putI (n' := 39) F 3 rfl fp_X0_23 kap_37 rfl rfl dX0_consider_36 rfl (fun φ6 e6 => ?_)
      exact j_return F E dX0_consider_39 (⟨by unfold cnd bst; rw [if_neg (by simp only; omega), e6, e5]; simp [zU], by rw [e6, e5]; exact (frC.put (frC.put frC.rf rfl) rfl)⟩)
    · exact j_return F E dX0_consider_27 (⟨by unfold cnd bst; rw [if_pos (by simp only; omega)], frC.rf⟩)
set_option maxRecDepth 20000 in
theorem c_Cho_chooseCopy {l : Launch} {G : jG} {B0 : Nat} {φ : jPhi} {o v w fr en pl : Int} {T : Int → Int → Int} (hs : 0 ≤ φ 7 2 ∧ φ 7 2 ≤ 24) (hal : alOk φ) (hle : txOk (φ 8) (φ 7 2)) (hk : κF o = some (.inl (3, [.inl v, .inl w]))) (hv : κF v = some (.inr (.inl 18))) (hvs : v = 35 ∨ v = 95) (hP : prOk (φ v)) (hp : 0 ≤ fr ∧ fr ≤ pl ∧ pl < en ∧ en ≤ φ 7 2) (hT : ∀ q d, pl < q → q ≤ en → 0 ≤ d → d ≤ q - fr → φ (39 + q) d = T q d ∧ 0 ≤ T q d ∧ T q d ≤ 24000) : jC l G B0 κF 113 yX0_chooseCopy cX0_chooseCopy 10 none 2 [rf B0 37, rf B0 7, rf B0 o, iv fr, iv en, iv pl] φ mkV (fun z φ' => bst φ' = cpF (φ v) T (lik (φ 8) en 8 pl) pl fr (φ 37 3, -1) ∧ bOk (bst φ') ∧ frC (fun a => a = 37) φ φ') := by
  refine jC_start RX0 [some (rf B0 37), some (rf B0 7), some (rf B0 o), some (iv fr), some (iv en), some (iv pl), none, none, none, none] (by decide) rfl (Nat.le_of_ble_eq_true rfl) rfl (fun X Q F E => ?_)
  have outer : ∀ (m : Nat) (d : Int) (ψ : jPhi), d + m = pl - fr + 1 → 1 ≤ d → bOk (bst ψ) → frC (fun a => a = 37) φ ψ → lpI (cpD (φ v) T (lik (φ 8) en 8 pl) pl) d (pl - fr + 1) (bst ψ) = cpF (φ v) T (lik (φ 8) en 8 pl) pl fr (φ 37 3, -1) → jJ X G B0 κF 113 0 0 Q 10 ψ 8 [some (rf B0 37), some (rf B0 7), some (rf B0 o), some (iv fr), some (iv en), some (iv pl), some (iv d), none, none, none] [] := by
    intro m
    induction m with
    | zero =>
      intro d ψ h1 h2 h3 h4 h5
      rw [lpI_end (by omega)] at h5
      refine j_iload_6 (n' := 10) F dX0_chooseCopy_8 rfl ?_
      refine j_iload_5 (n' := 12) F dX0_chooseCopy_10 rfl ?_
      refine j_iload_3 (n' := 13) F dX0_chooseCopy_12 rfl ?_
      refine j_isub (n' := 14) F dX0_chooseCopy_13 rfl ?_
      refine j_icmp_gt (t := 91) (n' := 17) F (by omega) (by omega) dX0_chooseCopy_14 (by decide) rfl (fun c14_0 => ?_) (fun c14_0 => ?_)
      · exact j_return F E dX0_chooseCopy_91 (⟨h5, h3, h4⟩)
      · omega
    | succ m ih =>
      intro d ψ h1 h2 h3 h4 h5
      have hlb := lik_bd (φ 8) en 8 pl d
      have hlb2 := hlb.2.2 (by omega)
      have hcut := lik_cut (φ 8) (e := en) (n := φ 7 2) (by omega) 8 pl d (by omega)
      have hlk : (if pl < ψ 7 2 ∧ 1 ≤ d ∧ d ≤ pl then ψ (10 + pl) d else 0) = lik (φ 8) (φ 7 2) 8 pl d := by
        rw [h4 7 2 (by omega), if_pos (by omega), h4 (10 + pl) d (by omega)]
        exact hal pl d h2 (by omega) (by omega)
      have hlb3 := lik_bd (φ 8) (φ 7 2) 8 pl d
      have u70 : ψ 7 2 = φ 7 2 := h4 7 2 (by omega)
      rw [lpI_step (by omega)] at h5
      have inner : ∀ (j : Nat) (n : Int) (χ : jPhi), n + j = max 2 (lik (φ 8) en 8 pl d + 1) → 2 ≤ n → bOk (bst χ) → frC (fun a => a = 37) φ χ → lpI (cpD (φ v) T (lik (φ 8) en 8 pl) pl) (d + 1) (pl - fr + 1) (lpI (cpI (φ v) T pl d) n (lik (φ 8) en 8 pl d + 1) (bst χ)) = cpF (φ v) T (lik (φ 8) en 8 pl) pl fr (φ 37 3, -1) → jJ X G B0 κF 113 0 0 Q 10 χ 38 [some (rf B0 37), some (rf B0 7), some (rf B0 o), some (iv fr), some (iv en), some (iv pl), some (iv d), some (iv (lik (φ 8) en 8 pl d)), some (iv n), none] [] := by
        intro j
        induction j with
        | zero =>
          intro n χ g1 g2 g3 g4 g5
          rw [lpI_end (lo := n) (by omega)] at g5
          refine j_iload_8 (n' := 40) F dX0_chooseCopy_38 rfl ?_
          refine j_iload_7 (n' := 42) F dX0_chooseCopy_40 rfl ?_
          refine j_icmp_gt (t := 85) (n' := 45) F (by omega) (by omega) dX0_chooseCopy_42 (by decide) rfl (fun c42_0 => ?_) (fun c42_0 => ?_)
          · refine j_iinc_6 (n' := 88) F (by decide) jc_i dX0_chooseCopy_85 rfl ?_
            refine j_goto (t := 8) F dX0_chooseCopy_88 (by decide) ?_
            exact j_weak (by exact ⟨rfl, rfl, rfl, rfl, rfl, rfl, rfl, trivial⟩) (ih (d + 1) χ (by omega) (by omega) g3 g4 g5)
          · omega
        | succ j ihj =>
          intro n χ g1 g2 g3 g4 g5
          have uv : χ v = φ v := funext fun b => g4 v b (by omega)
          obtain ⟨hT1, hT2⟩ := hT (pl + n) d (by omega) (by omega) (by omega) (by omega)
          have hT1 : χ (39 + (pl + n)) d = T (pl + n) d := (g4 (39 + (pl + n)) d (by omega)).trans hT1
          have hpb := tkPrice_bd hP (1000 + 10 * d + n)
          obtain ⟨tk1, tk2, tk3, tk4⟩ := tk_copy (j := n) (d := d) (by omega) (by omega) 0
          rw [lpI_step (lo := n) (by omega)] at g5
          refine j_iload_8 (n' := 40) F dX0_chooseCopy_38 rfl ?_
          refine j_iload_7 (n' := 42) F dX0_chooseCopy_40 rfl ?_
          refine j_icmp_gt (t := 85) (n' := 45) F (by omega) (by omega) dX0_chooseCopy_42 (by decide) rfl (fun c42_0 => ?_) (fun c42_0 => ?_)
          · omega
          · refine j_iload_6 (n' := 47) F dX0_chooseCopy_45 rfl ?_
            refine j_iload_8 (n' := 49) F dX0_chooseCopy_47 rfl ?_
            refine j_cS2i (n' := 52) F kl_X0_57 (c_Tok_copy) (by decide) (Nat.le_of_ble_eq_true rfl) dX0_chooseCopy_49 rfl (fun z2 φ2 h2 => ?_)
            obtain ⟨rfl, rfl⟩ := h2
            refine j_istore_9 (n' := 54) F (by decide) jc_i dX0_chooseCopy_52 rfl ?_
            refine j_aload_0 (n' := 55) F dX0_chooseCopy_54 rfl ?_
            refine j_iload_9 (n' := 57) F dX0_chooseCopy_55 rfl ?_
            refine j_aload_2 (n' := 58) F dX0_chooseCopy_57 rfl ?_
            refine j_iload_9 (n' := 60) F dX0_chooseCopy_58 rfl ?_
            refine j_cV1i (n' := 63) F kl_X0_62 (c_Pri_ofToken hk hv tk1 (by rw [uv]; exact hP)) hk rfl (by decide) (Nat.le_of_ble_eq_true rfl) dX0_chooseCopy_60 rfl (fun z3 φ3 h3 => ?_)
            obtain ⟨rfl, rfl⟩ := h3
            rw [uv]
            refine j_aload_0 (n' := 64) F dX0_chooseCopy_63 rfl ?_
            refine j_getR (n' := 67) F fl_X0_11 kap_37 rfl dX0_chooseCopy_64 rfl ?_
            refine j_iload_5 (n' := 69) F dX0_chooseCopy_67 rfl ?_
            refine j_iload_8 (n' := 71) F dX0_chooseCopy_69 rfl ?_
            refine j_iadd (n' := 72) F dX0_chooseCopy_71 rfl ?_
            refine j_aald (n' := 73) F kap_38 (by decide) (by omega) dX0_chooseCopy_72 rfl ?_
            refine j_iload_6 (n' := 75) F dX0_chooseCopy_73 rfl ?_
            refine j_iald (n' := 76) F (kap_we (by omega)) (by decide) (by omega) dX0_chooseCopy_75 rfl ?_
            rw [hT1]
            refine j_cV3v (n' := 79) F kl_X0_68 (c_Cho_consider (by omega) (by omega) g3) kap_37 rfl (by decide) (Nat.le_of_ble_eq_true rfl) dX0_chooseCopy_76 rfl (fun z4 φ4 h4 => ?_)
            obtain ⟨hc4, hf4⟩ := h4
            refine j_iinc_8 (n' := 82) F (by decide) jc_i dX0_chooseCopy_79 rfl ?_
            refine j_goto (t := 38) F dX0_chooseCopy_82 (by decide) ?_
            refine j_weak (by exact ⟨rfl, rfl, rfl, rfl, rfl, rfl, rfl, rfl, rfl, trivial⟩) (ihj (n + 1) φ4 (by omega) (by omega) (by rw [hc4]; exact bOk_cnd g3 (by omega) (by unfold tkOk at tk1; omega)) (g4.tr hf4) ?_)
            rw [hc4]
            exact g5
      refine j_iload_6 (n' := 10) F dX0_chooseCopy_8 rfl ?_
      refine j_iload_5 (n' := 12) F dX0_chooseCopy_10 rfl ?_
      refine j_iload_3 (n' := 13) F dX0_chooseCopy_12 rfl ?_
      refine j_isub (n' := 14) F dX0_chooseCopy_13 rfl ?_
      refine j_icmp_gt (t := 91) (n' := 17) F (by omega) (by omega) dX0_chooseCopy_14 (by decide) rfl (fun c14_0 => ?_) (fun c14_0 => ?_)
      · omega
      · refine j_aload_1 (n' := 18) F dX0_chooseCopy_17 rfl ?_
        refine j_iload_5 (n' := 20) F dX0_chooseCopy_18 rfl ?_
        refine j_iload_6 (n' := 22) F dX0_chooseCopy_20 rfl ?_
        refine j_cV2i (n' := 25) F kl_X0_48 (c_Txt_likeness (by omega) (by omega) (by omega)) kap_7 rfl (by decide) (Nat.le_of_ble_eq_true rfl) dX0_chooseCopy_22 rfl (fun z2 φ2 h2 => ?_)
        obtain ⟨rfl, rfl⟩ := h2
        rw [hlk]
        refine j_iload_4 (n' := 27) F dX0_chooseCopy_25 rfl ?_
        refine j_iload_5 (n' := 29) F dX0_chooseCopy_27 rfl ?_
        refine j_isub (n' := 30) F dX0_chooseCopy_29 rfl ?_
        refine j_min (n' := 33) F q_422 (by decide) (Nat.le_of_ble_eq_true rfl) (by omega) (by omega) dX0_chooseCopy_30 rfl ?_
        rw [← hcut]
        refine j_istore_7 (n' := 35) F (by decide) jc_i dX0_chooseCopy_33 rfl ?_
        refine j_iconst (n' := 36) F dX0_chooseCopy_35 rfl ?_
        refine j_istore_8 (n' := 38) F (by decide) jc_i dX0_chooseCopy_36 rfl ?_
        exact j_weak (by exact ⟨rfl, rfl, rfl, rfl, rfl, rfl, rfl, rfl, rfl, trivial⟩) (inner (lik (φ 8) en 8 pl d + 1 - 2).toNat 2 ψ (by omega) (by omega) h3 h4 h5)
  refine j_aload_0 (n' := 1) F dX0_chooseCopy_0 rfl ?_
  refine j_iconst (n' := 2) F dX0_chooseCopy_1 rfl ?_
  refine j_putI (n' := 5) F 2 rfl fp_X0_19 kap_37 rfl rfl dX0_chooseCopy_2 rfl (fun φ1 e1 => ?_)
  refine j_iconst (n' := 6) F dX0_chooseCopy_5 rfl ?_
  refine j_istore_6 (n' := 8) F (by decide) jc_i dX0_chooseCopy_6 rfl ?_
  exact outer (pl - fr).toNat 1 φ1 (by omega) (by omega) (by rw [e1]; unfold bst bOk; simp [zU]) (by rw [e1]; exact frC.rf.put rfl) (by rw [e1]; unfold bst cpF; simp [zU])
set_option maxRecDepth 20000 in
theorem c_Cho_chooseFirsts {l : Launch} {G : jG} {B0 : Nat} {φ : jPhi} {o v w fr en pl : Int} {T : Int → Int → Int} (hs : 0 ≤ φ 7 2 ∧ φ 7 2 ≤ 24) (hal : alOk φ) (hle : txOk (φ 8) (φ 7 2)) (hk : κF o = some (.inl (3, [.inl v, .inl w]))) (hv : κF v = some (.inr (.inl 18))) (hvs : v = 35 ∨ v = 95) (hP : prOk (φ v)) (hp : 0 ≤ fr ∧ fr ≤ pl ∧ pl < en ∧ en ≤ φ 7 2) (hT : ∀ q d, pl < q → q ≤ en → 0 ≤ d → d ≤ q - fr → φ (39 + q) d = T q d ∧ 0 ≤ T q d ∧ T q d ≤ 24000) (hbk : bOk (bst φ)) (hcp : (bst φ).2 = (cpF (φ v) T (lik (φ 8) en 8 pl) pl fr (0, -1)).2 ∧ ((bst φ).2 ≠ -1 → bst φ = cpF (φ v) T (lik (φ 8) en 8 pl) pl fr (0, -1))) : jC l G B0 κF 113 yX0_chooseFirsts cX0_chooseFirsts 13 none 2 [rf B0 37, rf B0 7, rf B0 o, iv fr, iv en, iv pl] φ mkV (fun z φ' => (∀ la, 0 ≤ la → la ≤ pl - fr → φ' (39 + pl) la = (stS (φ v) T (φ 8) (lik (φ 8) en 8 pl) pl la fr).1 ∧ φ' (65 + pl) la = (stS (φ v) T (φ 8) (lik (φ 8) en 8 pl) pl la fr).2) ∧ frC (fun a => a = 37 ∨ a = 39 + pl ∨ a = 65 + pl) φ φ') := by
  refine jC_start RX0 [some (rf B0 37), some (rf B0 7), some (rf B0 o), some (iv fr), some (iv en), some (iv pl), none, none, none, none, none, none, none] (by decide) rfl (Nat.le_of_ble_eq_true rfl) rfl (fun X Q F E => ?_)
  have hc0 := hle pl (by omega) (by omega)
  have hbk2 := hbk
  obtain ⟨k1, k2, k3⟩ := hbk2
  simp only [bst] at k1 k2 k3
  have outer : ∀ (m : Nat) (la : Int) (ψ : jPhi), la + m = pl - fr + 1 → 0 ≤ la → (∀ c, 0 ≤ c → c < la → ψ (39 + pl) c = (stS (φ v) T (φ 8) (lik (φ 8) en 8 pl) pl c fr).1 ∧ ψ (65 + pl) c = (stS (φ v) T (φ 8) (lik (φ 8) en 8 pl) pl c fr).2) → frC (fun a => a = 37 ∨ a = 39 + pl ∨ a = 65 + pl) φ ψ → jJ X G B0 κF 113 0 0 Q 13 ψ 23 [some (rf B0 37), some (rf B0 7), some (rf B0 o), some (iv fr), some (iv en), some (iv pl), some (iv (φ 37 2)), some (iv (φ 37 3)), some (iv (φ 8 pl)), some (iv la), none, none, none] [] := by
    intro m
    induction m with
    | zero =>
      intro la ψ h1 h2 h3 h4
      refine j_iload_9 (n' := 25) F dX0_chooseFirsts_23 rfl ?_
      refine j_iload_5 (n' := 27) F dX0_chooseFirsts_25 rfl ?_
      refine j_iload_3 (n' := 28) F dX0_chooseFirsts_27 rfl ?_
      refine j_isub (n' := 29) F dX0_chooseFirsts_28 rfl ?_
      refine j_icmp_gt (t := 203) (n' := 32) F (by omega) (by omega) dX0_chooseFirsts_29 (by decide) rfl (fun c29_0 => ?_) (fun c29_0 => ?_)
      · exact j_return F E dX0_chooseFirsts_203 (⟨fun c q1 q2 => h3 c q1 (by omega), h4⟩)
      · omega
    | succ m ih =>
      intro la ψ h1 h2 h3 h4
      have hTr : ∀ q d, pl < q → q ≤ en → 0 ≤ d → d ≤ q - fr → ∀ χ : jPhi, frC (fun a => a = 37 ∨ a = 39 + pl ∨ a = 65 + pl) φ χ → χ (39 + q) d = T q d := fun q d q1 q2 q3 q4 χ hχ => by
        rw [hχ (39 + q) d (by omega)]
        exact (hT q d q1 q2 q3 q4).1
      have hlb := lik_bd (φ 8) en 8 pl la
      have hlb2 := hlb.2.2 (by omega)
      have hcut := lik_cut (φ 8) (e := en) (n := φ 7 2) (by omega) 8 pl la (by omega)
      have hlb3 := lik_bd (φ 8) (φ 7 2) 8 pl la
      have hlk : ∀ χ : jPhi, frC (fun a => a = 37 ∨ a = 39 + pl ∨ a = 65 + pl) φ χ → min (if pl < χ 7 2 ∧ 1 ≤ la ∧ la ≤ pl then χ (10 + pl) la else 0) (en - pl) = agM (lik (φ 8) en 8 pl) la := fun χ hχ => by
        rw [hχ 7 2 (by omega)]
        unfold agM
        by_cases e0 : la = 0
        · rw [if_neg (by omega), if_pos e0]
          omega
        · rw [if_pos (by omega), if_neg e0, hχ (10 + pl) la (by omega), hal pl la (by omega) (by omega) (by omega)]
          exact hcut.symm
      have hlr : ∀ χ : jPhi, frC (fun a => a = 37 ∨ a = 39 + pl ∨ a = 65 + pl) φ χ → (-2147483648 ≤ (if pl < χ 7 2 ∧ 1 ≤ la ∧ la ≤ pl then χ (10 + pl) la else 0) ∧ (if pl < χ 7 2 ∧ 1 ≤ la ∧ la ≤ pl then χ (10 + pl) la else 0) ≤ 2147483647) := fun χ hχ => by
        rw [hχ 7 2 (by omega)]
        split
        · rw [hχ (10 + pl) la (by omega), hal pl la (by omega) (by omega) (by omega)]
          omega
        · omega
      have hagb : 0 ≤ agM (lik (φ 8) en 8 pl) la ∧ agM (lik (φ 8) en 8 pl) la ≤ 8 ∧ agM (lik (φ 8) en 8 pl) la ≤ en - pl := by
        unfold agM
        split <;> omega
      have join : ∀ χ : jPhi, bst χ = agF (φ v) T (agM (lik (φ 8) en 8 pl) la) pl la (plB (φ v) T (φ 8) pl la) → bOk (bst χ) → (∀ c, 0 ≤ c → c < la → χ (39 + pl) c = (stS (φ v) T (φ 8) (lik (φ 8) en 8 pl) pl c fr).1 ∧ χ (65 + pl) c = (stS (φ v) T (φ 8) (lik (φ 8) en 8 pl) pl c fr).2) → frC (fun a => a = 37 ∨ a = 39 + pl ∨ a = 65 + pl) φ χ → jJ X G B0 κF 113 0 0 Q 13 χ 127 [some (rf B0 37), some (rf B0 7), some (rf B0 o), some (iv fr), some (iv en), some (iv pl), some (iv (φ 37 2)), some (iv (φ 37 3)), some (iv (φ 8 pl)), some (iv la), none, none, none] [] := by
        intro χ j1 j2 j3 j4
        have jb := j2
        obtain ⟨b1, b2, b3⟩ := jb
        simp only [bst] at b1 b2 b3
        have hne : χ 37 2 ≠ -1 := by
          have hg := (agF_le (P := φ v) (T := T) (m := agM (lik (φ 8) en 8 pl) la) (q := pl) (la := la) (b := plB (φ v) T (φ 8) pl la) (by simp only [plB]; omega)).2
          rw [← j1] at hg
          exact hg
        have b3 := b3 hne
        have hst : (stS (φ v) T (φ 8) (lik (φ 8) en 8 pl) pl la fr) = if φ 37 2 ≠ -1 ∧ φ 37 3 < χ 37 3 then (φ 37 3, φ 37 2) else (χ 37 3, χ 37 2) := by
          unfold stS
          rw [← j1]
          by_cases z : φ 37 2 = -1
          · have z2 : (cpF (φ v) T (lik (φ 8) en 8 pl) pl fr (0, -1)).2 = -1 := hcp.1.symm.trans z
            rw [if_neg (fun q => q.1 z2), if_neg (fun q => q.1 z)]
            rfl
          · rw [← hcp.2 z]
            rfl
        refine j_iload_6 (n' := 129) F dX0_chooseFirsts_127 rfl ?_
        refine j_iconst (n' := 130) F dX0_chooseFirsts_129 rfl ?_
        refine j_icmp_eq (t := 146) (n' := 133) F (by omega) (by omega) dX0_chooseFirsts_130 (by decide) rfl (fun c130_0 => ?_) (fun c130_0 => ?_)
        · refine j_iconst (n' := 147) F dX0_chooseFirsts_146 rfl ?_
          refine j_istore_11 (n' := 149) F (by decide) jc_n dX0_chooseFirsts_147 rfl ?_
          refine j_aload_0 (n' := 150) F dX0_chooseFirsts_149 rfl ?_
          refine j_getR (n' := 153) F fl_X0_16 kap_37 rfl dX0_chooseFirsts_150 rfl ?_
          refine j_iload_5 (n' := 155) F dX0_chooseFirsts_153 rfl ?_
          refine j_aald (n' := 156) F kap_64 (by decide) (by omega) dX0_chooseFirsts_155 rfl ?_
          refine j_iload_9 (n' := 158) F dX0_chooseFirsts_156 rfl ?_
          refine j_iload_11 (n' := 160) F dX0_chooseFirsts_158 rfl ?_
          refine j_if_eq (t := 168) (n' := 163) F (by omega) dX0_chooseFirsts_160 (by decide) rfl (fun c160_1 => ?_) (fun c160_1 => ?_)
          · refine j_aload_0 (n' := 169) F dX0_chooseFirsts_168 rfl ?_
            refine j_getI (n' := 172) F 2 rfl fl_X0_19 kap_37 rfl dX0_chooseFirsts_169 rfl ?_
            refine j_iast (n' := 173) F (kap_fi (by omega)) (by decide) (by omega) dX0_chooseFirsts_172 rfl (fun φ3 e3 => ?_)
            refine j_aload_0 (n' := 174) F dX0_chooseFirsts_173 rfl ?_
            refine j_getR (n' := 177) F fl_X0_11 kap_37 rfl dX0_chooseFirsts_174 rfl ?_
            refine j_iload_5 (n' := 179) F dX0_chooseFirsts_177 rfl ?_
            refine j_aald (n' := 180) F kap_38 (by decide) (by omega) dX0_chooseFirsts_179 rfl ?_
            refine j_iload_9 (n' := 182) F dX0_chooseFirsts_180 rfl ?_
            refine j_iload_11 (n' := 184) F dX0_chooseFirsts_182 rfl ?_
            refine j_if_eq (t := 192) (n' := 187) F (by omega) dX0_chooseFirsts_184 (by decide) rfl (fun c184_3 => ?_) (fun c184_3 => ?_)
            · refine j_aload_0 (n' := 193) F dX0_chooseFirsts_192 rfl ?_
              refine j_getI (n' := 196) F 3 rfl fl_X0_23 kap_37 rfl dX0_chooseFirsts_193 rfl ?_
              refine j_iast (n' := 197) F (kap_we (by omega)) (by decide) (by omega) dX0_chooseFirsts_196 rfl (fun φ5 e5 => ?_)
              refine j_iinc_9 (n' := 200) F (by decide) jc_i dX0_chooseFirsts_197 rfl ?_
              refine j_goto (t := 23) F dX0_chooseFirsts_200 (by decide) ?_
              refine j_weak (by exact ⟨rfl, rfl, rfl, rfl, rfl, rfl, rfl, rfl, rfl, rfl, trivial⟩) (ih (la + 1) φ5 (by omega) (by omega) (fun c q1 q2 => ?_) ?_)
              · by_cases q : c = la
                · subst q
                  rw [hst, e5, e3]
                  first | (rw [if_pos (by omega)]; simp [zU]; done) | (rw [if_neg (by omega)]; simp [zU]; done) | (rw [if_pos (by omega)]; simp [zU]; omega) | (rw [if_neg (by omega)]; simp [zU]; omega)
                · rw [e5, e3, zU_ne (by omega), zU_ne (by omega), zU_ne (by omega), zU_ne (by omega)]
                  exact j3 c q1 (by omega)
              · rw [e5, e3]
                exact (j4.put (by omega)).put (by omega)
            · refine j_iload_7 (n' := 189) F dX0_chooseFirsts_187 rfl ?_
              refine j_goto (t := 196) F dX0_chooseFirsts_189 (by decide) ?_
              refine j_iast (n' := 197) F (kap_we (by omega)) (by decide) (by omega) dX0_chooseFirsts_196 rfl (fun φ6 e6 => ?_)
              refine j_iinc_9 (n' := 200) F (by decide) jc_i dX0_chooseFirsts_197 rfl ?_
              refine j_goto (t := 23) F dX0_chooseFirsts_200 (by decide) ?_
              refine j_weak (by exact ⟨rfl, rfl, rfl, rfl, rfl, rfl, rfl, rfl, rfl, rfl, trivial⟩) (ih (la + 1) φ6 (by omega) (by omega) (fun c q1 q2 => ?_) ?_)
              · by_cases q : c = la
                · subst q
                  rw [hst, e6, e3]
                  first | (rw [if_pos (by omega)]; simp [zU]; done) | (rw [if_neg (by omega)]; simp [zU]; done) | (rw [if_pos (by omega)]; simp [zU]; omega) | (rw [if_neg (by omega)]; simp [zU]; omega)
                · rw [e6, e3, zU_ne (by omega), zU_ne (by omega), zU_ne (by omega), zU_ne (by omega)]
                  exact j3 c q1 (by omega)
              · rw [e6, e3]
                exact (j4.put (by omega)).put (by omega)
          · refine j_iload_6 (n' := 165) F dX0_chooseFirsts_163 rfl ?_
            refine j_goto (t := 172) F dX0_chooseFirsts_165 (by decide) ?_
            refine j_iast (n' := 173) F (kap_fi (by omega)) (by decide) (by omega) dX0_chooseFirsts_172 rfl (fun φ7 e7 => ?_)
            refine j_aload_0 (n' := 174) F dX0_chooseFirsts_173 rfl ?_
            refine j_getR (n' := 177) F fl_X0_11 kap_37 rfl dX0_chooseFirsts_174 rfl ?_
            refine j_iload_5 (n' := 179) F dX0_chooseFirsts_177 rfl ?_
            refine j_aald (n' := 180) F kap_38 (by decide) (by omega) dX0_chooseFirsts_179 rfl ?_
            refine j_iload_9 (n' := 182) F dX0_chooseFirsts_180 rfl ?_
            refine j_iload_11 (n' := 184) F dX0_chooseFirsts_182 rfl ?_
            refine j_if_eq (t := 192) (n' := 187) F (by omega) dX0_chooseFirsts_184 (by decide) rfl (fun c184_7 => ?_) (fun c184_7 => ?_)
            · refine j_aload_0 (n' := 193) F dX0_chooseFirsts_192 rfl ?_
              refine j_getI (n' := 196) F 3 rfl fl_X0_23 kap_37 rfl dX0_chooseFirsts_193 rfl ?_
              refine j_iast (n' := 197) F (kap_we (by omega)) (by decide) (by omega) dX0_chooseFirsts_196 rfl (fun φ9 e9 => ?_)
              refine j_iinc_9 (n' := 200) F (by decide) jc_i dX0_chooseFirsts_197 rfl ?_
              refine j_goto (t := 23) F dX0_chooseFirsts_200 (by decide) ?_
              refine j_weak (by exact ⟨rfl, rfl, rfl, rfl, rfl, rfl, rfl, rfl, rfl, rfl, trivial⟩) (ih (la + 1) φ9 (by omega) (by omega) (fun c q1 q2 => ?_) ?_)
              · by_cases q : c = la
                · subst q
                  rw [hst, e9, e7]
                  first | (rw [if_pos (by omega)]; simp [zU]; done) | (rw [if_neg (by omega)]; simp [zU]; done) | (rw [if_pos (by omega)]; simp [zU]; omega) | (rw [if_neg (by omega)]; simp [zU]; omega)
                · rw [e9, e7, zU_ne (by omega), zU_ne (by omega), zU_ne (by omega), zU_ne (by omega)]
                  exact j3 c q1 (by omega)
              · rw [e9, e7]
                exact (j4.put (by omega)).put (by omega)
            · refine j_iload_7 (n' := 189) F dX0_chooseFirsts_187 rfl ?_
              refine j_goto (t := 196) F dX0_chooseFirsts_189 (by decide) ?_
              refine j_iast (n' := 197) F (kap_we (by omega)) (by decide) (by omega) dX0_chooseFirsts_196 rfl (fun φ10 e10 => ?_)
              refine j_iinc_9 (n' := 200) F (by decide) jc_i dX0_chooseFirsts_197 rfl ?_
              refine j_goto (t := 23) F dX0_chooseFirsts_200 (by decide) ?_
              refine j_weak (by exact ⟨rfl, rfl, rfl, rfl, rfl, rfl, rfl, rfl, rfl, rfl, trivial⟩) (ih (la + 1) φ10 (by omega) (by omega) (fun c q1 q2 => ?_) ?_)
              · by_cases q : c = la
                · subst q
                  rw [hst, e10, e7]
                  first | (rw [if_pos (by omega)]; simp [zU]; done) | (rw [if_neg (by omega)]; simp [zU]; done) | (rw [if_pos (by omega)]; simp [zU]; omega) | (rw [if_neg (by omega)]; simp [zU]; omega)
                · rw [e10, e7, zU_ne (by omega), zU_ne (by omega), zU_ne (by omega), zU_ne (by omega)]
                  exact j3 c q1 (by omega)
              · rw [e10, e7]
                exact (j4.put (by omega)).put (by omega)
        · refine j_iload_7 (n' := 135) F dX0_chooseFirsts_133 rfl ?_
          refine j_aload_0 (n' := 136) F dX0_chooseFirsts_135 rfl ?_
          refine j_getI (n' := 139) F 3 rfl fl_X0_23 kap_37 rfl dX0_chooseFirsts_136 rfl ?_
          refine j_icmp_ge (t := 146) (n' := 142) F (by omega) (by omega) dX0_chooseFirsts_139 (by decide) rfl (fun c139_10 => ?_) (fun c139_10 => ?_)
          · refine j_iconst (n' := 147) F dX0_chooseFirsts_146 rfl ?_
            refine j_istore_11 (n' := 149) F (by decide) jc_n dX0_chooseFirsts_147 rfl ?_
            refine j_aload_0 (n' := 150) F dX0_chooseFirsts_149 rfl ?_
            refine j_getR (n' := 153) F fl_X0_16 kap_37 rfl dX0_chooseFirsts_150 rfl ?_
            refine j_iload_5 (n' := 155) F dX0_chooseFirsts_153 rfl ?_
            refine j_aald (n' := 156) F kap_64 (by decide) (by omega) dX0_chooseFirsts_155 rfl ?_
            refine j_iload_9 (n' := 158) F dX0_chooseFirsts_156 rfl ?_
            refine j_iload_11 (n' := 160) F dX0_chooseFirsts_158 rfl ?_
            refine j_if_eq (t := 168) (n' := 163) F (by omega) dX0_chooseFirsts_160 (by decide) rfl (fun c160_11 => ?_) (fun c160_11 => ?_)
            · refine j_aload_0 (n' := 169) F dX0_chooseFirsts_168 rfl ?_
              refine j_getI (n' := 172) F 2 rfl fl_X0_19 kap_37 rfl dX0_chooseFirsts_169 rfl ?_
              refine j_iast (n' := 173) F (kap_fi (by omega)) (by decide) (by omega) dX0_chooseFirsts_172 rfl (fun φ13 e13 => ?_)
              refine j_aload_0 (n' := 174) F dX0_chooseFirsts_173 rfl ?_
              refine j_getR (n' := 177) F fl_X0_11 kap_37 rfl dX0_chooseFirsts_174 rfl ?_
              refine j_iload_5 (n' := 179) F dX0_chooseFirsts_177 rfl ?_
              refine j_aald (n' := 180) F kap_38 (by decide) (by omega) dX0_chooseFirsts_179 rfl ?_
              refine j_iload_9 (n' := 182) F dX0_chooseFirsts_180 rfl ?_
              refine j_iload_11 (n' := 184) F dX0_chooseFirsts_182 rfl ?_
              refine j_if_eq (t := 192) (n' := 187) F (by omega) dX0_chooseFirsts_184 (by decide) rfl (fun c184_13 => ?_) (fun c184_13 => ?_)
              · refine j_aload_0 (n' := 193) F dX0_chooseFirsts_192 rfl ?_
                refine j_getI (n' := 196) F 3 rfl fl_X0_23 kap_37 rfl dX0_chooseFirsts_193 rfl ?_
                refine j_iast (n' := 197) F (kap_we (by omega)) (by decide) (by omega) dX0_chooseFirsts_196 rfl (fun φ15 e15 => ?_)
                refine j_iinc_9 (n' := 200) F (by decide) jc_i dX0_chooseFirsts_197 rfl ?_
                refine j_goto (t := 23) F dX0_chooseFirsts_200 (by decide) ?_
                refine j_weak (by exact ⟨rfl, rfl, rfl, rfl, rfl, rfl, rfl, rfl, rfl, rfl, trivial⟩) (ih (la + 1) φ15 (by omega) (by omega) (fun c q1 q2 => ?_) ?_)
                · by_cases q : c = la
                  · subst q
                    rw [hst, e15, e13]
                    first | (rw [if_pos (by omega)]; simp [zU]; done) | (rw [if_neg (by omega)]; simp [zU]; done) | (rw [if_pos (by omega)]; simp [zU]; omega) | (rw [if_neg (by omega)]; simp [zU]; omega)
                  · rw [e15, e13, zU_ne (by omega), zU_ne (by omega), zU_ne (by omega), zU_ne (by omega)]
                    exact j3 c q1 (by omega)
                · rw [e15, e13]
                  exact (j4.put (by omega)).put (by omega)
              · refine j_iload_7 (n' := 189) F dX0_chooseFirsts_187 rfl ?_
                refine j_goto (t := 196) F dX0_chooseFirsts_189 (by decide) ?_
                refine j_iast (n' := 197) F (kap_we (by omega)) (by decide) (by omega) dX0_chooseFirsts_196 rfl (fun φ16 e16 => ?_)
                refine j_iinc_9 (n' := 200) F (by decide) jc_i dX0_chooseFirsts_197 rfl ?_
                refine j_goto (t := 23) F dX0_chooseFirsts_200 (by decide) ?_
                refine j_weak (by exact ⟨rfl, rfl, rfl, rfl, rfl, rfl, rfl, rfl, rfl, rfl, trivial⟩) (ih (la + 1) φ16 (by omega) (by omega) (fun c q1 q2 => ?_) ?_)
                · by_cases q : c = la
                  · subst q
                    rw [hst, e16, e13]
                    first | (rw [if_pos (by omega)]; simp [zU]; done) | (rw [if_neg (by omega)]; simp [zU]; done) | (rw [if_pos (by omega)]; simp [zU]; omega) | (rw [if_neg (by omega)]; simp [zU]; omega)
                  · rw [e16, e13, zU_ne (by omega), zU_ne (by omega), zU_ne (by omega), zU_ne (by omega)]
                    exact j3 c q1 (by omega)
                · rw [e16, e13]
                  exact (j4.put (by omega)).put (by omega)
            · refine j_iload_6 (n' := 165) F dX0_chooseFirsts_163 rfl ?_
              refine j_goto (t := 172) F dX0_chooseFirsts_165 (by decide) ?_
              refine j_iast (n' := 173) F (kap_fi (by omega)) (by decide) (by omega) dX0_chooseFirsts_172 rfl (fun φ17 e17 => ?_)
              refine j_aload_0 (n' := 174) F dX0_chooseFirsts_173 rfl ?_
              refine j_getR (n' := 177) F fl_X0_11 kap_37 rfl dX0_chooseFirsts_174 rfl ?_
              refine j_iload_5 (n' := 179) F dX0_chooseFirsts_177 rfl ?_
              refine j_aald (n' := 180) F kap_38 (by decide) (by omega) dX0_chooseFirsts_179 rfl ?_
              refine j_iload_9 (n' := 182) F dX0_chooseFirsts_180 rfl ?_
              refine j_iload_11 (n' := 184) F dX0_chooseFirsts_182 rfl ?_
              refine j_if_eq (t := 192) (n' := 187) F (by omega) dX0_chooseFirsts_184 (by decide) rfl (fun c184_17 => ?_) (fun c184_17 => ?_)
              · refine j_aload_0 (n' := 193) F dX0_chooseFirsts_192 rfl ?_
                refine j_getI (n' := 196) F 3 rfl fl_X0_23 kap_37 rfl dX0_chooseFirsts_193 rfl ?_
                refine j_iast (n' := 197) F (kap_we (by omega)) (by decide) (by omega) dX0_chooseFirsts_196 rfl (fun φ19 e19 => ?_)
                refine j_iinc_9 (n' := 200) F (by decide) jc_i dX0_chooseFirsts_197 rfl ?_
                refine j_goto (t := 23) F dX0_chooseFirsts_200 (by decide) ?_
                refine j_weak (by exact ⟨rfl, rfl, rfl, rfl, rfl, rfl, rfl, rfl, rfl, rfl, trivial⟩) (ih (la + 1) φ19 (by omega) (by omega) (fun c q1 q2 => ?_) ?_)
                · by_cases q : c = la
                  · subst q
                    rw [hst, e19, e17]
                    first | (rw [if_pos (by omega)]; simp [zU]; done) | (rw [if_neg (by omega)]; simp [zU]; done) | (rw [if_pos (by omega)]; simp [zU]; omega) | (rw [if_neg (by omega)]; simp [zU]; omega)
                  · rw [e19, e17, zU_ne (by omega), zU_ne (by omega), zU_ne (by omega), zU_ne (by omega)]
                    exact j3 c q1 (by omega)
                · rw [e19, e17]
                  exact (j4.put (by omega)).put (by omega)
              · refine j_iload_7 (n' := 189) F dX0_chooseFirsts_187 rfl ?_
                refine j_goto (t := 196) F dX0_chooseFirsts_189 (by decide) ?_
                refine j_iast (n' := 197) F (kap_we (by omega)) (by decide) (by omega) dX0_chooseFirsts_196 rfl (fun φ20 e20 => ?_)
                refine j_iinc_9 (n' := 200) F (by decide) jc_i dX0_chooseFirsts_197 rfl ?_
                refine j_goto (t := 23) F dX0_chooseFirsts_200 (by decide) ?_
                refine j_weak (by exact ⟨rfl, rfl, rfl, rfl, rfl, rfl, rfl, rfl, rfl, rfl, trivial⟩) (ih (la + 1) φ20 (by omega) (by omega) (fun c q1 q2 => ?_) ?_)
                · by_cases q : c = la
                  · subst q
                    rw [hst, e20, e17]
                    first | (rw [if_pos (by omega)]; simp [zU]; done) | (rw [if_neg (by omega)]; simp [zU]; done) | (rw [if_pos (by omega)]; simp [zU]; omega) | (rw [if_neg (by omega)]; simp [zU]; omega)
                  · rw [e20, e17, zU_ne (by omega), zU_ne (by omega), zU_ne (by omega), zU_ne (by omega)]
                    exact j3 c q1 (by omega)
                · rw [e20, e17]
                  exact (j4.put (by omega)).put (by omega)
          · refine j_iconst (n' := 143) F dX0_chooseFirsts_142 rfl ?_
            refine j_goto (t := 147) F dX0_chooseFirsts_143 (by decide) ?_
            refine j_istore_11 (n' := 149) F (by decide) jc_n dX0_chooseFirsts_147 rfl ?_
            refine j_aload_0 (n' := 150) F dX0_chooseFirsts_149 rfl ?_
            refine j_getR (n' := 153) F fl_X0_16 kap_37 rfl dX0_chooseFirsts_150 rfl ?_
            refine j_iload_5 (n' := 155) F dX0_chooseFirsts_153 rfl ?_
            refine j_aald (n' := 156) F kap_64 (by decide) (by omega) dX0_chooseFirsts_155 rfl ?_
            refine j_iload_9 (n' := 158) F dX0_chooseFirsts_156 rfl ?_
            refine j_iload_11 (n' := 160) F dX0_chooseFirsts_158 rfl ?_
            refine j_if_eq (t := 168) (n' := 163) F (by omega) dX0_chooseFirsts_160 (by decide) rfl (fun c160_20 => ?_) (fun c160_20 => ?_)
            · refine j_aload_0 (n' := 169) F dX0_chooseFirsts_168 rfl ?_
              refine j_getI (n' := 172) F 2 rfl fl_X0_19 kap_37 rfl dX0_chooseFirsts_169 rfl ?_
              refine j_iast (n' := 173) F (kap_fi (by omega)) (by decide) (by omega) dX0_chooseFirsts_172 rfl (fun φ22 e22 => ?_)
              refine j_aload_0 (n' := 174) F dX0_chooseFirsts_173 rfl ?_
              refine j_getR (n' := 177) F fl_X0_11 kap_37 rfl dX0_chooseFirsts_174 rfl ?_
              refine j_iload_5 (n' := 179) F dX0_chooseFirsts_177 rfl ?_
              refine j_aald (n' := 180) F kap_38 (by decide) (by omega) dX0_chooseFirsts_179 rfl ?_
              refine j_iload_9 (n' := 182) F dX0_chooseFirsts_180 rfl ?_
              refine j_iload_11 (n' := 184) F dX0_chooseFirsts_182 rfl ?_
              refine j_if_eq (t := 192) (n' := 187) F (by omega) dX0_chooseFirsts_184 (by decide) rfl (fun c184_22 => ?_) (fun c184_22 => ?_)
              · refine j_aload_0 (n' := 193) F dX0_chooseFirsts_192 rfl ?_
                refine j_getI (n' := 196) F 3 rfl fl_X0_23 kap_37 rfl dX0_chooseFirsts_193 rfl ?_
                refine j_iast (n' := 197) F (kap_we (by omega)) (by decide) (by omega) dX0_chooseFirsts_196 rfl (fun φ24 e24 => ?_)
                refine j_iinc_9 (n' := 200) F (by decide) jc_i dX0_chooseFirsts_197 rfl ?_
                refine j_goto (t := 23) F dX0_chooseFirsts_200 (by decide) ?_
                refine j_weak (by exact ⟨rfl, rfl, rfl, rfl, rfl, rfl, rfl, rfl, rfl, rfl, trivial⟩) (ih (la + 1) φ24 (by omega) (by omega) (fun c q1 q2 => ?_) ?_)
                · by_cases q : c = la
                  · subst q
                    rw [hst, e24, e22]
                    first | (rw [if_pos (by omega)]; simp [zU]; done) | (rw [if_neg (by omega)]; simp [zU]; done) | (rw [if_pos (by omega)]; simp [zU]; omega) | (rw [if_neg (by omega)]; simp [zU]; omega)
                  · rw [e24, e22, zU_ne (by omega), zU_ne (by omega), zU_ne (by omega), zU_ne (by omega)]
                    exact j3 c q1 (by omega)
                · rw [e24, e22]
                  exact (j4.put (by omega)).put (by omega)
              · refine j_iload_7 (n' := 189) F dX0_chooseFirsts_187 rfl ?_
                refine j_goto (t := 196) F dX0_chooseFirsts_189 (by decide) ?_
                refine j_iast (n' := 197) F (kap_we (by omega)) (by decide) (by omega) dX0_chooseFirsts_196 rfl (fun φ25 e25 => ?_)
                refine j_iinc_9 (n' := 200) F (by decide) jc_i dX0_chooseFirsts_197 rfl ?_
                refine j_goto (t := 23) F dX0_chooseFirsts_200 (by decide) ?_
                refine j_weak (by exact ⟨rfl, rfl, rfl, rfl, rfl, rfl, rfl, rfl, rfl, rfl, trivial⟩) (ih (la + 1) φ25 (by omega) (by omega) (fun c q1 q2 => ?_) ?_)
                · by_cases q : c = la
                  · subst q
                    rw [hst, e25, e22]
                    first | (rw [if_pos (by omega)]; simp [zU]; done) | (rw [if_neg (by omega)]; simp [zU]; done) | (rw [if_pos (by omega)]; simp [zU]; omega) | (rw [if_neg (by omega)]; simp [zU]; omega)
                  · rw [e25, e22, zU_ne (by omega), zU_ne (by omega), zU_ne (by omega), zU_ne (by omega)]
                    exact j3 c q1 (by omega)
                · rw [e25, e22]
                  exact (j4.put (by omega)).put (by omega)
            · refine j_iload_6 (n' := 165) F dX0_chooseFirsts_163 rfl ?_
              refine j_goto (t := 172) F dX0_chooseFirsts_165 (by decide) ?_
              refine j_iast (n' := 173) F (kap_fi (by omega)) (by decide) (by omega) dX0_chooseFirsts_172 rfl (fun φ26 e26 => ?_)
              refine j_aload_0 (n' := 174) F dX0_chooseFirsts_173 rfl ?_
              refine j_getR (n' := 177) F fl_X0_11 kap_37 rfl dX0_chooseFirsts_174 rfl ?_
              refine j_iload_5 (n' := 179) F dX0_chooseFirsts_177 rfl ?_
              refine j_aald (n' := 180) F kap_38 (by decide) (by omega) dX0_chooseFirsts_179 rfl ?_
              refine j_iload_9 (n' := 182) F dX0_chooseFirsts_180 rfl ?_
              refine j_iload_11 (n' := 184) F dX0_chooseFirsts_182 rfl ?_
              refine j_if_eq (t := 192) (n' := 187) F (by omega) dX0_chooseFirsts_184 (by decide) rfl (fun c184_26 => ?_) (fun c184_26 => ?_)
              · refine j_aload_0 (n' := 193) F dX0_chooseFirsts_192 rfl ?_
                refine j_getI (n' := 196) F 3 rfl fl_X0_23 kap_37 rfl dX0_chooseFirsts_193 rfl ?_
                refine j_iast (n' := 197) F (kap_we (by omega)) (by decide) (by omega) dX0_chooseFirsts_196 rfl (fun φ28 e28 => ?_)
                refine j_iinc_9 (n' := 200) F (by decide) jc_i dX0_chooseFirsts_197 rfl ?_
                refine j_goto (t := 23) F dX0_chooseFirsts_200 (by decide) ?_
                refine j_weak (by exact ⟨rfl, rfl, rfl, rfl, rfl, rfl, rfl, rfl, rfl, rfl, trivial⟩) (ih (la + 1) φ28 (by omega) (by omega) (fun c q1 q2 => ?_) ?_)
                · by_cases q : c = la
                  · subst q
                    rw [hst, e28, e26]
                    first | (rw [if_pos (by omega)]; simp [zU]; done) | (rw [if_neg (by omega)]; simp [zU]; done) | (rw [if_pos (by omega)]; simp [zU]; omega) | (rw [if_neg (by omega)]; simp [zU]; omega)
                  · rw [e28, e26, zU_ne (by omega), zU_ne (by omega), zU_ne (by omega), zU_ne (by omega)]
                    exact j3 c q1 (by omega)
                · rw [e28, e26]
                  exact (j4.put (by omega)).put (by omega)
              · refine j_iload_7 (n' := 189) F dX0_chooseFirsts_187 rfl ?_
                refine j_goto (t := 196) F dX0_chooseFirsts_189 (by decide) ?_
                refine j_iast (n' := 197) F (kap_we (by omega)) (by decide) (by omega) dX0_chooseFirsts_196 rfl (fun φ29 e29 => ?_)
                refine j_iinc_9 (n' := 200) F (by decide) jc_i dX0_chooseFirsts_197 rfl ?_
                refine j_goto (t := 23) F dX0_chooseFirsts_200 (by decide) ?_
                refine j_weak (by exact ⟨rfl, rfl, rfl, rfl, rfl, rfl, rfl, rfl, rfl, rfl, trivial⟩) (ih (la + 1) φ29 (by omega) (by omega) (fun c q1 q2 => ?_) ?_)
                · by_cases q : c = la
                  · subst q
                    rw [hst, e29, e26]
                    first | (rw [if_pos (by omega)]; simp [zU]; done) | (rw [if_neg (by omega)]; simp [zU]; done) | (rw [if_pos (by omega)]; simp [zU]; omega) | (rw [if_neg (by omega)]; simp [zU]; omega)
                  · rw [e29, e26, zU_ne (by omega), zU_ne (by omega), zU_ne (by omega), zU_ne (by omega)]
                    exact j3 c q1 (by omega)
                · rw [e29, e26]
                  exact (j4.put (by omega)).put (by omega)
      have inner : ∀ (j : Nat) (n : Int) (χ : jPhi), n + j = max 2 (agM (lik (φ 8) en 8 pl) la + 1) → 2 ≤ n → bOk (bst χ) → lpI (agI (φ v) T pl la) n (agM (lik (φ 8) en 8 pl) la + 1) (bst χ) = agF (φ v) T (agM (lik (φ 8) en 8 pl) la) pl la (plB (φ v) T (φ 8) pl la) → (∀ c, 0 ≤ c → c < la → χ (39 + pl) c = (stS (φ v) T (φ 8) (lik (φ 8) en 8 pl) pl c fr).1 ∧ χ (65 + pl) c = (stS (φ v) T (φ 8) (lik (φ 8) en 8 pl) pl c fr).2) → frC (fun a => a = 37 ∨ a = 39 + pl ∨ a = 65 + pl) φ χ → jJ X G B0 κF 113 0 0 Q 13 χ 82 [some (rf B0 37), some (rf B0 7), some (rf B0 o), some (iv fr), some (iv en), some (iv pl), some (iv (φ 37 2)), some (iv (φ 37 3)), some (iv (φ 8 pl)), some (iv la), some (iv (agM (lik (φ 8) en 8 pl) la)), some (iv n), none] [] := by
        intro j
        induction j with
        | zero =>
          intro n χ g1 g2 g3 g4 g5 g6
          rw [lpI_end (by omega)] at g4
          refine j_iload_11 (n' := 84) F dX0_chooseFirsts_82 rfl ?_
          refine j_iload_10 (n' := 86) F dX0_chooseFirsts_84 rfl ?_
          refine j_icmp_gt (t := 127) (n' := 89) F (by omega) (by omega) dX0_chooseFirsts_86 (by decide) rfl (fun c86_0 => ?_) (fun c86_0 => ?_)
          · exact j_weak (by exact ⟨rfl, rfl, rfl, rfl, rfl, rfl, rfl, rfl, rfl, rfl, trivial⟩) (join χ g4 g3 g5 g6)
          · omega
        | succ j ihj =>
          intro n χ g1 g2 g3 g4 g5 g6
          have uv : χ v = φ v := funext fun b => g6 v b (by omega)
          have hTb := (hT (pl + n) la (by omega) (by omega) (by omega) (by omega)).2
          have hT1 : χ (39 + (pl + n)) la = T (pl + n) la := hTr _ _ (by omega) (by omega) (by omega) (by omega) χ g6
          have hpb := tkPrice_bd hP (100 + n)
          obtain ⟨tk1, tk2, tk3⟩ := tk_again (j := n) (by omega) la
          rw [lpI_step (by omega)] at g4
          refine j_iload_11 (n' := 84) F dX0_chooseFirsts_82 rfl ?_
          refine j_iload_10 (n' := 86) F dX0_chooseFirsts_84 rfl ?_
          refine j_icmp_gt (t := 127) (n' := 89) F (by omega) (by omega) dX0_chooseFirsts_86 (by decide) rfl (fun c86_0 => ?_) (fun c86_0 => ?_)
          · omega
          · refine j_iload_11 (n' := 91) F dX0_chooseFirsts_89 rfl ?_
            refine j_cS1i (n' := 94) F kl_X0_75 (c_Tok_again) (by decide) (Nat.le_of_ble_eq_true rfl) dX0_chooseFirsts_91 rfl (fun z2 φ2 h2 => ?_)
            obtain ⟨rfl, rfl⟩ := h2
            refine j_istore_12 (n' := 96) F (by decide) jc_i dX0_chooseFirsts_94 rfl ?_
            refine j_aload_0 (n' := 97) F dX0_chooseFirsts_96 rfl ?_
            refine j_iload_12 (n' := 99) F dX0_chooseFirsts_97 rfl ?_
            refine j_aload_2 (n' := 100) F dX0_chooseFirsts_99 rfl ?_
            refine j_iload_12 (n' := 102) F dX0_chooseFirsts_100 rfl ?_
            refine j_cV1i (n' := 105) F kl_X0_62 (c_Pri_ofToken hk hv tk1 (by rw [uv]; exact hP)) hk rfl (by decide) (Nat.le_of_ble_eq_true rfl) dX0_chooseFirsts_102 rfl (fun z3 φ3 h3 => ?_)
            obtain ⟨rfl, rfl⟩ := h3
            rw [uv]
            refine j_aload_0 (n' := 106) F dX0_chooseFirsts_105 rfl ?_
            refine j_getR (n' := 109) F fl_X0_11 kap_37 rfl dX0_chooseFirsts_106 rfl ?_
            refine j_iload_5 (n' := 111) F dX0_chooseFirsts_109 rfl ?_
            refine j_iload_11 (n' := 113) F dX0_chooseFirsts_111 rfl ?_
            refine j_iadd (n' := 114) F dX0_chooseFirsts_113 rfl ?_
            refine j_aald (n' := 115) F kap_38 (by decide) (by omega) dX0_chooseFirsts_114 rfl ?_
            refine j_iload_9 (n' := 117) F dX0_chooseFirsts_115 rfl ?_
            refine j_iald (n' := 118) F (kap_we (by omega)) (by decide) (by omega) dX0_chooseFirsts_117 rfl ?_
            rw [hT1]
            refine j_cV3v (n' := 121) F kl_X0_68 (c_Cho_consider (by omega) (by omega) g3) kap_37 rfl (by decide) (Nat.le_of_ble_eq_true rfl) dX0_chooseFirsts_118 rfl (fun z4 φ4 h4 => ?_)
            obtain ⟨hc4, hf4⟩ := h4
            refine j_iinc_11 (n' := 124) F (by decide) jc_i dX0_chooseFirsts_121 rfl ?_
            refine j_goto (t := 82) F dX0_chooseFirsts_124 (by decide) ?_
            refine j_weak (by exact ⟨rfl, rfl, rfl, rfl, rfl, rfl, rfl, rfl, rfl, rfl, rfl, rfl, trivial⟩) (ihj (n + 1) φ4 (by omega) (by omega) (by rw [hc4]; exact bOk_cnd g3 (by omega) (by unfold tkOk at tk1; omega)) (by rw [hc4]; exact g4) (fun c q1 q2 => ?_) (g6.tr (hf4.wk (fun _ h => Or.inl h))))
            rw [hf4 (39 + pl) c (by omega), hf4 (65 + pl) c (by omega)]
            exact g5 c q1 q2
      have uv : ∀ χ : jPhi, frC (fun a => a = 37 ∨ a = 39 + pl ∨ a = 65 + pl) φ χ → χ v = φ v := fun χ hχ => funext fun b => hχ v b (by omega)
      have hpb := tkPrice_bd hP (φ 8 pl)
      have hTb := (hT (pl + 1) la (by omega) (by omega) (by omega) (by omega)).2
      refine j_iload_9 (n' := 25) F dX0_chooseFirsts_23 rfl ?_
      refine j_iload_5 (n' := 27) F dX0_chooseFirsts_25 rfl ?_
      refine j_iload_3 (n' := 28) F dX0_chooseFirsts_27 rfl ?_
      refine j_isub (n' := 29) F dX0_chooseFirsts_28 rfl ?_
      refine j_icmp_gt (t := 203) (n' := 32) F (by omega) (by omega) dX0_chooseFirsts_29 (by decide) rfl (fun c29_0 => ?_) (fun c29_0 => ?_)
      · omega
      · refine j_aload_0 (n' := 33) F dX0_chooseFirsts_32 rfl ?_
        refine j_iconst (n' := 34) F dX0_chooseFirsts_33 rfl ?_
        refine j_putI (n' := 37) F 2 rfl fp_X0_19 kap_37 rfl rfl dX0_chooseFirsts_34 rfl (fun φ2 e2 => ?_)
        have hfa : frC (fun a => a = 37 ∨ a = 39 + pl ∨ a = 65 + pl) φ φ2 := by rw [e2]; exact h4.put (Or.inl rfl)
        have uva := uv φ2 hfa
        have hT1 : φ2 (39 + (pl + 1)) la = T (pl + 1) la := hTr _ _ (by omega) (by omega) (by omega) (by omega) φ2 hfa
        refine j_aload_0 (n' := 38) F dX0_chooseFirsts_37 rfl ?_
        refine j_iload_8 (n' := 40) F dX0_chooseFirsts_38 rfl ?_
        refine j_aload_2 (n' := 41) F dX0_chooseFirsts_40 rfl ?_
        refine j_iload_8 (n' := 43) F dX0_chooseFirsts_41 rfl ?_
        refine j_cV1i (n' := 46) F kl_X0_62 (c_Pri_ofToken hk hv (by unfold tkOk; omega) (by rw [uva]; exact hP)) hk rfl (by decide) (Nat.le_of_ble_eq_true rfl) dX0_chooseFirsts_43 rfl (fun z3 φ3 h3 => ?_)
        obtain ⟨rfl, rfl⟩ := h3
        rw [uva]
        refine j_aload_0 (n' := 47) F dX0_chooseFirsts_46 rfl ?_
        refine j_getR (n' := 50) F fl_X0_11 kap_37 rfl dX0_chooseFirsts_47 rfl ?_
        refine j_iload_5 (n' := 52) F dX0_chooseFirsts_50 rfl ?_
        refine j_iconst (n' := 53) F dX0_chooseFirsts_52 rfl ?_
        refine j_iadd (n' := 54) F dX0_chooseFirsts_53 rfl ?_
        refine j_aald (n' := 55) F kap_38 (by decide) (by omega) dX0_chooseFirsts_54 rfl ?_
        refine j_iload_9 (n' := 57) F dX0_chooseFirsts_55 rfl ?_
        refine j_iald (n' := 58) F (kap_we (by omega)) (by decide) (by omega) dX0_chooseFirsts_57 rfl ?_
        rw [hT1]
        refine j_cV3v (n' := 61) F kl_X0_68 (c_Cho_consider (by omega) (by omega) (by rw [e2]; unfold bst bOk; simp [zU])) kap_37 rfl (by decide) (Nat.le_of_ble_eq_true rfl) dX0_chooseFirsts_58 rfl (fun z4 φ4 h4 => ?_)
        obtain ⟨hc4, hf4⟩ := h4
        refine j_aload_1 (n' := 62) F dX0_chooseFirsts_61 rfl ?_
        refine j_iload_5 (n' := 64) F dX0_chooseFirsts_62 rfl ?_
        refine j_iload_9 (n' := 66) F dX0_chooseFirsts_64 rfl ?_
        refine j_cV2i (n' := 69) F kl_X0_48 (c_Txt_likeness (by rw [(hfa.tr (hf4.wk (fun _ h => Or.inl h)) : frC (fun a => a = 37 ∨ a = 39 + pl ∨ a = 65 + pl) φ φ4) 7 2 (by omega)]; exact hs) (by omega) (by omega)) kap_7 rfl (by decide) (Nat.le_of_ble_eq_true rfl) dX0_chooseFirsts_66 rfl (fun z5 φ5 h5 => ?_)
        obtain ⟨rfl, rfl⟩ := h5
        refine j_iload_4 (n' := 71) F dX0_chooseFirsts_69 rfl ?_
        refine j_iload_5 (n' := 73) F dX0_chooseFirsts_71 rfl ?_
        refine j_isub (n' := 74) F dX0_chooseFirsts_73 rfl ?_
        refine j_min (n' := 77) F q_422 (by decide) (Nat.le_of_ble_eq_true rfl) (by exact hlr _ (hfa.tr (hf4.wk (fun _ h => Or.inl h)))) (by omega) dX0_chooseFirsts_74 rfl ?_
        rw [hlk φ4 (hfa.tr (hf4.wk (fun _ h => Or.inl h)))]
        refine j_istore_10 (n' := 79) F (by decide) jc_i dX0_chooseFirsts_77 rfl ?_
        refine j_iconst (n' := 80) F dX0_chooseFirsts_79 rfl ?_
        refine j_istore_11 (n' := 82) F (by decide) jc_i dX0_chooseFirsts_80 rfl ?_
        have hfr : frC (fun a => a = 37 ∨ a = 39 + pl ∨ a = 65 + pl) φ φ4 := (hfa).tr (hf4.wk (fun _ h => Or.inl h))
        exact j_weak (by exact ⟨rfl, rfl, rfl, rfl, rfl, rfl, rfl, rfl, rfl, rfl, rfl, rfl, trivial⟩) (inner (agM (lik (φ 8) en 8 pl) la + 1 - 2).toNat 2 φ4 (by omega) (by omega) (by rw [hc4]; exact bOk_cnd (by rw [e2]; unfold bst bOk; simp [zU]) (by omega) (by omega)) (by rw [hc4, e2]; unfold bst cnd; simp [zU, plB, agF]) (fun c q1 q2 => by rw [hf4 (39 + pl) c (by omega), hf4 (65 + pl) c (by omega), e2, zU_ne (by omega), zU_ne (by omega)]; exact h3 c q1 q2) hfr)
  refine j_aload_0 (n' := 1) F dX0_chooseFirsts_0 rfl ?_
  refine j_getI (n' := 4) F 2 rfl fl_X0_19 kap_37 rfl dX0_chooseFirsts_1 rfl ?_
  refine j_istore_6 (n' := 6) F (by decide) jc_i dX0_chooseFirsts_4 rfl ?_
  refine j_aload_0 (n' := 7) F dX0_chooseFirsts_6 rfl ?_
  refine j_getI (n' := 10) F 3 rfl fl_X0_23 kap_37 rfl dX0_chooseFirsts_7 rfl ?_
  refine j_istore_7 (n' := 12) F (by decide) jc_i dX0_chooseFirsts_10 rfl ?_
  refine j_aload_1 (n' := 13) F dX0_chooseFirsts_12 rfl ?_
  refine j_iload_5 (n' := 15) F dX0_chooseFirsts_13 rfl ?_
  refine j_cV1i (n' := 18) F kl_X0_72 (c_Txt_letterAt hs (by omega)) kap_7 rfl (by decide) (Nat.le_of_ble_eq_true rfl) dX0_chooseFirsts_15 rfl (fun z1 φ1 h1 => ?_)
  obtain ⟨rfl, rfl⟩ := h1
  rw [if_pos (by omega)]
  refine j_istore_8 (n' := 20) F (by decide) jc_i dX0_chooseFirsts_18 rfl ?_
  refine j_iconst (n' := 21) F dX0_chooseFirsts_20 rfl ?_
  refine j_istore_9 (n' := 23) F (by decide) jc_i dX0_chooseFirsts_21 rfl ?_
  exact outer (pl - fr + 1).toNat 0 φ (by omega) (by omega) (fun c q1 q2 => by omega) frC.rf
end
section
theorem alOk.fr {φ φ' : jPhi} (hs : φ 7 2 ≤ 24) (h : alOk φ) (hf : ∀ a, (a = 7 ∨ a = 8 ∨ (10 ≤ a ∧ a < 34)) → ∀ b, φ' a b = φ a b) : alOk φ' := by
  intro p d h1 h2 h3
  have e7 : φ' 7 2 = φ 7 2 := hf 7 (Or.inl rfl) 2
  have e8 : φ' 8 = φ 8 := funext (hf 8 (Or.inr (Or.inl rfl)))
  rw [e7] at h3
  rw [e7, e8, hf (10 + p) (by omega) d]
  exact h p d h1 h2 h3
set_option maxRecDepth 20000 in
theorem c_Cho_collect {l : Launch} {G : jG} {B0 : Nat} {φ : jPhi} {fr en ro rr : Int} {F0 : Int → Int → Int} (hk2 : κF ro = some (.inl (5, [.inl rr, .inr 0, .inr 0, .inr 0]))) (hr2 : κF rr = some (.inr (.inl 24))) (hrs : (ro = 90 ∧ rr = 91) ∨ (ro = 97 ∧ rr = 98)) (hp : 0 ≤ fr ∧ fr ≤ en ∧ en ≤ 24) (hF : ∀ q la, fr ≤ q → q < en → 0 ≤ la → la ≤ q - fr → φ (65 + q) la = F0 q la ∧ tkOk (F0 q la) ∧ q + tkLen (F0 q la) ≤ en ∧ (1000 ≤ F0 q la → tkDist (F0 q la) ≤ q - fr)) (ht : rowIs φ ro rr []) : jC l G B0 κF 113 yX0_collect cX0_collect 7 none 2 [rf B0 37, iv fr, iv en, rf B0 ro] φ mkV (fun z φ' => rowIs φ' ro rr (wlk F0 en 24 fr 0) ∧ frC (fun a => a = ro ∨ a = rr) φ φ') := by
  refine jC_start RX0 [some (rf B0 37), some (iv fr), some (iv en), some (rf B0 ro), none, none, none] (by decide) rfl (Nat.le_of_ble_eq_true rfl) rfl (fun X Q F E => ?_)
  have loop : ∀ (k : Nat) (p la : Int) (ac : List Int) (ψ : jPhi), en - p ≤ k → fr ≤ p → p ≤ en → 0 ≤ la → la ≤ p - fr → (ac.length : Int) ≤ p - fr → rowIs ψ ro rr ac → ac ++ wlk F0 en k p la = wlk F0 en 24 fr 0 → frC (fun a => a = ro ∨ a = rr) φ ψ → jJ X G B0 κF 113 0 0 Q 7 ψ 6 [some (rf B0 37), some (iv fr), some (iv en), some (rf B0 ro), some (iv la), some (iv p), none] [] := by
    intro k
    induction k with
    | zero =>
      intro p la ac ψ h1 h2 h3 h4 h5 h6 h7 h8 h9
      rw [wlk, List.append_nil] at h8
      refine j_iload_5 (n' := 8) F dX0_collect_6 rfl ?_
      refine j_iload_2 (n' := 9) F dX0_collect_8 rfl ?_
      refine j_icmp_ge (t := 67) (n' := 12) F (by omega) (by omega) dX0_collect_9 (by decide) rfl (fun c9_0 => ?_) (fun c9_0 => ?_)
      · exact j_return F E dX0_collect_67 (⟨h8 ▸ h7, h9⟩)
      · omega
    | succ k ih =>
      intro p la ac ψ h1 h2 h3 h4 h5 h6 h7 h8 h9
      rw [wlk] at h8
      by_cases hpe : p < en
      · rw [if_pos hpe] at h8
        obtain ⟨f1, f2, f3, f4⟩ := hF p la h2 hpe h4 h5
        have f1 : ψ (65 + p) la = F0 p la := (h9 (65 + p) la (by omega)).trans f1
        generalize F0 p la = x at *
        have hlen : 1 ≤ tkLen x ∧ tkLen x ≤ 8 := by unfold tkOk at f2; unfold tkLen; split <;> omega
        have hdi : 0 ≤ tkDist x ∧ tkDist x ≤ 24 := by unfold tkOk at f2; unfold tkDist; split <;> omega
        have hxr : -2147483648 ≤ x ∧ x ≤ 2147483647 := by unfold tkOk at f2; omega
        refine j_iload_5 (n' := 8) F dX0_collect_6 rfl ?_
        refine j_iload_2 (n' := 9) F dX0_collect_8 rfl ?_
        refine j_icmp_ge (t := 67) (n' := 12) F (by first | omega | (split <;> omega)) (by first | omega | (split <;> omega)) dX0_collect_9 (by decide) rfl (fun c9_0 => ?_) (fun c9_0 => ?_)
        · omega
        · refine j_aload_0 (n' := 13) F dX0_collect_12 rfl ?_
          refine j_getR (n' := 16) F fl_X0_16 kap_37 rfl dX0_collect_13 rfl ?_
          refine j_iload_5 (n' := 18) F dX0_collect_16 rfl ?_
          refine j_aald (n' := 19) F kap_64 (by decide) (by first | omega | (split <;> omega)) dX0_collect_18 rfl ?_
          refine j_iload_4 (n' := 21) F dX0_collect_19 rfl ?_
          refine j_iald (n' := 22) F (kap_fi (by first | omega | (split <;> omega))) (by decide) (by first | omega | (split <;> omega)) dX0_collect_21 rfl ?_
          rw [f1]
          refine j_istore_6 (n' := 24) F (by decide) jc_i dX0_collect_22 rfl ?_
          refine j_aload_3 (n' := 25) F dX0_collect_24 rfl ?_
          refine j_iload_6 (n' := 27) F dX0_collect_25 rfl ?_
          refine j_cV1v (n' := 30) F kl_X0_78 (c_Row_add hk2 hr2 (by omega) h7 (by omega) hxr) hk2 rfl (by decide) (Nat.le_of_ble_eq_true rfl) dX0_collect_27 rfl (fun z2 φ2 h2 => ?_)
          obtain ⟨hra2, hfa2⟩ := h2
          refine j_iload_6 (n' := 32) F dX0_collect_30 rfl ?_
          refine j_cS1i (n' := 35) F kl_X0_82 (c_Tok_isCopy hxr) (by decide) (Nat.le_of_ble_eq_true rfl) dX0_collect_32 rfl (fun z3 φ3 h3 => ?_)
          obtain ⟨rfl, rfl⟩ := h3
          refine j_if_eq (t := 50) (n' := 38) F (by first | omega | (split <;> omega)) dX0_collect_35 (by decide) rfl (fun c35_3 => ?_) (fun c35_3 => ?_)
          · refine j_iload_5 (n' := 52) F dX0_collect_50 rfl ?_
            refine j_iconst (n' := 53) F dX0_collect_52 rfl ?_
            refine j_iload_6 (n' := 55) F dX0_collect_53 rfl ?_
            refine j_cS1i (n' := 58) F kl_X0_89 (c_Tok_lengthOf hxr) (by decide) (Nat.le_of_ble_eq_true rfl) dX0_collect_55 rfl (fun z5 φ5 h5 => ?_)
            obtain ⟨rfl, rfl⟩ := h5
            refine j_max (n' := 61) F q_450 (by decide) (Nat.le_of_ble_eq_true rfl) (by first | omega | (split <;> omega)) (by first | omega | (split <;> omega)) dX0_collect_58 rfl ?_
            rw [show max 1 (tkLen x) = tkLen x by omega]
            refine j_iadd (n' := 62) F dX0_collect_61 rfl ?_
            refine j_istore_5 (n' := 64) F (by decide) jc_i dX0_collect_62 rfl ?_
            refine j_goto (t := 6) F dX0_collect_64 (by decide) ?_
            have hwl : (ac ++ [x]) ++ wlk F0 en k (p + tkLen x) (nxL la x) = wlk F0 en 24 fr 0 := by
              rw [← h8, List.append_assoc]
              rfl
            first
              | exact j_weak (by exact ⟨rfl, rfl, rfl, rfl, rfl, rfl, trivial⟩) (ih (p + tkLen x) (nxL la x) (ac ++ [x]) φ2 (by omega) (by omega) (by omega) (by unfold nxL; split <;> omega) (by unfold nxL; split <;> omega) (by simp; omega) hra2 hwl (h9.tr hfa2))
              | exact j_weak (by exact ⟨rfl, rfl, rfl, rfl, rfl, rfl, trivial⟩) (ih (p + tkLen x) la (ac ++ [x]) φ2 (by omega) (by omega) (by omega) (by omega) (by omega) (by simp; omega) hra2 (by rw [show nxL la x = la by unfold nxL; rw [if_neg (by omega)]] at hwl; exact hwl) (h9.tr hfa2))
          · refine j_bipush (n' := 40) F dX0_collect_38 (by decide) rfl ?_
            refine j_iload_6 (n' := 42) F dX0_collect_40 rfl ?_
            refine j_cS1i (n' := 45) F kl_X0_86 (c_Tok_distanceOf hxr) (by decide) (Nat.le_of_ble_eq_true rfl) dX0_collect_42 rfl (fun z6 φ6 h6 => ?_)
            obtain ⟨rfl, rfl⟩ := h6
            refine j_min (n' := 48) F q_422 (by decide) (Nat.le_of_ble_eq_true rfl) (by first | omega | (split <;> omega)) (by first | omega | (split <;> omega)) dX0_collect_45 rfl ?_
            rw [show min 24 (tkDist x) = nxL la x by unfold nxL; rw [if_pos (by omega)]; omega]
            refine j_istore_4 (n' := 50) F (by decide) jc_r dX0_collect_48 rfl ?_
            refine j_iload_5 (n' := 52) F dX0_collect_50 rfl ?_
            refine j_iconst (n' := 53) F dX0_collect_52 rfl ?_
            refine j_iload_6 (n' := 55) F dX0_collect_53 rfl ?_
            refine j_cS1i (n' := 58) F kl_X0_89 (c_Tok_lengthOf hxr) (by decide) (Nat.le_of_ble_eq_true rfl) dX0_collect_55 rfl (fun z7 φ7 h7 => ?_)
            obtain ⟨rfl, rfl⟩ := h7
            refine j_max (n' := 61) F q_450 (by decide) (Nat.le_of_ble_eq_true rfl) (by first | omega | (split <;> omega)) (by first | omega | (split <;> omega)) dX0_collect_58 rfl ?_
            rw [show max 1 (tkLen x) = tkLen x by omega]
            refine j_iadd (n' := 62) F dX0_collect_61 rfl ?_
            refine j_istore_5 (n' := 64) F (by decide) jc_i dX0_collect_62 rfl ?_
            refine j_goto (t := 6) F dX0_collect_64 (by decide) ?_
            have hwl : (ac ++ [x]) ++ wlk F0 en k (p + tkLen x) (nxL la x) = wlk F0 en 24 fr 0 := by
              rw [← h8, List.append_assoc]
              rfl
            first
              | exact j_weak (by exact ⟨rfl, rfl, rfl, rfl, rfl, rfl, trivial⟩) (ih (p + tkLen x) (nxL la x) (ac ++ [x]) φ2 (by omega) (by omega) (by omega) (by unfold nxL; split <;> omega) (by unfold nxL; split <;> omega) (by simp; omega) hra2 hwl (h9.tr hfa2))
              | exact j_weak (by exact ⟨rfl, rfl, rfl, rfl, rfl, rfl, trivial⟩) (ih (p + tkLen x) la (ac ++ [x]) φ2 (by omega) (by omega) (by omega) (by omega) (by omega) (by simp; omega) hra2 (by rw [show nxL la x = la by unfold nxL; rw [if_neg (by omega)]] at hwl; exact hwl) (h9.tr hfa2))
      · rw [if_neg hpe, List.append_nil] at h8
        refine j_iload_5 (n' := 8) F dX0_collect_6 rfl ?_
        refine j_iload_2 (n' := 9) F dX0_collect_8 rfl ?_
        refine j_icmp_ge (t := 67) (n' := 12) F (by omega) (by omega) dX0_collect_9 (by decide) rfl (fun c9_0 => ?_) (fun c9_0 => ?_)
        · exact j_return F E dX0_collect_67 (⟨h8 ▸ h7, h9⟩)
        · omega
  refine j_iconst (n' := 1) F dX0_collect_0 rfl ?_
  refine j_istore_4 (n' := 3) F (by decide) jc_r dX0_collect_1 rfl ?_
  refine j_iload_1 (n' := 4) F dX0_collect_3 rfl ?_
  refine j_istore_5 (n' := 6) F (by decide) jc_i dX0_collect_4 rfl ?_
  exact loop 24 fr 0 [] φ (by omega) (by omega) (by omega) (by omega) (by omega) (by simp) ht rfl frC.rf
set_option maxRecDepth 20000 in
theorem c_Cho_choose {l : Launch} {G : jG} {B0 : Nat} {φ : jPhi} {o v w fr en ro rr : Int} (hs : 0 ≤ φ 7 2 ∧ φ 7 2 ≤ 24) (hal : alOk φ) (hle : txOk (φ 8) (φ 7 2)) (hk : κF o = some (.inl (3, [.inl v, .inl w]))) (hv : κF v = some (.inr (.inl 18))) (hvs : v = 35 ∨ v = 95) (hP : prOk (φ v)) (hk2 : κF ro = some (.inl (5, [.inl rr, .inr 0, .inr 0, .inr 0]))) (hr2 : κF rr = some (.inr (.inl 24))) (hrs : (ro = 90 ∧ rr = 91) ∨ (ro = 97 ∧ rr = 98)) (hp : 0 ≤ fr ∧ fr ≤ en ∧ en ≤ φ 7 2) : jC l G B0 κF 113 yX0_choose cX0_choose 7 none 3 [rf B0 37, rf B0 7, rf B0 o, iv fr, iv en, rf B0 ro] φ mkV (fun z φ' => rowIs φ' ro rr (toks (φ v) (φ 8) fr en) ∧ frC (fun a => a = 37 ∨ (39 ≤ a ∧ a < 64) ∨ (65 ≤ a ∧ a < 90) ∨ a = ro ∨ a = rr) φ φ') := by
  refine jC_start RX0 [some (rf B0 37), some (rf B0 7), some (rf B0 o), some (iv fr), some (iv en), some (rf B0 ro), none] (by decide) rfl (Nat.le_of_ble_eq_true rfl) rfl (fun X Q F E => ?_)
  have hte : txOk (φ 8) en := fun k q1 q2 => hle k q1 (by omega)
  have hwb : ∀ q la, fr ≤ q → q ≤ en → 0 ≤ Tw (φ v) (φ 8) fr en q la ∧ Tw (φ v) (φ 8) fr en q la ≤ 24000 := fun q la q1 q2 => by
    have := Tw_bd hP hp.1 (by omega) hte (en - q).toNat q la q1 q2 rfl
    omega
  have fin : ∀ (ψ : jPhi), fr < en → (∀ q la, fr ≤ q → q < en → 0 ≤ la → la ≤ q - fr → ψ (65 + q) la = Tf (φ v) (φ 8) fr en q la) → rowIs ψ ro rr [] → frC (fun a => a = 37 ∨ (39 ≤ a ∧ a < 64) ∨ (65 ≤ a ∧ a < 90) ∨ a = ro ∨ a = rr) φ ψ → jJ X G B0 κF 113 0 0 Q 7 ψ 101 [some (rf B0 37), some (rf B0 7), some (rf B0 o), some (iv fr), some (iv en), some (rf B0 ro), none] [] := by
    intro ψ h0 h1 h2 h3
    refine j_aload_0 (n' := 102) F dX0_choose_101 rfl ?_
    refine j_iload_3 (n' := 103) F dX0_choose_102 rfl ?_
    refine j_iload_4 (n' := 105) F dX0_choose_103 rfl ?_
    refine j_aload_5 (n' := 107) F dX0_choose_105 rfl ?_
    refine j_cV3v (n' := 110) F kl_X0_44 (c_Cho_collect hk2 hr2 hrs (F0 := Tf (φ v) (φ 8) fr en) (by omega) (fun q la q1 q2 q3 q4 => ⟨h1 q la q1 q2 q3 q4, (Tb_ok hp.1 (by omega) hte q1 q2).1, (Tb_ok hp.1 (by omega) hte q1 q2).2.1, (Tb_ok hp.1 (by omega) hte q1 q2).2.2.1⟩) h2) kap_37 rfl (by decide) (Nat.le_of_ble_eq_true rfl) dX0_choose_107 rfl (fun z1 φ1 h1 => ?_)
    obtain ⟨ha1, hb1⟩ := h1
    exact j_return F E dX0_choose_110 (⟨ha1, h3.tr (hb1.wk (fun a h => by omega))⟩)
  have down : ∀ (m : Nat) (p : Int) (ψ : jPhi), fr < en → p + 1 = fr + m → p < en → (∀ q la, p < q → q ≤ en → 0 ≤ la → la ≤ q - fr → ψ (39 + q) la = Tw (φ v) (φ 8) fr en q la ∧ (q < en → ψ (65 + q) la = Tf (φ v) (φ 8) fr en q la)) → rowIs ψ ro rr [] → frC (fun a => a = 37 ∨ (39 ≤ a ∧ a < 64) ∨ (65 ≤ a ∧ a < 90) ∨ a = ro ∨ a = rr) φ ψ → jJ X G B0 κF 113 0 0 Q 7 ψ 67 [some (rf B0 37), some (rf B0 7), some (rf B0 o), some (iv fr), some (iv en), some (rf B0 ro), some (iv p)] [] := by
    intro m
    induction m with
    | zero =>
      intro p ψ h0 h1 h2 h3 h4 h5
      refine j_iload_6 (n' := 69) F dX0_choose_67 rfl ?_
      refine j_iload_3 (n' := 70) F dX0_choose_69 rfl ?_
      refine j_icmp_lt (t := 101) (n' := 73) F (by omega) (by omega) dX0_choose_70 (by decide) rfl (fun c70_0 => ?_) (fun c70_0 => ?_)
      · exact j_weak (by exact ⟨rfl, rfl, rfl, rfl, rfl, rfl, trivial⟩) (fin ψ h0 (fun q la q1 q2 q3 q4 => (h3 q la (by omega) (by omega) q3 q4).2 q2) h4 h5)
      · omega
    | succ m ih =>
      intro p ψ h0 h1 h2 h3 h4 h5
      have u7 : ψ 7 2 = φ 7 2 := h5 7 2 (by omega)
      have u8 : ψ 8 = φ 8 := funext fun b => h5 8 b (by omega)
      have uv : ψ v = φ v := funext fun b => h5 v b (by omega)
      have hal2 : alOk ψ := hal.fr hs.2 (fun a ha b => h5 a b (by omega))
      have hT : ∀ q d, p < q → q ≤ en → 0 ≤ d → d ≤ q - fr → ψ (39 + q) d = Tw (φ v) (φ 8) fr en q d ∧ 0 ≤ Tw (φ v) (φ 8) fr en q d ∧ Tw (φ v) (φ 8) fr en q d ≤ 24000 := fun q d q1 q2 q3 q4 => ⟨(h3 q d q1 q2 q3 q4).1, hwb q d (by omega) q2⟩
      refine j_iload_6 (n' := 69) F dX0_choose_67 rfl ?_
      refine j_iload_3 (n' := 70) F dX0_choose_69 rfl ?_
      refine j_icmp_lt (t := 101) (n' := 73) F (by omega) (by omega) dX0_choose_70 (by decide) rfl (fun c70_0 => ?_) (fun c70_0 => ?_)
      · omega
      · refine j_aload_0 (n' := 74) F dX0_choose_73 rfl ?_
        refine j_aload_1 (n' := 75) F dX0_choose_74 rfl ?_
        refine j_aload_2 (n' := 76) F dX0_choose_75 rfl ?_
        refine j_iload_3 (n' := 77) F dX0_choose_76 rfl ?_
        refine j_iload_4 (n' := 79) F dX0_choose_77 rfl ?_
        refine j_iload_6 (n' := 81) F dX0_choose_79 rfl ?_
        refine j_cV5v (n' := 84) F kl_X0_37 (c_Cho_chooseCopy (T := Tw (φ v) (φ 8) fr en) (by omega) hal2 (by rw [u7, u8]; exact hle) hk hv hvs (by rw [uv]; exact hP) (by omega) hT) kap_37 rfl (by decide) (Nat.le_of_ble_eq_true rfl) dX0_choose_81 rfl (fun z2 φ2 h2 => ?_)
        obtain ⟨hb2, hk2, hf2⟩ := h2
        have v7 : φ2 7 2 = φ 7 2 := (hf2 7 2 (by omega)).trans u7
        have v8 : φ2 8 = φ 8 := (funext fun b => hf2 8 b (by omega)).trans u8
        have vv : φ2 v = φ v := (funext fun b => hf2 v b (by omega)).trans uv
        have hal3 : alOk φ2 := hal2.fr (by omega) (fun a ha b => hf2 a b (by omega))
        have hT2 : ∀ q d, p < q → q ≤ en → 0 ≤ d → d ≤ q - fr → φ2 (39 + q) d = Tw (φ v) (φ 8) fr en q d ∧ 0 ≤ Tw (φ v) (φ 8) fr en q d ∧ Tw (φ v) (φ 8) fr en q d ≤ 24000 := fun q d q1 q2 q3 q4 => ⟨(hf2 (39 + q) d (by omega)).trans (hT q d q1 q2 q3 q4).1, (hT q d q1 q2 q3 q4).2⟩
        have hcp : (bst φ2).2 = (cpF (φ2 v) (Tw (φ v) (φ 8) fr en) (lik (φ2 8) en 8 p) p fr (0, -1)).2 ∧ ((bst φ2).2 ≠ -1 → bst φ2 = cpF (φ2 v) (Tw (φ v) (φ 8) fr en) (lik (φ2 8) en 8 p) p fr (0, -1)) := by
          rw [hb2, uv, u8, vv, v8]
          have hst := cpF_stale (P := φ v) (T := Tw (φ v) (φ 8) fr en) (L := lik (φ 8) en 8 p) (q := p) (f := fr) (x := ψ 37 3) (by omega)
          exact ⟨hst.1, fun q => hst.2 (by rw [← hst.1]; exact q)⟩
        refine j_aload_0 (n' := 85) F dX0_choose_84 rfl ?_
        refine j_aload_1 (n' := 86) F dX0_choose_85 rfl ?_
        refine j_aload_2 (n' := 87) F dX0_choose_86 rfl ?_
        refine j_iload_3 (n' := 88) F dX0_choose_87 rfl ?_
        refine j_iload_4 (n' := 90) F dX0_choose_88 rfl ?_
        refine j_iload_6 (n' := 92) F dX0_choose_90 rfl ?_
        refine j_cV5v (n' := 95) F kl_X0_41 (c_Cho_chooseFirsts (T := Tw (φ v) (φ 8) fr en) (by omega) hal3 (by rw [v7, v8]; exact hle) hk hv hvs (by rw [vv]; exact hP) (by omega) hT2 hk2 hcp) kap_37 rfl (by decide) (Nat.le_of_ble_eq_true rfl) dX0_choose_92 rfl (fun z3 φ3 h3 => ?_)
        obtain ⟨hw3, hf3⟩ := h3
        rw [vv, v8] at hw3
        refine j_iinc_6 (n' := 98) F (by decide) jc_r dX0_choose_95 rfl ?_
        refine j_goto (t := 67) F dX0_choose_98 (by decide) ?_
        refine ih (p + -1) φ3 h0 (by omega) (by omega) (fun q la q1 q2 q3 q4 => ?_) ?_ ?_
        · by_cases hq : q = p
          · subst hq
            have hz := hw3 la q3 q4
            rw [← Tb_step (by omega)] at hz
            exact ⟨hz.1, fun _ => hz.2⟩
          · rw [hf3 (39 + q) la (by omega), hf3 (65 + q) la (by omega), hf2 (39 + q) la (by omega), hf2 (65 + q) la (by omega)]
            exact h3 q la (by omega) q2 q3 q4
        · exact h4.fr (fun b => by rw [hf3 ro b (by omega), hf2 ro b (by omega)]) (fun b => by rw [hf3 rr b (by omega), hf2 rr b (by omega)])
        · exact (h5.tr (hf2.wk (fun a h => by omega))).tr (hf3.wk (fun a h => by omega))
  have up : ∀ (m : Nat) (la : Int) (ψ : jPhi), fr < en → la + m = en - fr + 1 → 0 ≤ la → (∀ c, 0 ≤ c → c < la → ψ (39 + en) c = 0) → rowIs ψ ro rr [] → frC (fun a => a = 37 ∨ (39 ≤ a ∧ a < 64) ∨ (65 ≤ a ∧ a < 90) ∨ a = ro ∨ a = rr) φ ψ → jJ X G B0 κF 113 0 0 Q 7 ψ 35 [some (rf B0 37), some (rf B0 7), some (rf B0 o), some (iv fr), some (iv en), some (rf B0 ro), some (iv la)] [] := by
    intro m
    induction m with
    | zero =>
      intro la ψ h0 h1 h2 h3 h4 h5
      refine j_iload_6 (n' := 37) F dX0_choose_35 rfl ?_
      refine j_iload_4 (n' := 39) F dX0_choose_37 rfl ?_
      refine j_iload_3 (n' := 40) F dX0_choose_39 rfl ?_
      refine j_isub (n' := 41) F dX0_choose_40 rfl ?_
      refine j_icmp_gt (t := 61) (n' := 44) F (by omega) (by omega) dX0_choose_41 (by decide) rfl (fun c41_0 => ?_) (fun c41_0 => ?_)
      · refine j_iload_4 (n' := 63) F dX0_choose_61 rfl ?_
        refine j_iconst (n' := 64) F dX0_choose_63 rfl ?_
        refine j_isub (n' := 65) F dX0_choose_64 rfl ?_
        refine j_istore_6 (n' := 67) F (by decide) jc_r dX0_choose_65 rfl ?_
        refine down (en - fr).toNat (en - 1) ψ h0 (by omega) (by omega) (fun q c q1 q2 q3 q4 => ?_) h4 h5
        have hq : q = en := by omega
        subst hq
        refine ⟨?_, fun h => by omega⟩
        rw [h3 c q3 (by omega)]
        unfold Tw
        rw [Tb_end]
      · omega
    | succ m ih =>
      intro la ψ h0 h1 h2 h3 h4 h5
      refine j_iload_6 (n' := 37) F dX0_choose_35 rfl ?_
      refine j_iload_4 (n' := 39) F dX0_choose_37 rfl ?_
      refine j_iload_3 (n' := 40) F dX0_choose_39 rfl ?_
      refine j_isub (n' := 41) F dX0_choose_40 rfl ?_
      refine j_icmp_gt (t := 61) (n' := 44) F (by omega) (by omega) dX0_choose_41 (by decide) rfl (fun c41_0 => ?_) (fun c41_0 => ?_)
      · omega
      · refine j_aload_0 (n' := 45) F dX0_choose_44 rfl ?_
        refine j_getR (n' := 48) F fl_X0_11 kap_37 rfl dX0_choose_45 rfl ?_
        refine j_iload_4 (n' := 50) F dX0_choose_48 rfl ?_
        refine j_aald (n' := 51) F kap_38 (by decide) (by omega) dX0_choose_50 rfl ?_
        refine j_iload_6 (n' := 53) F dX0_choose_51 rfl ?_
        refine j_iconst (n' := 54) F dX0_choose_53 rfl ?_
        refine j_iast (n' := 55) F (kap_we (by omega)) (by decide) (by omega) dX0_choose_54 rfl (fun φ2 e2 => ?_)
        refine j_iinc_6 (n' := 58) F (by decide) jc_r dX0_choose_55 rfl ?_
        refine j_goto (t := 35) F dX0_choose_58 (by decide) ?_
        refine ih (la + 1) φ2 h0 (by omega) (by omega) (fun c q1 q2 => ?_) ?_ ?_
        · by_cases q : c = la
          · rw [q, e2, zU_self]
          · rw [e2, zU_ne (by omega)]
            exact h3 c q1 (by omega)
        · exact h4.fr (fun b => by rw [e2, zU_ne (by omega)]) (fun b => by rw [e2, zU_ne (by omega)])
        · rw [e2]
          exact h5.put (by omega)
  refine j_aload_5 (n' := 2) F dX0_choose_0 rfl ?_
  refine j_cV0v (n' := 5) F kl_X0_26 (c_Row_clear hk2 (r := rr)) hk2 rfl (by decide) (Nat.le_of_ble_eq_true rfl) dX0_choose_2 rfl (fun z1 φ1 h1 => ?_)
  obtain ⟨hr1, hf1⟩ := h1
  have u7 : φ1 7 2 = φ 7 2 := hf1 7 2 (by omega)
  refine j_iload_3 (n' := 6) F dX0_choose_5 rfl ?_
  refine j_if_lt (t := 31) (n' := 9) F (by omega) dX0_choose_6 (by decide) rfl (fun c6_1 => ?_) (fun c6_1 => ?_)
  · exact j_return F E dX0_choose_31 (⟨by unfold toks; rw [wlk, if_neg (by omega)]; exact hr1, hf1.wk (fun a h => by omega)⟩)
  · refine j_iload_3 (n' := 10) F dX0_choose_9 rfl ?_
    refine j_iload_4 (n' := 12) F dX0_choose_10 rfl ?_
    refine j_icmp_ge (t := 31) (n' := 15) F (by omega) (by omega) dX0_choose_12 (by decide) rfl (fun c12_2 => ?_) (fun c12_2 => ?_)
    · exact j_return F E dX0_choose_31 (⟨by unfold toks; rw [wlk, if_neg (by omega)]; exact hr1, hf1.wk (fun a h => by omega)⟩)
    · refine j_iload_4 (n' := 17) F dX0_choose_15 rfl ?_
      refine j_aload_1 (n' := 18) F dX0_choose_17 rfl ?_
      refine j_cV0i (n' := 21) F kl_X0_31 (c_Txt_size) kap_7 rfl (by decide) (Nat.le_of_ble_eq_true rfl) dX0_choose_18 rfl (fun z4 φ4 h4 => ?_)
      obtain ⟨rfl, rfl⟩ := h4
      refine j_icmp_gt (t := 31) (n' := 24) F (by omega) (by omega) dX0_choose_21 (by decide) rfl (fun c21_4 => ?_) (fun c21_4 => ?_)
      · exact j_return F E dX0_choose_31 (⟨by unfold toks; rw [wlk, if_neg (by omega)]; exact hr1, hf1.wk (fun a h => by omega)⟩)
      · refine j_iload_4 (n' := 26) F dX0_choose_24 rfl ?_
        refine j_bipush (n' := 28) F dX0_choose_26 (by decide) rfl ?_
        refine j_icmp_le (t := 32) (n' := 31) F (by omega) (by omega) dX0_choose_28 (by decide) rfl (fun c28_5 => ?_) (fun c28_5 => ?_)
        · refine j_iconst (n' := 33) F dX0_choose_32 rfl ?_
          refine j_istore_6 (n' := 35) F (by decide) jc_r dX0_choose_33 rfl ?_
          exact up (en - fr + 1).toNat 0 φ1 (by omega) (by omega) (by omega) (fun c q1 q2 => by omega) hr1 (hf1.wk (fun a h => by omega))
        · exact j_return F E dX0_choose_31 (⟨by unfold toks; rw [wlk, if_neg (by omega)]; exact hr1, hf1.wk (fun a h => by omega)⟩)
end
section
/-! ===== a code that is read ===== -/
def cpN : List Int → Int → Nat → List Int
  | md, _, 0 => md
  | md, d, k + 1 => cpN (md ++ [md.getD (md.length - d).toNat 0]) d k
def figF (R : Int → List Int → List Int → Int → Int × Int × List Int × List Int) (g : Int → Int) (n i : Int) (md ts : List Int) (d a : Int) : Int × Int × List Int × List Int :=
  if i < n ∧ 2 ≤ g i - 48 ∧ g i - 48 ≤ 8 ∧ md.length + (g i - 48) ≤ 24 then R (i + 1) (cpN md d (g i - 48).toNat) (ts ++ [if a = 0 then 1000 + 10 * d + (g i - 48) else 100 + (g i - 48)]) d else (i, 0, md, ts)
/-- place, whether it is a code, what it makes, its tokens -/
def rdC (g : Int → Int) (n : Int) : Nat → Int → List Int → List Int → Int → Int × Int × List Int × List Int
  | 0, i, md, ts, _ => (i, 0, md, ts)
  | k + 1, i, md, ts, la =>
    if i < n then
      (if 97 ≤ g i ∧ g i ≤ 100 then (if (md.length : Int) < 24 then rdC g n k (i + 1) (md ++ [g i - 97]) (ts ++ [g i - 97]) la else (i, 0, md, ts))
       else if 1 ≤ (if g i = 61 then la else g i - 64) ∧ (if g i = 61 then la else g i - 64) ≤ md.length then figF (rdC g n k) g n (i + 1) md ts (if g i = 61 then la else g i - 64) (if g i = 61 then 1 else 0) else (i, 0, md, ts))
    else (i, if ts.length = 0 then 0 else 1, md, ts)
def rdR (g : Int → Int) (n : Int) : Int × Int × List Int × List Int := rdC g n 31 0 [] [] 0
def mdIs (φ : jPhi) (c a : Int) (x : Int) (md : List Int) : Prop := φ c x = md.length ∧ ∀ k : Nat, k < md.length → φ a k = md.getD k 0
theorem cpN_len : ∀ (k : Nat) (md : List Int) (d : Int), (cpN md d k).length = md.length + k
  | 0, md, d => rfl
  | k + 1, md, d => by
    rw [cpN, cpN_len k]
    simp
    omega
def ltOk (md : List Int) : Prop := ∀ x ∈ md, 0 ≤ x ∧ x ≤ 3
theorem ltOk_app {md : List Int} {x : Int} (h : ltOk md) (hx : 0 ≤ x ∧ x ≤ 3) : ltOk (md ++ [x]) := by
  intro y hy
  rcases List.mem_append.mp hy with h1 | h1
  · exact h y h1
  · rw [List.mem_singleton.mp h1]
    exact hx
theorem ltOk_cpN : ∀ (k : Nat) {md : List Int} {d : Int}, ltOk md → ltOk (cpN md d k)
  | 0, md, d, h => h
  | k + 1, md, d, h => by
    rw [cpN]
    refine ltOk_cpN k (ltOk_app h ?_)
    rw [List.getD]
    cases e : md[(md.length - d).toNat]? with
    | none => simp
    | some y => exact h y (List.mem_of_getElem? e)
theorem rwOk_app {ts : List Int} {x : Int} (h : rwOk ts) (hx : tkOk x) : rwOk (ts ++ [x]) := by
  intro y hy
  rcases List.mem_append.mp hy with h1 | h1
  · exact h y h1
  · rw [List.mem_singleton.mp h1]
    exact hx
/-- what is read is a text, and a row of tokens -/
def rdOk (r : Int × Int × List Int × List Int) : Prop := rwOk r.2.2.2 ∧ ltOk r.2.2.1 ∧ r.2.2.2.length ≤ r.2.2.1.length ∧ r.2.2.1.length ≤ 24 ∧ (r.2.1 = 0 ∨ r.2.1 = 1) ∧ (r.2.1 = 1 → 1 ≤ r.2.2.2.length)
theorem rdC_ok {g : Int → Int} {n : Int} (hg : ∀ k, 32 ≤ g k ∨ True) : ∀ (k : Nat) (i : Int) (md ts : List Int) (la : Int), rwOk ts → ltOk md → ts.length ≤ md.length → md.length ≤ 24 → la ≤ 24 → rdOk (rdC g n k i md ts la)
  | 0, i, md, ts, la, h1, h2, h3, h4, h5 => ⟨h1, h2, h3, h4, Or.inl rfl, fun q => by simp [rdC] at q⟩
  | k + 1, i, md, ts, la, h1, h2, h3, h4, h5 => by
    have no : rdOk (i, 0, md, ts) := ⟨h1, h2, h3, h4, Or.inl rfl, fun q => by simp at q⟩
    unfold rdC
    generalize (if g i = 61 then la else g i - 64) = d
    generalize (if g i = 61 then (1 : Int) else 0) = a
    split
    · split
      · split
        · rename_i q1 q2 q3
          exact rdC_ok hg k (i + 1) _ _ la (rwOk_app h1 (by unfold tkOk; omega)) (ltOk_app h2 (by omega)) (by simp; omega) (by simp; omega) h5
        · exact no
      · split
        · rename_i q1 q2 q3
          unfold figF
          split
          · rename_i q4
            refine rdC_ok hg k (i + 1 + 1) _ _ d (rwOk_app h1 ?_) (ltOk_cpN _ h2) (by rw [cpN_len]; simp; omega) (by rw [cpN_len]; omega) (by omega)
            split
            · exact (tk_copy (j := g (i + 1) - 48) (d := d) (by omega) (by omega) 0).1
            · exact (tk_again (j := g (i + 1) - 48) (by omega) 0).1
          · exact ⟨h1, h2, h3, h4, Or.inl rfl, fun q => by simp at q⟩
        · exact no
    · refine ⟨h1, h2, h3, h4, ?_, fun q => ?_⟩
      · simp only
        split
        · exact Or.inl rfl
        · exact Or.inr rfl
      · simp only at q ⊢
        split at q
        · omega
        · omega
theorem rdR_ok (g : Int → Int) (n : Int) : rdOk (rdR g n) := rdC_ok (fun _ => Or.inr trivial) 31 0 [] [] 0 (fun _ h => by simp at h) (fun _ h => by simp at h) (by simp) (by simp) (by omega)
theorem mdIs.fr {φ φ' : jPhi} {c a x : Int} {md : List Int} (h : mdIs φ c a x md) (hc : φ' c x = φ c x) (ha : ∀ b, φ' a b = φ a b) : mdIs φ' c a x md := ⟨by rw [hc]; exact h.1, fun k hk => by rw [ha]; exact h.2 k hk⟩
theorem mdIs.push {φ φ' : jPhi} {c a x z : Int} {md : List Int} (h : mdIs φ c a x md) (hc : φ' c x = φ c x + 1) (h1 : φ' a (φ c x) = z) (h2 : ∀ b, b ≠ φ c x → φ' a b = φ a b) : mdIs φ' c a x (md ++ [z]) := by
  refine ⟨by rw [hc, h.1]; simp, fun k hk => ?_⟩
  have e0 := h.1
  by_cases e : k < md.length
  · rw [h2 k (by omega), h.2 k e]
    simp [List.getD, List.getElem?_append_left e]
  · have e2 : k = md.length := by simp at hk; omega
    subst e2
    rw [← e0, h1]
    simp [List.getD]
theorem mdIs.at {φ : jPhi} {c a x : Int} {md : List Int} (h : mdIs φ c a x md) {k : Int} (h0 : 0 ≤ k) (h1 : k < md.length) : φ a k = md.getD k.toNat 0 := by
  have h2 := h.2 k.toNat (by omega)
  rw [show ((k.toNat : Nat) : Int) = k by omega] at h2
  exact h2
end
section
set_option maxRecDepth 20000 in
theorem c_Rea_make {l : Launch} {G : jG} {B0 : Nat} {φ : jPhi} {x : Int} {md : List Int} (hm : mdIs φ 3 4 2 md) (hl : md.length < 24) : jC l G B0 κF 113 yX1_make cX1_make 2 none 0 [rf B0 3, iv x] φ mkV (fun z φ' => mdIs φ' 3 4 2 (md ++ [x]) ∧ (∀ b, b ≠ 2 → φ' 3 b = φ 3 b) ∧ frC (fun a => a = 3 ∨ a = 4) φ φ') := by
  refine jC_start RX1 [some (rf B0 3), some (iv x)] (by decide) rfl (Nat.le_of_ble_eq_true rfl) rfl (fun X Q F E => ?_)
  have h1 := hm.1
  refine j_aload_0 (n' := 1) F dX1_make_0 rfl ?_
  refine j_getI (n' := 4) F 2 rfl fl_X1_22 kap_3 rfl dX1_make_1 rfl ?_
  refine j_bipush (n' := 6) F dX1_make_4 (by decide) rfl ?_
  refine j_icmp_lt (t := 10) (n' := 9) F (by omega) (by omega) dX1_make_6 (by decide) rfl (fun c6_0 => ?_) (fun c6_0 => ?_)
  · refine j_aload_0 (n' := 11) F dX1_make_10 rfl ?_
    refine j_getR (n' := 14) F fl_X1_9 kap_3 rfl dX1_make_11 rfl ?_
    refine j_aload_0 (n' := 15) F dX1_make_14 rfl ?_
    refine j_getI (n' := 18) F 2 rfl fl_X1_22 kap_3 rfl dX1_make_15 rfl ?_
    refine j_iload_1 (n' := 19) F dX1_make_18 rfl ?_
    refine j_iast (n' := 20) F kap_4 (by decide) (by omega) dX1_make_19 rfl (fun φ2 e2 => ?_)
    refine j_aload_0 (n' := 21) F dX1_make_20 rfl ?_
    refine j_dup (n' := 22) F rfl dX1_make_21 rfl ?_
    refine j_getI (n' := 25) F 2 rfl fl_X1_22 kap_3 rfl dX1_make_22 rfl ?_
    refine j_iconst (n' := 26) F dX1_make_25 rfl ?_
    refine j_iadd (n' := 27) F dX1_make_26 rfl ?_
    refine j_putI (n' := 30) F 2 rfl fp_X1_22 kap_3 rfl rfl dX1_make_27 rfl (fun φ3 e3 => ?_)
    exact j_return F E dX1_make_30 (⟨hm.push (by rw [e3, e2]; simp [zU]) (by rw [e3, e2]; simp [zU]) (fun b hb => by rw [e3, e2]; simp [zU, hb]), fun b hb => by rw [e3, e2]; simp [zU, hb], by rw [e3, e2]; exact (frC.rf.put (Or.inr rfl)).put (Or.inl rfl)⟩)
  · exact j_return F E dX1_make_9 (by omega)
set_option maxRecDepth 20000 in
theorem c_Rea_madeAt {l : Launch} {G : jG} {B0 : Nat} {φ : jPhi} {x : Int} (hs : 0 ≤ φ 3 2 ∧ φ 3 2 ≤ 24) (hx : -2147483648 ≤ x ∧ x ≤ 2147483647) : jC l G B0 κF 113 yX1_madeAt cX1_madeAt 2 (some .int) 0 [rf B0 3, iv x] φ mkI (fun z φ' => φ = φ' ∧ z = (if 0 ≤ x ∧ x < φ 3 2 then φ 4 x else 0)) := by
  refine jC_start RX1 [some (rf B0 3), some (iv x)] (by decide) rfl (Nat.le_of_ble_eq_true rfl) rfl (fun X Q F E => ?_)
  refine j_iload_1 (n' := 1) F dX1_madeAt_0 rfl ?_
  refine j_if_lt (t := 21) (n' := 4) F (by omega) dX1_madeAt_1 (by decide) rfl (fun c1_0 => ?_) (fun c1_0 => ?_)
  · refine j_iconst (n' := 22) F dX1_madeAt_21 rfl ?_
    exact j_ireturn F E dX1_madeAt_22 (⟨rfl, by first | rfl | omega | (simp; omega) | (split <;> omega)⟩)
  · refine j_iload_1 (n' := 5) F dX1_madeAt_4 rfl ?_
    refine j_aload_0 (n' := 6) F dX1_madeAt_5 rfl ?_
    refine j_getI (n' := 9) F 2 rfl fl_X1_22 kap_3 rfl dX1_madeAt_6 rfl ?_
    refine j_icmp_ge (t := 21) (n' := 12) F (by omega) (by omega) dX1_madeAt_9 (by decide) rfl (fun c9_1 => ?_) (fun c9_1 => ?_)
    · refine j_iconst (n' := 22) F dX1_madeAt_21 rfl ?_
      exact j_ireturn F E dX1_madeAt_22 (⟨rfl, by first | rfl | omega | (simp; omega) | (split <;> omega)⟩)
    · refine j_aload_0 (n' := 13) F dX1_madeAt_12 rfl ?_
      refine j_getR (n' := 16) F fl_X1_9 kap_3 rfl dX1_madeAt_13 rfl ?_
      refine j_iload_1 (n' := 17) F dX1_madeAt_16 rfl ?_
      refine j_iald (n' := 18) F kap_4 (by decide) (by omega) dX1_madeAt_17 rfl ?_
      refine j_goto (t := 22) F dX1_madeAt_18 (by decide) ?_
      exact j_ireturn F E dX1_madeAt_22 (⟨rfl, by first | rfl | omega | (simp; omega) | (split <;> omega)⟩)
set_option maxRecDepth 20000 in
theorem c_Rea_madeSize {l : Launch} {G : jG} {B0 : Nat} {φ : jPhi}   : jC l G B0 κF 113 yX1_madeSize cX1_madeSize 1 (some .int) 0 [rf B0 3] φ mkI (fun z φ' => φ = φ' ∧ z = φ 3 2) := by
  refine jC_start RX1 [some (rf B0 3)] (by decide) rfl (Nat.le_of_ble_eq_true rfl) rfl (fun X Q F E => ?_)
  refine j_aload_0 (n' := 1) F dX1_madeSize_0 rfl ?_
  refine j_getI (n' := 4) F 2 rfl fl_X1_22 kap_3 rfl dX1_madeSize_1 rfl ?_
  exact j_ireturn F E dX1_madeSize_4 (⟨rfl, by first | rfl | omega | (simp; omega) | (split <;> omega)⟩)
set_option maxRecDepth 20000 in
theorem c_Rea_faultPlace {l : Launch} {G : jG} {B0 : Nat} {φ : jPhi}   : jC l G B0 κF 113 yX1_faultPlace cX1_faultPlace 1 (some .int) 0 [rf B0 3] φ mkI (fun z φ' => φ = φ' ∧ z = φ 3 6) := by
  refine jC_start RX1 [some (rf B0 3)] (by decide) rfl (Nat.le_of_ble_eq_true rfl) rfl (fun X Q F E => ?_)
  refine j_aload_0 (n' := 1) F dX1_faultPlace_0 rfl ?_
  refine j_getI (n' := 4) F 6 rfl fl_X1_36 kap_3 rfl dX1_faultPlace_1 rfl ?_
  exact j_ireturn F E dX1_faultPlace_4 (⟨rfl, by first | rfl | omega | (simp; omega) | (split <;> omega)⟩)
set_option maxRecDepth 20000 in
theorem c_Rea_tokens {l : Launch} {G : jG} {B0 : Nat} {φ : jPhi}   : jC l G B0 κF 113 yX1_tokens cX1_tokens 1 (some (.object "PricedCopies$TokenRow")) 0 [rf B0 3] φ (mkR B0) (fun z φ' => φ = φ' ∧ z = 5) := by
  refine jC_start RX1 [some (rf B0 3)] (by decide) rfl (Nat.le_of_ble_eq_true rfl) rfl (fun X Q F E => ?_)
  refine j_aload_0 (n' := 1) F dX1_tokens_0 rfl ?_
  refine j_getR (n' := 4) F fl_X1_18 kap_3 rfl dX1_tokens_1 rfl ?_
  exact j_areturn F E dX1_tokens_4 (⟨rfl, rfl⟩)
set_option maxRecDepth 20000 in
theorem c_Rea_isCode {l : Launch} {G : jG} {B0 : Nat} {φ : jPhi}  (h5 : 0 ≤ φ 5 1 ∧ φ 5 1 ≤ 24) (h4 : 0 ≤ φ 3 4 ∧ φ 3 4 ≤ 24) (h7 : 0 ≤ φ 3 7 ∧ φ 3 7 ≤ 1) : jC l G B0 κF 113 yX1_isCode cX1_isCode 1 (some .boolean) 1 [rf B0 3] φ mkI (fun z φ' => φ = φ' ∧ z = (if φ 3 7 ≠ 0 ∧ φ 3 4 = 0 ∧ 0 < φ 5 1 then 1 else 0)) := by
  refine jC_start RX1 [some (rf B0 3)] (by decide) rfl (Nat.le_of_ble_eq_true rfl) rfl (fun X Q F E => ?_)
  refine j_aload_0 (n' := 1) F dX1_isCode_0 rfl ?_
  refine j_getI (n' := 4) F 7 rfl fl_X1_39 kap_3 rfl dX1_isCode_1 rfl ?_
  refine j_if_eq (t := 28) (n' := 7) F (by omega) dX1_isCode_4 (by decide) rfl (fun c4_0 => ?_) (fun c4_0 => ?_)
  · refine j_iconst (n' := 29) F dX1_isCode_28 rfl ?_
    exact j_zreturn F E (by omega) dX1_isCode_29 (⟨rfl, by first | rw [if_neg (by omega)] | rw [if_pos (by omega)]⟩)
  · refine j_aload_0 (n' := 8) F dX1_isCode_7 rfl ?_
    refine j_getI (n' := 11) F 4 rfl fl_X1_29 kap_3 rfl dX1_isCode_8 rfl ?_
    refine j_if_ne (t := 28) (n' := 14) F (by omega) dX1_isCode_11 (by decide) rfl (fun c11_1 => ?_) (fun c11_1 => ?_)
    · refine j_iconst (n' := 29) F dX1_isCode_28 rfl ?_
      exact j_zreturn F E (by omega) dX1_isCode_29 (⟨rfl, by first | rw [if_neg (by omega)] | rw [if_pos (by omega)]⟩)
    · refine j_aload_0 (n' := 15) F dX1_isCode_14 rfl ?_
      refine j_getR (n' := 18) F fl_X1_18 kap_3 rfl dX1_isCode_15 rfl ?_
      refine j_cV0i (n' := 21) F kl_X1_59 (c_Row_size kap_5) kap_5 rfl (by decide) (Nat.le_of_ble_eq_true rfl) dX1_isCode_18 rfl (fun z3 φ3 h3 => ?_)
      obtain ⟨rfl, rfl⟩ := h3
      refine j_if_le (t := 28) (n' := 24) F (by omega) dX1_isCode_21 (by decide) rfl (fun c21_3 => ?_) (fun c21_3 => ?_)
      · refine j_iconst (n' := 29) F dX1_isCode_28 rfl ?_
        exact j_zreturn F E (by omega) dX1_isCode_29 (⟨rfl, by first | rw [if_neg (by omega)] | rw [if_pos (by omega)]⟩)
      · refine j_iconst (n' := 25) F dX1_isCode_24 rfl ?_
        refine j_goto (t := 29) F dX1_isCode_25 (by decide) ?_
        exact j_zreturn F E (by omega) dX1_isCode_29 (⟨rfl, by first | rw [if_neg (by omega)] | rw [if_pos (by omega)]⟩)
set_option maxRecDepth 20000 in
theorem c_Rea_opens {l : Launch} {G : jG} {B0 : Nat} {φ : jPhi} {x : Int} (hs : 0 ≤ φ 3 2 ∧ φ 3 2 ≤ 24) (hx : -2147483648 ≤ x ∧ x ≤ 2147483647) : jC l G B0 κF 113 yX1_opens cX1_opens 2 (some .boolean) 0 [rf B0 3, iv x] φ mkI (fun z φ' => (z = 0 ∨ z = 1) ∧ ((1 ≤ x ∧ x ≤ φ 3 2) → z = 1 ∧ φ' = zU φ 3 4 x) ∧ (¬ (1 ≤ x ∧ x ≤ φ 3 2) → z = 0 ∧ φ' = φ)) := by
  refine jC_start RX1 [some (rf B0 3), some (iv x)] (by decide) rfl (Nat.le_of_ble_eq_true rfl) rfl (fun X Q F E => ?_)
  refine j_iload_1 (n' := 1) F dX1_opens_0 rfl ?_
  refine j_iconst (n' := 2) F dX1_opens_1 rfl ?_
  refine j_icmp_lt (t := 19) (n' := 5) F (by omega) (by omega) dX1_opens_2 (by decide) rfl (fun c2_0 => ?_) (fun c2_0 => ?_)
  · refine j_iconst (n' := 20) F dX1_opens_19 rfl ?_
    exact j_zreturn F E (by omega) dX1_opens_20 (⟨Or.inl rfl, fun h => by omega, fun h => ⟨rfl, rfl⟩⟩)
  · refine j_iload_1 (n' := 6) F dX1_opens_5 rfl ?_
    refine j_bipush (n' := 8) F dX1_opens_6 (by decide) rfl ?_
    refine j_icmp_gt (t := 19) (n' := 11) F (by omega) (by omega) dX1_opens_8 (by decide) rfl (fun c8_1 => ?_) (fun c8_1 => ?_)
    · refine j_iconst (n' := 20) F dX1_opens_19 rfl ?_
      exact j_zreturn F E (by omega) dX1_opens_20 (⟨Or.inl rfl, fun h => by omega, fun h => ⟨rfl, rfl⟩⟩)
    · refine j_iload_1 (n' := 12) F dX1_opens_11 rfl ?_
      refine j_aload_0 (n' := 13) F dX1_opens_12 rfl ?_
      refine j_getI (n' := 16) F 2 rfl fl_X1_22 kap_3 rfl dX1_opens_13 rfl ?_
      refine j_icmp_le (t := 21) (n' := 19) F (by omega) (by omega) dX1_opens_16 (by decide) rfl (fun c16_2 => ?_) (fun c16_2 => ?_)
      · refine j_aload_0 (n' := 22) F dX1_opens_21 rfl ?_
        refine j_iload_1 (n' := 23) F dX1_opens_22 rfl ?_
        refine j_putI (n' := 26) F 4 rfl fp_X1_29 kap_3 rfl rfl dX1_opens_23 rfl (fun φ4 e4 => ?_)
        refine j_iconst (n' := 27) F dX1_opens_26 rfl ?_
        exact j_zreturn F E (by omega) dX1_opens_27 (⟨Or.inr rfl, fun h => ⟨rfl, e4⟩, fun h => by omega⟩)
      · refine j_iconst (n' := 20) F dX1_opens_19 rfl ?_
        exact j_zreturn F E (by omega) dX1_opens_20 (⟨Or.inl rfl, fun h => by omega, fun h => ⟨rfl, rfl⟩⟩)
set_option maxRecDepth 20000 in
theorem c_Rea_takesLetter {l : Launch} {G : jG} {B0 : Nat} {φ : jPhi} {x : Int} {md ts : List Int} (hm : mdIs φ 3 4 2 md) (hr : rowIs φ 5 6 ts) (hts : ts.length ≤ md.length) (hml : md.length ≤ 24) (hx : 0 ≤ x ∧ x ≤ 3) : jC l G B0 κF 113 yX1_takesLetter cX1_takesLetter 2 (some .boolean) 2 [rf B0 3, iv x] φ mkI (fun z φ' => (z = 0 ∨ z = 1) ∧ (md.length < 24 → z = 1 ∧ mdIs φ' 3 4 2 (md ++ [x]) ∧ rowIs φ' 5 6 (ts ++ [x])) ∧ (¬ md.length < 24 → z = 0 ∧ mdIs φ' 3 4 2 md ∧ rowIs φ' 5 6 ts) ∧ (∀ b, b ≠ 2 → φ' 3 b = φ 3 b) ∧ frC (fun a => a = 3 ∨ a = 4 ∨ a = 5 ∨ a = 6) φ φ') := by
  refine jC_start RX1 [some (rf B0 3), some (iv x)] (by decide) rfl (Nat.le_of_ble_eq_true rfl) rfl (fun X Q F E => ?_)
  have h1 := hm.1
  refine j_aload_0 (n' := 1) F dX1_takesLetter_0 rfl ?_
  refine j_getI (n' := 4) F 2 rfl fl_X1_22 kap_3 rfl dX1_takesLetter_1 rfl ?_
  refine j_bipush (n' := 6) F dX1_takesLetter_4 (by decide) rfl ?_
  refine j_icmp_lt (t := 11) (n' := 9) F (by omega) (by omega) dX1_takesLetter_6 (by decide) rfl (fun c6_0 => ?_) (fun c6_0 => ?_)
  · refine j_aload_0 (n' := 12) F dX1_takesLetter_11 rfl ?_
    refine j_iload_1 (n' := 13) F dX1_takesLetter_12 rfl ?_
    refine j_cV1v (n' := 16) F kl_X1_69 (c_Rea_make hm (by omega)) kap_3 rfl (by decide) (Nat.le_of_ble_eq_true rfl) dX1_takesLetter_13 rfl (fun z2 φ2 h2 => ?_)
    obtain ⟨hmA, hgA, hfA⟩ := h2
    refine j_aload_0 (n' := 17) F dX1_takesLetter_16 rfl ?_
    refine j_getR (n' := 20) F fl_X1_18 kap_3 rfl dX1_takesLetter_17 rfl ?_
    refine j_iload_1 (n' := 21) F dX1_takesLetter_20 rfl ?_
    refine j_cV1v (n' := 24) F kl_X1_73 (c_Row_add kap_5 kap_6 (by decide) (hr.fr (fun b => hfA 5 b (by omega)) (fun b => hfA 6 b (by omega))) (by omega) (by omega)) kap_5 rfl (by decide) (Nat.le_of_ble_eq_true rfl) dX1_takesLetter_21 rfl (fun z3 φ3 h3 => ?_)
    obtain ⟨hrB, hfB⟩ := h3
    refine j_iconst (n' := 25) F dX1_takesLetter_24 rfl ?_
    exact j_zreturn F E (by omega) dX1_takesLetter_25 (⟨Or.inr rfl, fun _ => ⟨rfl, hmA.fr (hfB 3 2 (by omega)) (fun b => hfB 4 b (by omega)), hrB⟩, fun h => by omega, fun b hb => (hfB 3 b (by omega)).trans (hgA b hb), (hfA.wk (fun a h => by omega)).tr (hfB.wk (fun a h => by omega))⟩)
  · refine j_iconst (n' := 10) F dX1_takesLetter_9 rfl ?_
    exact j_zreturn F E (by omega) dX1_takesLetter_10 (⟨Or.inl rfl, fun h => by omega, fun _ => ⟨rfl, hm, hr⟩, fun _ _ => rfl, frC.rf⟩)
set_option maxRecDepth 20000 in
theorem c_Rea_takesFigure {l : Launch} {G : jG} {B0 : Nat} {φ : jPhi} {x : Int} {md ts : List Int} (hm : mdIs φ 3 4 2 md) (hr : rowIs φ 5 6 ts) (hts : ts.length ≤ md.length) (hml : md.length ≤ 24) (hx : -2147483648 ≤ x ∧ x ≤ 2147483647) (hd : 1 ≤ φ 3 4 ∧ φ 3 4 ≤ md.length) (ha : φ 3 5 = 0 ∨ φ 3 5 = 1) : jC l G B0 κF 113 yX1_takesFigure cX1_takesFigure 3 (some .boolean) 2 [rf B0 3, iv x] φ mkI (fun z φ' => (z = 0 ∨ z = 1) ∧ ((2 ≤ x ∧ x ≤ 8 ∧ md.length + x ≤ 24) → z = 1 ∧ mdIs φ' 3 4 2 (cpN md (φ 3 4) x.toNat) ∧ rowIs φ' 5 6 (ts ++ [(if φ 3 5 = 0 then 1000 + 10 * φ 3 4 + x else 100 + x)]) ∧ φ' 3 3 = φ 3 4 ∧ φ' 3 4 = 0) ∧ (¬ (2 ≤ x ∧ x ≤ 8 ∧ md.length + x ≤ 24) → z = 0 ∧ φ' = φ) ∧ (∀ b, 5 ≤ b → φ' 3 b = φ 3 b) ∧ frC (fun a => a = 3 ∨ a = 4 ∨ a = 5 ∨ a = 6) φ φ') := by
  refine jC_start RX1 [some (rf B0 3), some (iv x), none] (by decide) rfl (Nat.le_of_ble_eq_true rfl) rfl (fun X Q F E => ?_)
  have h1 := hm.1
  have loop : ∀ (m : Nat) (i : Int) (mc : List Int) (ψ : jPhi), (2 ≤ x ∧ x ≤ 8 ∧ md.length + x ≤ 24) → i + m = x → 0 ≤ i → (mc.length : Int) = md.length + i → mdIs ψ 3 4 2 mc → cpN mc (φ 3 4) m = cpN md (φ 3 4) x.toNat → rowIs ψ 5 6 (ts ++ [(if φ 3 5 = 0 then 1000 + 10 * φ 3 4 + x else 100 + x)]) → (∀ b, b ≠ 2 → ψ 3 b = φ 3 b) → frC (fun a => a = 3 ∨ a = 4 ∨ a = 5 ∨ a = 6) φ ψ → jJ X G B0 κF 113 0 0 Q 3 ψ 55 [some (rf B0 3), some (iv x), some (iv i)] [] := by
    intro m
    induction m with
    | zero =>
      intro i mc ψ g1 g2 g3 g4 g5 g6 g7 g8 g9
      have u4 := g8 4 (by omega)
      refine j_iload_2 (n' := 56) F dX1_takesFigure_55 rfl ?_
      refine j_iload_1 (n' := 57) F dX1_takesFigure_56 rfl ?_
      refine j_icmp_ge (t := 83) (n' := 60) F (by omega) (by omega) dX1_takesFigure_57 (by decide) rfl (fun c57_0 => ?_) (fun c57_0 => ?_)
      · refine j_aload_0 (n' := 84) F dX1_takesFigure_83 rfl ?_
        refine j_aload_0 (n' := 85) F dX1_takesFigure_84 rfl ?_
        refine j_getI (n' := 88) F 4 rfl fl_X1_29 kap_3 rfl dX1_takesFigure_85 rfl ?_
        refine j_putI (n' := 91) F 3 rfl fp_X1_26 kap_3 rfl rfl dX1_takesFigure_88 rfl (fun φ2 e2 => ?_)
        refine j_aload_0 (n' := 92) F dX1_takesFigure_91 rfl ?_
        refine j_iconst (n' := 93) F dX1_takesFigure_92 rfl ?_
        refine j_putI (n' := 96) F 4 rfl fp_X1_29 kap_3 rfl rfl dX1_takesFigure_93 rfl (fun φ3 e3 => ?_)
        refine j_iconst (n' := 97) F dX1_takesFigure_96 rfl ?_
        refine j_zreturn F E (by omega) dX1_takesFigure_97 ?_
        have q2 : mdIs φ3 3 4 2 mc := g5.fr (by rw [e3, e2]; simp [zU]) (fun b => by rw [e3, e2]; simp [zU])
        rw [cpN] at g6
        rw [g6] at q2
        exact ⟨Or.inr rfl, fun _ => ⟨rfl, q2, g7.fr (fun b => by rw [e3, e2]; simp [zU]) (fun b => by rw [e3, e2]; simp [zU]), by rw [e3, e2]; simp [zU, u4], by rw [e3, e2]; simp [zU]⟩, fun h => absurd g1 h, fun b hb => by rw [e3, e2, zU_ne (by omega), zU_ne (by omega)]; exact g8 b (by omega), by rw [e3, e2]; exact (g9.put (by omega)).put (by omega)⟩
      · omega
    | succ m ih =>
      intro i mc ψ g1 g2 g3 g4 g5 g6 g7 g8 g9
      have u4 := g8 4 (by omega)
      have u2 := g5.1
      rw [cpN] at g6
      refine j_iload_2 (n' := 56) F dX1_takesFigure_55 rfl ?_
      refine j_iload_1 (n' := 57) F dX1_takesFigure_56 rfl ?_
      refine j_icmp_ge (t := 83) (n' := 60) F (by omega) (by omega) dX1_takesFigure_57 (by decide) rfl (fun c57_0 => ?_) (fun c57_0 => ?_)
      · omega
      · refine j_aload_0 (n' := 61) F dX1_takesFigure_60 rfl ?_
        refine j_aload_0 (n' := 62) F dX1_takesFigure_61 rfl ?_
        refine j_aload_0 (n' := 63) F dX1_takesFigure_62 rfl ?_
        refine j_getI (n' := 66) F 2 rfl fl_X1_22 kap_3 rfl dX1_takesFigure_63 rfl ?_
        refine j_aload_0 (n' := 67) F dX1_takesFigure_66 rfl ?_
        refine j_getI (n' := 70) F 4 rfl fl_X1_29 kap_3 rfl dX1_takesFigure_67 rfl ?_
        refine j_isub (n' := 71) F dX1_takesFigure_70 rfl ?_
        refine j_cV1i (n' := 74) F kl_X1_85 (c_Rea_madeAt (by omega) (by omega)) kap_3 rfl (by decide) (Nat.le_of_ble_eq_true rfl) dX1_takesFigure_71 rfl (fun z2 φ2 h2 => ?_)
        obtain ⟨rfl, rfl⟩ := h2
        rw [if_pos (by omega), g5.at (by omega) (by omega), u2, u4]
        refine j_cV1v (n' := 77) F kl_X1_69 (c_Rea_make g5 (by omega)) kap_3 rfl (by decide) (Nat.le_of_ble_eq_true rfl) dX1_takesFigure_74 rfl (fun z3 φ3 h3 => ?_)
        obtain ⟨hm3, hg3, hf3⟩ := h3
        refine j_iinc_2 (n' := 80) F (by decide) jc_i dX1_takesFigure_77 rfl ?_
        refine j_goto (t := 55) F dX1_takesFigure_80 (by decide) ?_
        refine ih (i + 1) _ φ3 g1 (by omega) (by omega) (by simp; omega) hm3 g6 (g7.fr (fun b => hf3 5 b (by omega)) (fun b => hf3 6 b (by omega))) (fun b hb => (hg3 b hb).trans (g8 b hb)) (g9.tr (hf3.wk (fun a h => by omega)))
  refine j_iload_1 (n' := 1) F dX1_takesFigure_0 rfl ?_
  refine j_iconst (n' := 2) F dX1_takesFigure_1 rfl ?_
  refine j_icmp_lt (t := 22) (n' := 5) F (by omega) (by omega) dX1_takesFigure_2 (by decide) rfl (fun c2_0 => ?_) (fun c2_0 => ?_)
  · refine j_iconst (n' := 23) F dX1_takesFigure_22 rfl ?_
    exact j_zreturn F E (by omega) dX1_takesFigure_23 (⟨Or.inl rfl, fun h => by omega, fun _ => ⟨rfl, rfl⟩, fun _ _ => rfl, frC.rf⟩)
  · refine j_iload_1 (n' := 6) F dX1_takesFigure_5 rfl ?_
    refine j_bipush (n' := 8) F dX1_takesFigure_6 (by decide) rfl ?_
    refine j_icmp_gt (t := 22) (n' := 11) F (by omega) (by omega) dX1_takesFigure_8 (by decide) rfl (fun c8_1 => ?_) (fun c8_1 => ?_)
    · refine j_iconst (n' := 23) F dX1_takesFigure_22 rfl ?_
      exact j_zreturn F E (by omega) dX1_takesFigure_23 (⟨Or.inl rfl, fun h => by omega, fun _ => ⟨rfl, rfl⟩, fun _ _ => rfl, frC.rf⟩)
    · refine j_aload_0 (n' := 12) F dX1_takesFigure_11 rfl ?_
      refine j_getI (n' := 15) F 2 rfl fl_X1_22 kap_3 rfl dX1_takesFigure_12 rfl ?_
      refine j_iload_1 (n' := 16) F dX1_takesFigure_15 rfl ?_
      refine j_iadd (n' := 17) F dX1_takesFigure_16 rfl ?_
      refine j_bipush (n' := 19) F dX1_takesFigure_17 (by decide) rfl ?_
      refine j_icmp_le (t := 24) (n' := 22) F (by omega) (by omega) dX1_takesFigure_19 (by decide) rfl (fun c19_2 => ?_) (fun c19_2 => ?_)
      · refine j_aload_0 (n' := 25) F dX1_takesFigure_24 rfl ?_
        refine j_getR (n' := 28) F fl_X1_18 kap_3 rfl dX1_takesFigure_25 rfl ?_
        refine j_aload_0 (n' := 29) F dX1_takesFigure_28 rfl ?_
        refine j_getI (n' := 32) F 5 rfl fl_X1_32 kap_3 rfl dX1_takesFigure_29 rfl ?_
        refine j_if_eq (t := 42) (n' := 35) F (by omega) dX1_takesFigure_32 (by decide) rfl (fun c32_3 => ?_) (fun c32_3 => ?_)
        · refine j_aload_0 (n' := 43) F dX1_takesFigure_42 rfl ?_
          refine j_getI (n' := 46) F 4 rfl fl_X1_29 kap_3 rfl dX1_takesFigure_43 rfl ?_
          refine j_iload_1 (n' := 47) F dX1_takesFigure_46 rfl ?_
          refine j_cS2i (n' := 50) F kl_X1_81 (c_Tok_copy) (by decide) (Nat.le_of_ble_eq_true rfl) dX1_takesFigure_47 rfl (fun z5 φ5 h5 => ?_)
          obtain ⟨rfl, rfl⟩ := h5
          refine j_cV1v (n' := 53) F kl_X1_73 (c_Row_add kap_5 kap_6 (by decide) hr (by omega) (by omega)) kap_5 rfl (by decide) (Nat.le_of_ble_eq_true rfl) dX1_takesFigure_50 rfl (fun z6 φ6 h6 => ?_)
          obtain ⟨hr6, hf6⟩ := h6
          refine j_iconst (n' := 54) F dX1_takesFigure_53 rfl ?_
          refine j_istore_2 (n' := 55) F (by decide) jc_i dX1_takesFigure_54 rfl ?_
          exact loop x.toNat 0 md φ6 (by omega) (by omega) (by omega) (by omega) (hm.fr (hf6 3 2 (by omega)) (fun b => hf6 4 b (by omega))) rfl (by first | (rw [if_pos (by omega)]; exact hr6) | (rw [if_neg (by omega)]; exact hr6)) (fun b hb => hf6 3 b (by omega)) (hf6.wk (fun a h => by omega))
        · refine j_iload_1 (n' := 36) F dX1_takesFigure_35 rfl ?_
          refine j_cS1i (n' := 39) F kl_X1_76 (c_Tok_again) (by decide) (Nat.le_of_ble_eq_true rfl) dX1_takesFigure_36 rfl (fun z7 φ7 h7 => ?_)
          obtain ⟨rfl, rfl⟩ := h7
          refine j_goto (t := 50) F dX1_takesFigure_39 (by decide) ?_
          refine j_cV1v (n' := 53) F kl_X1_73 (c_Row_add kap_5 kap_6 (by decide) hr (by omega) (by omega)) kap_5 rfl (by decide) (Nat.le_of_ble_eq_true rfl) dX1_takesFigure_50 rfl (fun z8 φ8 h8 => ?_)
          obtain ⟨hr8, hf8⟩ := h8
          refine j_iconst (n' := 54) F dX1_takesFigure_53 rfl ?_
          refine j_istore_2 (n' := 55) F (by decide) jc_i dX1_takesFigure_54 rfl ?_
          exact loop x.toNat 0 md φ8 (by omega) (by omega) (by omega) (by omega) (hm.fr (hf8 3 2 (by omega)) (fun b => hf8 4 b (by omega))) rfl (by first | (rw [if_pos (by omega)]; exact hr8) | (rw [if_neg (by omega)]; exact hr8)) (fun b hb => hf8 3 b (by omega)) (hf8.wk (fun a h => by omega))
      · refine j_iconst (n' := 23) F dX1_takesFigure_22 rfl ?_
        exact j_zreturn F E (by omega) dX1_takesFigure_23 (⟨Or.inl rfl, fun h => by omega, fun _ => ⟨rfl, rfl⟩, fun _ _ => rfl, frC.rf⟩)
set_option maxRecDepth 20000 in
theorem c_Rea_takes_fig {l : Launch} {G : jG} {B0 : Nat} {φ : jPhi} {x : Int} {md ts : List Int} (hm : mdIs φ 3 4 2 md) (hr : rowIs φ 5 6 ts) (hts : ts.length ≤ md.length) (hml : md.length ≤ 24) (hc : 32 ≤ x ∧ x ≤ 126) (hd : 1 ≤ φ 3 4 ∧ φ 3 4 ≤ md.length) (ha : φ 3 5 = 0 ∨ φ 3 5 = 1) : jC l G B0 κF 113 yX1_takes cX1_takes 3 (some .boolean) 3 [rf B0 3, iv x] φ mkI (fun z φ' => (z = 0 ∨ z = 1) ∧ ((2 ≤ (x - 48) ∧ (x - 48) ≤ 8 ∧ md.length + (x - 48) ≤ 24) → z = 1 ∧ mdIs φ' 3 4 2 (cpN md (φ 3 4) (x - 48).toNat) ∧ rowIs φ' 5 6 (ts ++ [(if φ 3 5 = 0 then 1000 + 10 * φ 3 4 + (x - 48) else 100 + (x - 48))]) ∧ φ' 3 3 = φ 3 4 ∧ φ' 3 4 = 0) ∧ (¬ (2 ≤ (x - 48) ∧ (x - 48) ≤ 8 ∧ md.length + (x - 48) ≤ 24) → z = 0 ∧ φ' = φ) ∧ (∀ b, 5 ≤ b → φ' 3 b = φ 3 b) ∧ frC (fun a => a = 3 ∨ a = 4 ∨ a = 5 ∨ a = 6) φ φ') := by
  refine jC_start RX1 [some (rf B0 3), some (iv x), none] (by decide) rfl (Nat.le_of_ble_eq_true rfl) rfl (fun X Q F E => ?_)
  refine j_aload_0 (n' := 1) F dX1_takes_0 rfl ?_
  refine j_getI (n' := 4) F 4 rfl fl_X1_29 kap_3 rfl dX1_takes_1 rfl ?_
  refine j_if_le (t := 16) (n' := 7) F (by omega) dX1_takes_4 (by decide) rfl (fun c4_0 => ?_) (fun c4_0 => ?_)
  · omega
  · refine j_aload_0 (n' := 8) F dX1_takes_7 rfl ?_
    refine j_iload_1 (n' := 9) F dX1_takes_8 rfl ?_
    refine j_bipush (n' := 11) F dX1_takes_9 (by decide) rfl ?_
    refine j_isub (n' := 12) F dX1_takes_11 rfl ?_
    refine j_cV1i (n' := 15) F kl_X1_60 (c_Rea_takesFigure hm hr hts hml (by omega) hd ha) kap_3 rfl (by decide) (Nat.le_of_ble_eq_true rfl) dX1_takes_12 rfl (fun z2 φ2 h2 => ?_)
    have hz2 := (h2).1
    exact j_zreturn F E (by omega) dX1_takes_15 (h2)
set_option maxRecDepth 20000 in
theorem c_Rea_takes_let {l : Launch} {G : jG} {B0 : Nat} {φ : jPhi} {x : Int} {md ts : List Int} (hm : mdIs φ 3 4 2 md) (hr : rowIs φ 5 6 ts) (hts : ts.length ≤ md.length) (hml : md.length ≤ 24) (hc : 32 ≤ x ∧ x ≤ 126) (hd : φ 3 4 = 0) (hx : 97 ≤ x ∧ x ≤ 100) : jC l G B0 κF 113 yX1_takes cX1_takes 3 (some .boolean) 3 [rf B0 3, iv x] φ mkI (fun z φ' => (z = 0 ∨ z = 1) ∧ (md.length < 24 → z = 1 ∧ mdIs φ' 3 4 2 (md ++ [x - 97]) ∧ rowIs φ' 5 6 (ts ++ [x - 97])) ∧ (¬ md.length < 24 → z = 0 ∧ mdIs φ' 3 4 2 md ∧ rowIs φ' 5 6 ts) ∧ (∀ b, b ≠ 2 → φ' 3 b = φ 3 b) ∧ frC (fun a => a = 3 ∨ a = 4 ∨ a = 5 ∨ a = 6) φ φ') := by
  refine jC_start RX1 [some (rf B0 3), some (iv x), none] (by decide) rfl (Nat.le_of_ble_eq_true rfl) rfl (fun X Q F E => ?_)
  refine j_aload_0 (n' := 1) F dX1_takes_0 rfl ?_
  refine j_getI (n' := 4) F 4 rfl fl_X1_29 kap_3 rfl dX1_takes_1 rfl ?_
  refine j_if_le (t := 16) (n' := 7) F (by omega) dX1_takes_4 (by decide) rfl (fun c4_0 => ?_) (fun c4_0 => ?_)
  · refine j_iload_1 (n' := 17) F dX1_takes_16 rfl ?_
    refine j_bipush (n' := 19) F dX1_takes_17 (by decide) rfl ?_
    refine j_isub (n' := 20) F dX1_takes_19 rfl ?_
    refine j_istore_2 (n' := 21) F (by decide) jc_i dX1_takes_20 rfl ?_
    refine j_iload_2 (n' := 22) F dX1_takes_21 rfl ?_
    refine j_if_lt (t := 36) (n' := 25) F (by omega) dX1_takes_22 (by decide) rfl (fun c22_1 => ?_) (fun c22_1 => ?_)
    · omega
    · refine j_iload_2 (n' := 26) F dX1_takes_25 rfl ?_
      refine j_iconst (n' := 27) F dX1_takes_26 rfl ?_
      refine j_icmp_ge (t := 36) (n' := 30) F (by omega) (by omega) dX1_takes_27 (by decide) rfl (fun c27_2 => ?_) (fun c27_2 => ?_)
      · omega
      · refine j_aload_0 (n' := 31) F dX1_takes_30 rfl ?_
        refine j_iload_2 (n' := 32) F dX1_takes_31 rfl ?_
        refine j_cV1i (n' := 35) F kl_X1_63 (c_Rea_takesLetter hm hr hts hml (by omega)) kap_3 rfl (by decide) (Nat.le_of_ble_eq_true rfl) dX1_takes_32 rfl (fun z4 φ4 h4 => ?_)
        have hz4 := (h4).1
        exact j_zreturn F E (by omega) dX1_takes_35 (h4)
  · omega
set_option maxRecDepth 20000 in
theorem c_Rea_takes_opn {l : Launch} {G : jG} {B0 : Nat} {φ : jPhi} {x : Int} {md : List Int} (hm : mdIs φ 3 4 2 md) (hml : md.length ≤ 24) (hc : 32 ≤ x ∧ x ≤ 126) (hd : φ 3 4 = 0) (hla : 0 ≤ φ 3 3 ∧ φ 3 3 ≤ 24) (hx : ¬ (97 ≤ x ∧ x ≤ 100)) : jC l G B0 κF 113 yX1_takes cX1_takes 3 (some .boolean) 3 [rf B0 3, iv x] φ mkI (fun z φ' => (z = 0 ∨ z = 1) ∧ φ' 3 5 = (if x = 61 then 1 else 0) ∧ ((1 ≤ (if x = 61 then φ 3 3 else x - 64) ∧ (if x = 61 then φ 3 3 else x - 64) ≤ md.length) → z = 1 ∧ φ' 3 4 = (if x = 61 then φ 3 3 else x - 64)) ∧ (¬ (1 ≤ (if x = 61 then φ 3 3 else x - 64) ∧ (if x = 61 then φ 3 3 else x - 64) ≤ md.length) → z = 0 ∧ φ' 3 4 = 0) ∧ (∀ b, b ≠ 4 → b ≠ 5 → φ' 3 b = φ 3 b) ∧ frC (fun a => a = 3) φ φ') := by
  refine jC_start RX1 [some (rf B0 3), some (iv x), none] (by decide) rfl (Nat.le_of_ble_eq_true rfl) rfl (fun X Q F E => ?_)
  have h1 := hm.1
  refine j_aload_0 (n' := 1) F dX1_takes_0 rfl ?_
  refine j_getI (n' := 4) F 4 rfl fl_X1_29 kap_3 rfl dX1_takes_1 rfl ?_
  refine j_if_le (t := 16) (n' := 7) F (by omega) dX1_takes_4 (by decide) rfl (fun c4_0 => ?_) (fun c4_0 => ?_)
  · refine j_iload_1 (n' := 17) F dX1_takes_16 rfl ?_
    refine j_bipush (n' := 19) F dX1_takes_17 (by decide) rfl ?_
    refine j_isub (n' := 20) F dX1_takes_19 rfl ?_
    refine j_istore_2 (n' := 21) F (by decide) jc_i dX1_takes_20 rfl ?_
    refine j_iload_2 (n' := 22) F dX1_takes_21 rfl ?_
    refine j_if_lt (t := 36) (n' := 25) F (by omega) dX1_takes_22 (by decide) rfl (fun c22_1 => ?_) (fun c22_1 => ?_)
    · refine j_aload_0 (n' := 37) F dX1_takes_36 rfl ?_
      refine j_iload_1 (n' := 38) F dX1_takes_37 rfl ?_
      refine j_bipush (n' := 40) F dX1_takes_38 (by decide) rfl ?_
      refine j_icmp_ne (t := 47) (n' := 43) F (by omega) (by omega) dX1_takes_40 (by decide) rfl (fun c40_2 => ?_) (fun c40_2 => ?_)
      · refine j_iconst (n' := 48) F dX1_takes_47 rfl ?_
        refine j_putB (n' := 51) F 5 rfl (by omega) fp_X1_32 kap_3 rfl rfl dX1_takes_48 rfl (fun φ4 e4 => ?_)
        have v2 : φ4 3 2 = φ 3 2 := by rw [e4]; simp [zU]
        have v3 : φ4 3 3 = φ 3 3 := by rw [e4]; simp [zU]
        have v4 : φ4 3 4 = φ 3 4 := by rw [e4]; simp [zU]
        have v5 := congrFun (congrFun e4 3) 5
        rw [zU_self] at v5
        refine j_aload_0 (n' := 52) F dX1_takes_51 rfl ?_
        refine j_aload_0 (n' := 53) F dX1_takes_52 rfl ?_
        refine j_getI (n' := 56) F 5 rfl fl_X1_32 kap_3 rfl dX1_takes_53 rfl ?_
        refine j_if_eq (t := 66) (n' := 59) F (by omega) dX1_takes_56 (by decide) rfl (fun c56_4 => ?_) (fun c56_4 => ?_)
        · refine j_iload_1 (n' := 67) F dX1_takes_66 rfl ?_
          refine j_bipush (n' := 69) F dX1_takes_67 (by decide) rfl ?_
          refine j_isub (n' := 70) F dX1_takes_69 rfl ?_
          refine j_iconst (n' := 71) F dX1_takes_70 rfl ?_
          refine j_iadd (n' := 72) F dX1_takes_71 rfl ?_
          refine j_cV1i (n' := 75) F kl_X1_66 (c_Rea_opens (by omega) (by omega)) kap_3 rfl (by decide) (Nat.le_of_ble_eq_true rfl) dX1_takes_72 rfl (fun z6 φ6 h6 => ?_)
          have hz6 := (h6).1
          refine j_zreturn F E (by omega) dX1_takes_75 ?_
          have hx1 : φ4 3 5 = if x = 61 then 1 else 0 := by rw [e4, zU_self]; first | rw [if_pos (by omega)] | rw [if_neg (by omega)]
          obtain ⟨z0, zt, zf⟩ := h6
          refine ⟨z0, ?_, fun h => ?_, fun h => ?_, fun b q1 q2 => ?_, ?_⟩
          · by_cases g : 1 ≤ (x - 65 + 1) ∧ (x - 65 + 1) ≤ φ4 3 2
            · rw [(zt g).2, zU_ne (by omega)]
              exact hx1
            · rw [(zf g).2]
              exact hx1
          · have g : 1 ≤ (x - 65 + 1) ∧ (x - 65 + 1) ≤ φ4 3 2 := by split at h <;> omega
            refine ⟨(zt g).1, ?_⟩
            rw [(zt g).2, zU_self]
            split <;> omega
          · have g : ¬ (1 ≤ (x - 65 + 1) ∧ (x - 65 + 1) ≤ φ4 3 2) := by split at h <;> omega
            refine ⟨(zf g).1, ?_⟩
            rw [(zf g).2]
            omega
          · by_cases g : 1 ≤ (x - 65 + 1) ∧ (x - 65 + 1) ≤ φ4 3 2
            · rw [(zt g).2, zU_ne (by omega), e4, zU_ne (by omega)]
            · rw [(zf g).2, e4, zU_ne (by omega)]
          · by_cases g : 1 ≤ (x - 65 + 1) ∧ (x - 65 + 1) ≤ φ4 3 2
            · rw [(zt g).2, e4]
              exact frC.put (S := fun a => a = 3) (frC.put (S := fun a => a = 3) frC.rf rfl) rfl
            · rw [(zf g).2, e4]
              exact frC.put (S := fun a => a = 3) frC.rf rfl
        · omega
      · refine j_iconst (n' := 44) F dX1_takes_43 rfl ?_
        refine j_goto (t := 48) F dX1_takes_44 (by decide) ?_
        refine j_putB (n' := 51) F 5 rfl (by omega) fp_X1_32 kap_3 rfl rfl dX1_takes_48 rfl (fun φ7 e7 => ?_)
        have v2 : φ7 3 2 = φ 3 2 := by rw [e7]; simp [zU]
        have v3 : φ7 3 3 = φ 3 3 := by rw [e7]; simp [zU]
        have v4 : φ7 3 4 = φ 3 4 := by rw [e7]; simp [zU]
        have v5 := congrFun (congrFun e7 3) 5
        rw [zU_self] at v5
        refine j_aload_0 (n' := 52) F dX1_takes_51 rfl ?_
        refine j_aload_0 (n' := 53) F dX1_takes_52 rfl ?_
        refine j_getI (n' := 56) F 5 rfl fl_X1_32 kap_3 rfl dX1_takes_53 rfl ?_
        refine j_if_eq (t := 66) (n' := 59) F (by omega) dX1_takes_56 (by decide) rfl (fun c56_7 => ?_) (fun c56_7 => ?_)
        · omega
        · refine j_aload_0 (n' := 60) F dX1_takes_59 rfl ?_
          refine j_getI (n' := 63) F 3 rfl fl_X1_26 kap_3 rfl dX1_takes_60 rfl ?_
          refine j_goto (t := 72) F dX1_takes_63 (by decide) ?_
          refine j_cV1i (n' := 75) F kl_X1_66 (c_Rea_opens (by omega) (by omega)) kap_3 rfl (by decide) (Nat.le_of_ble_eq_true rfl) dX1_takes_72 rfl (fun z9 φ9 h9 => ?_)
          have hz9 := (h9).1
          refine j_zreturn F E (by omega) dX1_takes_75 ?_
          have hx1 : φ7 3 5 = if x = 61 then 1 else 0 := by rw [e7, zU_self]; first | rw [if_pos (by omega)] | rw [if_neg (by omega)]
          obtain ⟨z0, zt, zf⟩ := h9
          refine ⟨z0, ?_, fun h => ?_, fun h => ?_, fun b q1 q2 => ?_, ?_⟩
          · by_cases g : 1 ≤ φ7 3 3 ∧ φ7 3 3 ≤ φ7 3 2
            · rw [(zt g).2, zU_ne (by omega)]
              exact hx1
            · rw [(zf g).2]
              exact hx1
          · have g : 1 ≤ φ7 3 3 ∧ φ7 3 3 ≤ φ7 3 2 := by split at h <;> omega
            refine ⟨(zt g).1, ?_⟩
            rw [(zt g).2, zU_self]
            split <;> omega
          · have g : ¬ (1 ≤ φ7 3 3 ∧ φ7 3 3 ≤ φ7 3 2) := by split at h <;> omega
            refine ⟨(zf g).1, ?_⟩
            rw [(zf g).2]
            omega
          · by_cases g : 1 ≤ φ7 3 3 ∧ φ7 3 3 ≤ φ7 3 2
            · rw [(zt g).2, zU_ne (by omega), e7, zU_ne (by omega)]
            · rw [(zf g).2, e7, zU_ne (by omega)]
          · by_cases g : 1 ≤ φ7 3 3 ∧ φ7 3 3 ≤ φ7 3 2
            · rw [(zt g).2, e7]
              exact frC.put (S := fun a => a = 3) (frC.put (S := fun a => a = 3) frC.rf rfl) rfl
            · rw [(zf g).2, e7]
              exact frC.put (S := fun a => a = 3) frC.rf rfl
    · refine j_iload_2 (n' := 26) F dX1_takes_25 rfl ?_
      refine j_iconst (n' := 27) F dX1_takes_26 rfl ?_
      refine j_icmp_ge (t := 36) (n' := 30) F (by omega) (by omega) dX1_takes_27 (by decide) rfl (fun c27_9 => ?_) (fun c27_9 => ?_)
      · refine j_aload_0 (n' := 37) F dX1_takes_36 rfl ?_
        refine j_iload_1 (n' := 38) F dX1_takes_37 rfl ?_
        refine j_bipush (n' := 40) F dX1_takes_38 (by decide) rfl ?_
        refine j_icmp_ne (t := 47) (n' := 43) F (by omega) (by omega) dX1_takes_40 (by decide) rfl (fun c40_10 => ?_) (fun c40_10 => ?_)
        · refine j_iconst (n' := 48) F dX1_takes_47 rfl ?_
          refine j_putB (n' := 51) F 5 rfl (by omega) fp_X1_32 kap_3 rfl rfl dX1_takes_48 rfl (fun φ12 e12 => ?_)
          have v2 : φ12 3 2 = φ 3 2 := by rw [e12]; simp [zU]
          have v3 : φ12 3 3 = φ 3 3 := by rw [e12]; simp [zU]
          have v4 : φ12 3 4 = φ 3 4 := by rw [e12]; simp [zU]
          have v5 := congrFun (congrFun e12 3) 5
          rw [zU_self] at v5
          refine j_aload_0 (n' := 52) F dX1_takes_51 rfl ?_
          refine j_aload_0 (n' := 53) F dX1_takes_52 rfl ?_
          refine j_getI (n' := 56) F 5 rfl fl_X1_32 kap_3 rfl dX1_takes_53 rfl ?_
          refine j_if_eq (t := 66) (n' := 59) F (by omega) dX1_takes_56 (by decide) rfl (fun c56_12 => ?_) (fun c56_12 => ?_)
          · refine j_iload_1 (n' := 67) F dX1_takes_66 rfl ?_
            refine j_bipush (n' := 69) F dX1_takes_67 (by decide) rfl ?_
            refine j_isub (n' := 70) F dX1_takes_69 rfl ?_
            refine j_iconst (n' := 71) F dX1_takes_70 rfl ?_
            refine j_iadd (n' := 72) F dX1_takes_71 rfl ?_
            refine j_cV1i (n' := 75) F kl_X1_66 (c_Rea_opens (by omega) (by omega)) kap_3 rfl (by decide) (Nat.le_of_ble_eq_true rfl) dX1_takes_72 rfl (fun z14 φ14 h14 => ?_)
            have hz14 := (h14).1
            refine j_zreturn F E (by omega) dX1_takes_75 ?_
            have hx1 : φ12 3 5 = if x = 61 then 1 else 0 := by rw [e12, zU_self]; first | rw [if_pos (by omega)] | rw [if_neg (by omega)]
            obtain ⟨z0, zt, zf⟩ := h14
            refine ⟨z0, ?_, fun h => ?_, fun h => ?_, fun b q1 q2 => ?_, ?_⟩
            · by_cases g : 1 ≤ (x - 65 + 1) ∧ (x - 65 + 1) ≤ φ12 3 2
              · rw [(zt g).2, zU_ne (by omega)]
                exact hx1
              · rw [(zf g).2]
                exact hx1
            · have g : 1 ≤ (x - 65 + 1) ∧ (x - 65 + 1) ≤ φ12 3 2 := by split at h <;> omega
              refine ⟨(zt g).1, ?_⟩
              rw [(zt g).2, zU_self]
              split <;> omega
            · have g : ¬ (1 ≤ (x - 65 + 1) ∧ (x - 65 + 1) ≤ φ12 3 2) := by split at h <;> omega
              refine ⟨(zf g).1, ?_⟩
              rw [(zf g).2]
              omega
            · by_cases g : 1 ≤ (x - 65 + 1) ∧ (x - 65 + 1) ≤ φ12 3 2
              · rw [(zt g).2, zU_ne (by omega), e12, zU_ne (by omega)]
              · rw [(zf g).2, e12, zU_ne (by omega)]
            · by_cases g : 1 ≤ (x - 65 + 1) ∧ (x - 65 + 1) ≤ φ12 3 2
              · rw [(zt g).2, e12]
                exact frC.put (S := fun a => a = 3) (frC.put (S := fun a => a = 3) frC.rf rfl) rfl
              · rw [(zf g).2, e12]
                exact frC.put (S := fun a => a = 3) frC.rf rfl
          · omega
        · refine j_iconst (n' := 44) F dX1_takes_43 rfl ?_
          refine j_goto (t := 48) F dX1_takes_44 (by decide) ?_
          refine j_putB (n' := 51) F 5 rfl (by omega) fp_X1_32 kap_3 rfl rfl dX1_takes_48 rfl (fun φ15 e15 => ?_)
          have v2 : φ15 3 2 = φ 3 2 := by rw [e15]; simp [zU]
          have v3 : φ15 3 3 = φ 3 3 := by rw [e15]; simp [zU]
          have v4 : φ15 3 4 = φ 3 4 := by rw [e15]; simp [zU]
          have v5 := congrFun (congrFun e15 3) 5
          rw [zU_self] at v5
          refine j_aload_0 (n' := 52) F dX1_takes_51 rfl ?_
          refine j_aload_0 (n' := 53) F dX1_takes_52 rfl ?_
          refine j_getI (n' := 56) F 5 rfl fl_X1_32 kap_3 rfl dX1_takes_53 rfl ?_
          refine j_if_eq (t := 66) (n' := 59) F (by omega) dX1_takes_56 (by decide) rfl (fun c56_15 => ?_) (fun c56_15 => ?_)
          · omega
          · refine j_aload_0 (n' := 60) F dX1_takes_59 rfl ?_
            refine j_getI (n' := 63) F 3 rfl fl_X1_26 kap_3 rfl dX1_takes_60 rfl ?_
            refine j_goto (t := 72) F dX1_takes_63 (by decide) ?_
            refine j_cV1i (n' := 75) F kl_X1_66 (c_Rea_opens (by omega) (by omega)) kap_3 rfl (by decide) (Nat.le_of_ble_eq_true rfl) dX1_takes_72 rfl (fun z17 φ17 h17 => ?_)
            have hz17 := (h17).1
            refine j_zreturn F E (by omega) dX1_takes_75 ?_
            have hx1 : φ15 3 5 = if x = 61 then 1 else 0 := by rw [e15, zU_self]; first | rw [if_pos (by omega)] | rw [if_neg (by omega)]
            obtain ⟨z0, zt, zf⟩ := h17
            refine ⟨z0, ?_, fun h => ?_, fun h => ?_, fun b q1 q2 => ?_, ?_⟩
            · by_cases g : 1 ≤ φ15 3 3 ∧ φ15 3 3 ≤ φ15 3 2
              · rw [(zt g).2, zU_ne (by omega)]
                exact hx1
              · rw [(zf g).2]
                exact hx1
            · have g : 1 ≤ φ15 3 3 ∧ φ15 3 3 ≤ φ15 3 2 := by split at h <;> omega
              refine ⟨(zt g).1, ?_⟩
              rw [(zt g).2, zU_self]
              split <;> omega
            · have g : ¬ (1 ≤ φ15 3 3 ∧ φ15 3 3 ≤ φ15 3 2) := by split at h <;> omega
              refine ⟨(zf g).1, ?_⟩
              rw [(zf g).2]
              omega
            · by_cases g : 1 ≤ φ15 3 3 ∧ φ15 3 3 ≤ φ15 3 2
              · rw [(zt g).2, zU_ne (by omega), e15, zU_ne (by omega)]
              · rw [(zf g).2, e15, zU_ne (by omega)]
            · by_cases g : 1 ≤ φ15 3 3 ∧ φ15 3 3 ≤ φ15 3 2
              · rw [(zt g).2, e15]
                exact frC.put (S := fun a => a = 3) (frC.put (S := fun a => a = 3) frC.rf rfl) rfl
              · rw [(zf g).2, e15]
                exact frC.put (S := fun a => a = 3) frC.rf rfl
      · omega
  · omega
end
section
set_option maxRecDepth 20000 in
theorem c_Rea_read {l : Launch} {G : jG} {B0 : Nat} {φ : jPhi}  (hs : 0 ≤ φ 1 1 ∧ φ 1 1 ≤ 30) (hp : ∀ k, 0 ≤ k → k < φ 1 1 → 32 ≤ φ 2 k ∧ φ 2 k ≤ 126) : jC l G B0 κF 113 yX1_read cX1_read 2 none 4 [rf B0 3, rf B0 1] φ mkV (fun z φ' => (if φ' 3 7 ≠ 0 ∧ φ' 3 4 = 0 ∧ 0 < φ' 5 1 then 1 else 0) = (rdR (φ 2) (φ 1 1)).2.1 ∧ φ' 3 6 = (rdR (φ 2) (φ 1 1)).1 ∧ (0 ≤ φ' 5 1 ∧ φ' 5 1 ≤ 24) ∧ (0 ≤ φ' 3 4 ∧ φ' 3 4 ≤ 24) ∧ (0 ≤ φ' 3 7 ∧ φ' 3 7 ≤ 1) ∧ mdIs φ' 3 4 2 (rdR (φ 2) (φ 1 1)).2.2.1 ∧ rowIs φ' 5 6 (rdR (φ 2) (φ 1 1)).2.2.2 ∧ frC (fun a => a = 3 ∨ a = 4 ∨ a = 5 ∨ a = 6) φ φ') := by
  refine jC_start RX1 [some (rf B0 3), some (rf B0 1)] (by decide) rfl (Nat.le_of_ble_eq_true rfl) rfl (fun X Q F E => ?_)
  have done : ∀ (i o a : Int) (md ts : List Int) (ψ : jPhi), ψ 3 7 = a → (a = 0 ∨ (a = 1 ∧ φ 1 1 ≤ i)) → 0 ≤ i → i ≤ φ 1 1 → ψ 3 6 = i → rdR (φ 2) (φ 1 1) = (i, (if a ≠ 0 ∧ o = 0 ∧ 0 < (ts.length : Int) then 1 else 0), md, ts) → mdIs ψ 3 4 2 md → rowIs ψ 5 6 ts → ts.length ≤ 24 → ψ 3 4 = o → 0 ≤ o → o ≤ 24 → frC (fun a => a = 3 ∨ a = 4 ∨ a = 5 ∨ a = 6) φ ψ → jJ X G B0 κF 113 0 0 Q 2 ψ 37 [some (rf B0 3), some (rf B0 1)] [] := by
    intro i o a md ts ψ h1 h2 h3 h4 h5 h6 h7 h8 h9 k1 k2 k3 k4
    have v1 : ψ 1 1 = φ 1 1 := k4 1 1 (by omega)
    have w1 := h8.1
    refine j_aload_0 (n' := 38) F dX1_read_37 rfl ?_
    refine j_getI (n' := 41) F 7 rfl fl_X1_39 kap_3 rfl dX1_read_38 rfl ?_
    refine j_if_eq (t := 91) (n' := 44) F (by omega) dX1_read_41 (by decide) rfl (fun c41_0 => ?_) (fun c41_0 => ?_)
    · refine j_return F E dX1_read_91 ?_
      rw [h6]
      exact ⟨by rw [h1, k1, w1], h5, by omega, by omega, by omega, h7, h8, k4⟩
    · refine j_aload_0 (n' := 45) F dX1_read_44 rfl ?_
      refine j_getI (n' := 48) F 6 rfl fl_X1_36 kap_3 rfl dX1_read_45 rfl ?_
      refine j_aload_1 (n' := 49) F dX1_read_48 rfl ?_
      refine j_cV0i (n' := 52) F kl_X1_45 (c_Pag_size) kap_1 rfl (by decide) (Nat.le_of_ble_eq_true rfl) dX1_read_49 rfl (fun z2 φ2 h2 => ?_)
      obtain ⟨rfl, rfl⟩ := h2
      refine j_icmp_ge (t := 91) (n' := 55) F (by omega) (by omega) dX1_read_52 (by decide) rfl (fun c52_2 => ?_) (fun c52_2 => ?_)
      · refine j_return F E dX1_read_91 ?_
        rw [h6]
        exact ⟨by rw [h1, k1, w1], h5, by omega, by omega, by omega, h7, h8, k4⟩
      · omega
  have main : ∀ (k : Nat) (i : Int) (md ts : List Int) (la : Int) (ψ : jPhi), φ 1 1 - i < k → 0 ≤ i → i ≤ φ 1 1 → ψ 3 6 = i → ψ 3 7 = 1 → (ψ 3 5 = 0 ∨ ψ 3 5 = 1) → mdIs ψ 3 4 2 md → rowIs ψ 5 6 ts → ts.length ≤ md.length → md.length ≤ 24 → frC (fun a => a = 3 ∨ a = 4 ∨ a = 5 ∨ a = 6) φ ψ → ψ 3 4 = 0 → ψ 3 3 = la → 0 ≤ la → la ≤ 24 → rdC (φ 2) (φ 1 1) k i md ts la = rdR (φ 2) (φ 1 1) → jJ X G B0 κF 113 0 0 Q 2 ψ 37 [some (rf B0 3), some (rf B0 1)] [] := by
    intro k
    induction k with
    | zero => intro i md ts la ψ h1 h2 h3; omega
    | succ k ih =>
      have opn : ∀ (i : Int) (md ts : List Int) (d a : Int) (ψ : jPhi), φ 1 1 - i < k → 0 ≤ i → i ≤ φ 1 1 → ψ 3 6 = i → ψ 3 7 = 1 → ψ 3 5 = a → (a = 0 ∨ a = 1) → mdIs ψ 3 4 2 md → rowIs ψ 5 6 ts → ts.length ≤ md.length → md.length ≤ 24 → frC (fun a => a = 3 ∨ a = 4 ∨ a = 5 ∨ a = 6) φ ψ → ψ 3 4 = d → 1 ≤ d → d ≤ md.length → figF (rdC (φ 2) (φ 1 1) k) (φ 2) (φ 1 1) i md ts d a = rdR (φ 2) (φ 1 1) → jJ X G B0 κF 113 0 0 Q 2 ψ 37 [some (rf B0 3), some (rf B0 1)] [] := by
        intro i md ts d a ψ h1 h2 h3 h4 h5 h6 h7 h8 h9 k1 k2 k3 k4 k5 k6 k7
        have v1 : ψ 1 1 = φ 1 1 := k3 1 1 (by omega)
        have v2 : ψ 2 = φ 2 := funext fun b => k3 2 b (by omega)
        by_cases hin : i < φ 1 1
        · have hg := hp i h2 hin
          by_cases hgd : 2 ≤ φ 2 i - 48 ∧ φ 2 i - 48 ≤ 8 ∧ md.length + (φ 2 i - 48) ≤ 24
          · rw [figF, if_pos ⟨hin, hgd⟩] at k7
            refine j_aload_0 (n' := 38) F dX1_read_37 rfl ?_
            refine j_getI (n' := 41) F 7 rfl fl_X1_39 kap_3 rfl dX1_read_38 rfl ?_
            refine j_if_eq (t := 91) (n' := 44) F (by omega) dX1_read_41 (by decide) rfl (fun c41_0 => ?_) (fun c41_0 => ?_)
            · omega
            · refine j_aload_0 (n' := 45) F dX1_read_44 rfl ?_
              refine j_getI (n' := 48) F 6 rfl fl_X1_36 kap_3 rfl dX1_read_45 rfl ?_
              refine j_aload_1 (n' := 49) F dX1_read_48 rfl ?_
              refine j_cV0i (n' := 52) F kl_X1_45 (c_Pag_size) kap_1 rfl (by decide) (Nat.le_of_ble_eq_true rfl) dX1_read_49 rfl (fun z2 φ2 h2 => ?_)
              obtain ⟨rfl, rfl⟩ := h2
              refine j_icmp_ge (t := 91) (n' := 55) F (by omega) (by omega) dX1_read_52 (by decide) rfl (fun c52_2 => ?_) (fun c52_2 => ?_)
              · omega
              · refine j_aload_0 (n' := 56) F dX1_read_55 rfl ?_
                refine j_aload_1 (n' := 57) F dX1_read_56 rfl ?_
                refine j_aload_0 (n' := 58) F dX1_read_57 rfl ?_
                refine j_getI (n' := 61) F 6 rfl fl_X1_36 kap_3 rfl dX1_read_58 rfl ?_
                refine j_cV1i (n' := 64) F kl_X1_51 (c_Pag_signAt (by omega) (by omega)) kap_1 rfl (by decide) (Nat.le_of_ble_eq_true rfl) dX1_read_61 rfl (fun z4 φ4 h4 => ?_)
                obtain ⟨rfl, rfl⟩ := h4
                rw [if_pos (by omega), h4, v2]
                refine j_cV1i (n' := 67) F kl_X1_55 (c_Rea_takes_fig h8 h9 k1 k2 (by omega) (by omega) (by omega)) kap_3 rfl (by decide) (Nat.le_of_ble_eq_true rfl) dX1_read_64 rfl (fun z5 φ5 h5 => ?_)
                obtain ⟨hz5, hy5, hx5, hq5, hf5⟩ := h5
                obtain ⟨t0, t1, t2, t3, t4⟩ := hy5 (by omega)
                subst t0
                refine j_if_eq (t := 83) (n' := 70) F (by omega) dX1_read_67 (by decide) rfl (fun c67_5 => ?_) (fun c67_5 => ?_)
                · omega
                · refine j_aload_0 (n' := 71) F dX1_read_70 rfl ?_
                  refine j_dup (n' := 72) F rfl dX1_read_71 rfl ?_
                  refine j_getI (n' := 75) F 6 rfl fl_X1_36 kap_3 rfl dX1_read_72 rfl ?_
                  refine j_iconst (n' := 76) F dX1_read_75 rfl ?_
                  refine j_iadd (n' := 77) F dX1_read_76 rfl ?_
                  refine j_putI (n' := 80) F 6 rfl fp_X1_36 kap_3 rfl rfl dX1_read_77 rfl (fun φ7 e7 => ?_)
                  refine j_goto (t := 37) F dX1_read_80 (by decide) ?_
                  refine ih (i + 1) _ _ d φ7 (by omega) (by omega) (by omega) (by rw [e7, zU_self, hq5 6 (by omega), h4]) (by rw [e7, zU_ne (by omega), hq5 7 (by omega)]; exact h5) (by rw [e7, zU_ne (by omega), hq5 5 (by omega)]; omega) ?_ ?_ (by rw [cpN_len]; simp; omega) (by rw [cpN_len]; omega) ?_ (by rw [e7, zU_ne (by omega)]; exact t4) (by rw [e7, zU_ne (by omega), t3]; exact k4) (by omega) (by omega) k7
                  · rw [k4] at t1
                    exact t1.fr (by rw [e7, zU_ne (by omega)]) (fun b => by rw [e7, zU_ne (by omega)])
                  · rw [k4, h6] at t2
                    exact t2.fr (fun b => by rw [e7, zU_ne (by omega)]) (fun b => by rw [e7, zU_ne (by omega)])
                  · rw [e7]
                    exact (k3.tr hf5).put (by omega)
          · rw [figF, if_neg (fun q => hgd q.2)] at k7
            refine j_aload_0 (n' := 38) F dX1_read_37 rfl ?_
            refine j_getI (n' := 41) F 7 rfl fl_X1_39 kap_3 rfl dX1_read_38 rfl ?_
            refine j_if_eq (t := 91) (n' := 44) F (by omega) dX1_read_41 (by decide) rfl (fun c41_0 => ?_) (fun c41_0 => ?_)
            · omega
            · refine j_aload_0 (n' := 45) F dX1_read_44 rfl ?_
              refine j_getI (n' := 48) F 6 rfl fl_X1_36 kap_3 rfl dX1_read_45 rfl ?_
              refine j_aload_1 (n' := 49) F dX1_read_48 rfl ?_
              refine j_cV0i (n' := 52) F kl_X1_45 (c_Pag_size) kap_1 rfl (by decide) (Nat.le_of_ble_eq_true rfl) dX1_read_49 rfl (fun z2 φ2 h2 => ?_)
              obtain ⟨rfl, rfl⟩ := h2
              refine j_icmp_ge (t := 91) (n' := 55) F (by omega) (by omega) dX1_read_52 (by decide) rfl (fun c52_2 => ?_) (fun c52_2 => ?_)
              · omega
              · refine j_aload_0 (n' := 56) F dX1_read_55 rfl ?_
                refine j_aload_1 (n' := 57) F dX1_read_56 rfl ?_
                refine j_aload_0 (n' := 58) F dX1_read_57 rfl ?_
                refine j_getI (n' := 61) F 6 rfl fl_X1_36 kap_3 rfl dX1_read_58 rfl ?_
                refine j_cV1i (n' := 64) F kl_X1_51 (c_Pag_signAt (by omega) (by omega)) kap_1 rfl (by decide) (Nat.le_of_ble_eq_true rfl) dX1_read_61 rfl (fun z4 φ4 h4 => ?_)
                obtain ⟨rfl, rfl⟩ := h4
                rw [if_pos (by omega), h4, v2]
                refine j_cV1i (n' := 67) F kl_X1_55 (c_Rea_takes_fig h8 h9 k1 k2 (by omega) (by omega) (by omega)) kap_3 rfl (by decide) (Nat.le_of_ble_eq_true rfl) dX1_read_64 rfl (fun z5 φ5 h5 => ?_)
                obtain ⟨hz5, hy5, hx5, hq5, hf5⟩ := h5
                obtain ⟨t0, t1⟩ := hx5 (by omega)
                subst t0
                subst t1
                refine j_if_eq (t := 83) (n' := 70) F (by omega) dX1_read_67 (by decide) rfl (fun c67_5 => ?_) (fun c67_5 => ?_)
                · refine j_aload_0 (n' := 84) F dX1_read_83 rfl ?_
                  refine j_iconst (n' := 85) F dX1_read_84 rfl ?_
                  refine j_putB (n' := 88) F 7 rfl (by omega) fp_X1_39 kap_3 rfl rfl dX1_read_85 rfl (fun φ7 e7 => ?_)
                  refine j_goto (t := 37) F dX1_read_88 (by decide) ?_
                  exact done i d 0 md ts φ7 (by rw [e7, zU_self]) (Or.inl rfl) h2 h3 (by rw [e7, zU_ne (by omega)]; exact h4) (by rw [if_neg (by omega)]; exact k7.symm) (h8.fr (by rw [e7, zU_ne (by omega)]) (fun b => by rw [e7, zU_ne (by omega)])) (h9.fr (fun b => by rw [e7, zU_ne (by omega)]) (fun b => by rw [e7, zU_ne (by omega)])) (by omega) (by rw [e7, zU_ne (by omega)]; exact k4) (by omega) (by omega) (by rw [e7]; exact k3.put (by omega))
                · omega
        · rw [figF, if_neg (fun q => hin q.1)] at k7
          exact done i d 1 md ts ψ h5 (Or.inr ⟨rfl, by omega⟩) h2 h3 h4 (by rw [if_neg (by omega)]; exact k7.symm) h8 h9 (by omega) k4 (by omega) (by omega) k3
      intro i md ts la ψ h1 h2 h3 h4 h5 h6 h7 h8 h9 k1 k2 k3 k4 k5 k6 k7
      have v1 : ψ 1 1 = φ 1 1 := k2 1 1 (by omega)
      have v2 : ψ 2 = φ 2 := funext fun b => k2 2 b (by omega)
      rw [rdC] at k7
      by_cases hin : i < φ 1 1
      · rw [if_pos hin] at k7
        have hg := hp i h2 hin
        by_cases hlt : 97 ≤ φ 2 i ∧ φ 2 i ≤ 100
        · rw [if_pos hlt] at k7
          by_cases hml : (md.length : Int) < 24
          · rw [if_pos hml] at k7
            refine j_aload_0 (n' := 38) F dX1_read_37 rfl ?_
            refine j_getI (n' := 41) F 7 rfl fl_X1_39 kap_3 rfl dX1_read_38 rfl ?_
            refine j_if_eq (t := 91) (n' := 44) F (by omega) dX1_read_41 (by decide) rfl (fun c41_0 => ?_) (fun c41_0 => ?_)
            · omega
            · refine j_aload_0 (n' := 45) F dX1_read_44 rfl ?_
              refine j_getI (n' := 48) F 6 rfl fl_X1_36 kap_3 rfl dX1_read_45 rfl ?_
              refine j_aload_1 (n' := 49) F dX1_read_48 rfl ?_
              refine j_cV0i (n' := 52) F kl_X1_45 (c_Pag_size) kap_1 rfl (by decide) (Nat.le_of_ble_eq_true rfl) dX1_read_49 rfl (fun z2 φ2 h2 => ?_)
              obtain ⟨rfl, rfl⟩ := h2
              refine j_icmp_ge (t := 91) (n' := 55) F (by omega) (by omega) dX1_read_52 (by decide) rfl (fun c52_2 => ?_) (fun c52_2 => ?_)
              · omega
              · refine j_aload_0 (n' := 56) F dX1_read_55 rfl ?_
                refine j_aload_1 (n' := 57) F dX1_read_56 rfl ?_
                refine j_aload_0 (n' := 58) F dX1_read_57 rfl ?_
                refine j_getI (n' := 61) F 6 rfl fl_X1_36 kap_3 rfl dX1_read_58 rfl ?_
                refine j_cV1i (n' := 64) F kl_X1_51 (c_Pag_signAt (by omega) (by omega)) kap_1 rfl (by decide) (Nat.le_of_ble_eq_true rfl) dX1_read_61 rfl (fun z4 φ4 h4 => ?_)
                obtain ⟨rfl, rfl⟩ := h4
                rw [if_pos (by omega), h4, v2]
                refine j_cV1i (n' := 67) F kl_X1_55 (c_Rea_takes_let h7 h8 h9 k1 (by omega) k3 (by omega)) kap_3 rfl (by decide) (Nat.le_of_ble_eq_true rfl) dX1_read_64 rfl (fun z5 φ5 h5 => ?_)
                obtain ⟨hz5, hy5, hx5, hq5, hf5⟩ := h5
                obtain ⟨t0, t1, t2⟩ := hy5 (by omega)
                subst t0
                refine j_if_eq (t := 83) (n' := 70) F (by omega) dX1_read_67 (by decide) rfl (fun c67_5 => ?_) (fun c67_5 => ?_)
                · omega
                · refine j_aload_0 (n' := 71) F dX1_read_70 rfl ?_
                  refine j_dup (n' := 72) F rfl dX1_read_71 rfl ?_
                  refine j_getI (n' := 75) F 6 rfl fl_X1_36 kap_3 rfl dX1_read_72 rfl ?_
                  refine j_iconst (n' := 76) F dX1_read_75 rfl ?_
                  refine j_iadd (n' := 77) F dX1_read_76 rfl ?_
                  refine j_putI (n' := 80) F 6 rfl fp_X1_36 kap_3 rfl rfl dX1_read_77 rfl (fun φ7 e7 => ?_)
                  refine j_goto (t := 37) F dX1_read_80 (by decide) ?_
                  refine ih (i + 1) _ _ la φ7 (by omega) (by omega) (by omega) (by rw [e7, zU_self, hq5 6 (by omega), h4]) (by rw [e7, zU_ne (by omega), hq5 7 (by omega)]; exact h5) (by rw [e7, zU_ne (by omega), hq5 5 (by omega)]; exact h6) (t1.fr (by rw [e7, zU_ne (by omega)]) (fun b => by rw [e7, zU_ne (by omega)])) (t2.fr (fun b => by rw [e7, zU_ne (by omega)]) (fun b => by rw [e7, zU_ne (by omega)])) (by simp; omega) (by simp; omega) (by rw [e7]; exact (k2.tr hf5).put (by omega)) (by rw [e7, zU_ne (by omega), hq5 4 (by omega)]; exact k3) (by rw [e7, zU_ne (by omega), hq5 3 (by omega)]; exact k4) k5 k6 k7
          · rw [if_neg hml] at k7
            refine j_aload_0 (n' := 38) F dX1_read_37 rfl ?_
            refine j_getI (n' := 41) F 7 rfl fl_X1_39 kap_3 rfl dX1_read_38 rfl ?_
            refine j_if_eq (t := 91) (n' := 44) F (by omega) dX1_read_41 (by decide) rfl (fun c41_0 => ?_) (fun c41_0 => ?_)
            · omega
            · refine j_aload_0 (n' := 45) F dX1_read_44 rfl ?_
              refine j_getI (n' := 48) F 6 rfl fl_X1_36 kap_3 rfl dX1_read_45 rfl ?_
              refine j_aload_1 (n' := 49) F dX1_read_48 rfl ?_
              refine j_cV0i (n' := 52) F kl_X1_45 (c_Pag_size) kap_1 rfl (by decide) (Nat.le_of_ble_eq_true rfl) dX1_read_49 rfl (fun z2 φ2 h2 => ?_)
              obtain ⟨rfl, rfl⟩ := h2
              refine j_icmp_ge (t := 91) (n' := 55) F (by omega) (by omega) dX1_read_52 (by decide) rfl (fun c52_2 => ?_) (fun c52_2 => ?_)
              · omega
              · refine j_aload_0 (n' := 56) F dX1_read_55 rfl ?_
                refine j_aload_1 (n' := 57) F dX1_read_56 rfl ?_
                refine j_aload_0 (n' := 58) F dX1_read_57 rfl ?_
                refine j_getI (n' := 61) F 6 rfl fl_X1_36 kap_3 rfl dX1_read_58 rfl ?_
                refine j_cV1i (n' := 64) F kl_X1_51 (c_Pag_signAt (by omega) (by omega)) kap_1 rfl (by decide) (Nat.le_of_ble_eq_true rfl) dX1_read_61 rfl (fun z4 φ4 h4 => ?_)
                obtain ⟨rfl, rfl⟩ := h4
                rw [if_pos (by omega), h4, v2]
                refine j_cV1i (n' := 67) F kl_X1_55 (c_Rea_takes_let h7 h8 h9 k1 (by omega) k3 (by omega)) kap_3 rfl (by decide) (Nat.le_of_ble_eq_true rfl) dX1_read_64 rfl (fun z5 φ5 h5 => ?_)
                obtain ⟨hz5, hy5, hx5, hq5, hf5⟩ := h5
                obtain ⟨t0, t1, t2⟩ := hx5 (by omega)
                subst t0
                refine j_if_eq (t := 83) (n' := 70) F (by omega) dX1_read_67 (by decide) rfl (fun c67_5 => ?_) (fun c67_5 => ?_)
                · refine j_aload_0 (n' := 84) F dX1_read_83 rfl ?_
                  refine j_iconst (n' := 85) F dX1_read_84 rfl ?_
                  refine j_putB (n' := 88) F 7 rfl (by omega) fp_X1_39 kap_3 rfl rfl dX1_read_85 rfl (fun φ7 e7 => ?_)
                  refine j_goto (t := 37) F dX1_read_88 (by decide) ?_
                  exact done i 0 0 md ts φ7 (by rw [e7, zU_self]) (Or.inl rfl) h2 h3 (by rw [e7, zU_ne (by omega), hq5 6 (by omega)]; exact h4) (by rw [if_neg (by omega)]; exact k7.symm) (t1.fr (by rw [e7, zU_ne (by omega)]) (fun b => by rw [e7, zU_ne (by omega)])) (t2.fr (fun b => by rw [e7, zU_ne (by omega)]) (fun b => by rw [e7, zU_ne (by omega)])) (by omega) (by rw [e7, zU_ne (by omega), hq5 4 (by omega)]; exact k3) (by omega) (by omega) (by rw [e7]; exact (k2.tr hf5).put (by omega))
                · omega
        · rw [if_neg hlt] at k7
          have k40 := k4
          generalize hdd : (if φ 2 i = 61 then la else φ 2 i - 64) = d at k7
          generalize haa : (if φ 2 i = 61 then (1 : Int) else 0) = a at k7
          have ha01 : a = 0 ∨ a = 1 := by rw [← haa]; split <;> omega
          by_cases hop : 1 ≤ d ∧ d ≤ md.length
          · rw [if_pos hop] at k7
            refine j_aload_0 (n' := 38) F dX1_read_37 rfl ?_
            refine j_getI (n' := 41) F 7 rfl fl_X1_39 kap_3 rfl dX1_read_38 rfl ?_
            refine j_if_eq (t := 91) (n' := 44) F (by omega) dX1_read_41 (by decide) rfl (fun c41_0 => ?_) (fun c41_0 => ?_)
            · omega
            · refine j_aload_0 (n' := 45) F dX1_read_44 rfl ?_
              refine j_getI (n' := 48) F 6 rfl fl_X1_36 kap_3 rfl dX1_read_45 rfl ?_
              refine j_aload_1 (n' := 49) F dX1_read_48 rfl ?_
              refine j_cV0i (n' := 52) F kl_X1_45 (c_Pag_size) kap_1 rfl (by decide) (Nat.le_of_ble_eq_true rfl) dX1_read_49 rfl (fun z2 φ2 h2 => ?_)
              obtain ⟨rfl, rfl⟩ := h2
              refine j_icmp_ge (t := 91) (n' := 55) F (by omega) (by omega) dX1_read_52 (by decide) rfl (fun c52_2 => ?_) (fun c52_2 => ?_)
              · omega
              · refine j_aload_0 (n' := 56) F dX1_read_55 rfl ?_
                refine j_aload_1 (n' := 57) F dX1_read_56 rfl ?_
                refine j_aload_0 (n' := 58) F dX1_read_57 rfl ?_
                refine j_getI (n' := 61) F 6 rfl fl_X1_36 kap_3 rfl dX1_read_58 rfl ?_
                refine j_cV1i (n' := 64) F kl_X1_51 (c_Pag_signAt (by omega) (by omega)) kap_1 rfl (by decide) (Nat.le_of_ble_eq_true rfl) dX1_read_61 rfl (fun z4 φ4 h4 => ?_)
                obtain ⟨rfl, rfl⟩ := h4
                rw [if_pos (by omega), h4, v2]
                refine j_cV1i (n' := 67) F kl_X1_55 (c_Rea_takes_opn h7 k1 (by omega) k3 (by omega) (by omega)) kap_3 rfl (by decide) (Nat.le_of_ble_eq_true rfl) dX1_read_64 rfl (fun z5 φ5 h5 => ?_)
                obtain ⟨hz5, ho5, hy5, hx5, hq5, hf5⟩ := h5
                rw [k4, hdd] at hy5 hx5
                rw [haa] at ho5
                obtain ⟨t0, t1⟩ := hy5 hop
                subst t0
                refine j_if_eq (t := 83) (n' := 70) F (by omega) dX1_read_67 (by decide) rfl (fun c67_5 => ?_) (fun c67_5 => ?_)
                · omega
                · refine j_aload_0 (n' := 71) F dX1_read_70 rfl ?_
                  refine j_dup (n' := 72) F rfl dX1_read_71 rfl ?_
                  refine j_getI (n' := 75) F 6 rfl fl_X1_36 kap_3 rfl dX1_read_72 rfl ?_
                  refine j_iconst (n' := 76) F dX1_read_75 rfl ?_
                  refine j_iadd (n' := 77) F dX1_read_76 rfl ?_
                  refine j_putI (n' := 80) F 6 rfl fp_X1_36 kap_3 rfl rfl dX1_read_77 rfl (fun φ7 e7 => ?_)
                  refine j_goto (t := 37) F dX1_read_80 (by decide) ?_
                  exact opn (i + 1) md ts d a φ7 (by omega) (by omega) (by omega) (by rw [e7, zU_self, hq5 6 (by omega) (by omega), h4]) (by rw [e7, zU_ne (by omega), hq5 7 (by omega) (by omega)]; exact h5) (by rw [e7, zU_ne (by omega), ho5]) ha01 (h7.fr (by rw [e7, zU_ne (by omega), hq5 2 (by omega) (by omega)]) (fun b => by rw [e7, zU_ne (by omega), hf5 4 b (by omega)])) (h8.fr (fun b => by rw [e7, zU_ne (by omega), hf5 5 b (by omega)]) (fun b => by rw [e7, zU_ne (by omega), hf5 6 b (by omega)])) h9 k1 (by rw [e7]; exact (k2.tr (hf5.wk (fun a h => by omega))).put (by omega)) (by rw [e7, zU_ne (by omega)]; exact t1) hop.1 hop.2 k7
          · rw [if_neg hop] at k7
            refine j_aload_0 (n' := 38) F dX1_read_37 rfl ?_
            refine j_getI (n' := 41) F 7 rfl fl_X1_39 kap_3 rfl dX1_read_38 rfl ?_
            refine j_if_eq (t := 91) (n' := 44) F (by omega) dX1_read_41 (by decide) rfl (fun c41_0 => ?_) (fun c41_0 => ?_)
            · omega
            · refine j_aload_0 (n' := 45) F dX1_read_44 rfl ?_
              refine j_getI (n' := 48) F 6 rfl fl_X1_36 kap_3 rfl dX1_read_45 rfl ?_
              refine j_aload_1 (n' := 49) F dX1_read_48 rfl ?_
              refine j_cV0i (n' := 52) F kl_X1_45 (c_Pag_size) kap_1 rfl (by decide) (Nat.le_of_ble_eq_true rfl) dX1_read_49 rfl (fun z2 φ2 h2 => ?_)
              obtain ⟨rfl, rfl⟩ := h2
              refine j_icmp_ge (t := 91) (n' := 55) F (by omega) (by omega) dX1_read_52 (by decide) rfl (fun c52_2 => ?_) (fun c52_2 => ?_)
              · omega
              · refine j_aload_0 (n' := 56) F dX1_read_55 rfl ?_
                refine j_aload_1 (n' := 57) F dX1_read_56 rfl ?_
                refine j_aload_0 (n' := 58) F dX1_read_57 rfl ?_
                refine j_getI (n' := 61) F 6 rfl fl_X1_36 kap_3 rfl dX1_read_58 rfl ?_
                refine j_cV1i (n' := 64) F kl_X1_51 (c_Pag_signAt (by omega) (by omega)) kap_1 rfl (by decide) (Nat.le_of_ble_eq_true rfl) dX1_read_61 rfl (fun z4 φ4 h4 => ?_)
                obtain ⟨rfl, rfl⟩ := h4
                rw [if_pos (by omega), h4, v2]
                refine j_cV1i (n' := 67) F kl_X1_55 (c_Rea_takes_opn h7 k1 (by omega) k3 (by omega) (by omega)) kap_3 rfl (by decide) (Nat.le_of_ble_eq_true rfl) dX1_read_64 rfl (fun z5 φ5 h5 => ?_)
                obtain ⟨hz5, ho5, hy5, hx5, hq5, hf5⟩ := h5
                rw [k4, hdd] at hy5 hx5
                rw [haa] at ho5
                obtain ⟨t0, t1⟩ := hx5 hop
                subst t0
                refine j_if_eq (t := 83) (n' := 70) F (by omega) dX1_read_67 (by decide) rfl (fun c67_5 => ?_) (fun c67_5 => ?_)
                · refine j_aload_0 (n' := 84) F dX1_read_83 rfl ?_
                  refine j_iconst (n' := 85) F dX1_read_84 rfl ?_
                  refine j_putB (n' := 88) F 7 rfl (by omega) fp_X1_39 kap_3 rfl rfl dX1_read_85 rfl (fun φ7 e7 => ?_)
                  refine j_goto (t := 37) F dX1_read_88 (by decide) ?_
                  exact done i 0 0 md ts φ7 (by rw [e7, zU_self]) (Or.inl rfl) h2 h3 (by rw [e7, zU_ne (by omega), hq5 6 (by omega) (by omega)]; exact h4) (by rw [if_neg (by omega)]; exact k7.symm) (h7.fr (by rw [e7, zU_ne (by omega), hq5 2 (by omega) (by omega)]) (fun b => by rw [e7, zU_ne (by omega), hf5 4 b (by omega)])) (h8.fr (fun b => by rw [e7, zU_ne (by omega), hf5 5 b (by omega)]) (fun b => by rw [e7, zU_ne (by omega), hf5 6 b (by omega)])) (by omega) (by rw [e7, zU_ne (by omega)]; exact t1) (by omega) (by omega) (by rw [e7]; exact (k2.tr (hf5.wk (fun a h => by omega))).put (by omega))
                · omega
      · rw [if_neg hin] at k7
        refine done i 0 1 md ts ψ h5 (Or.inr ⟨rfl, by omega⟩) h2 h3 h4 ?_ h7 h8 (by omega) k3 (by omega) (by omega) k2
        rw [← k7]
        by_cases hz : ts.length = 0
        · rw [if_pos hz, if_neg (by omega)]
        · rw [if_neg hz, if_pos (by omega)]
  refine j_aload_0 (n' := 1) F dX1_read_0 rfl ?_
  refine j_getR (n' := 4) F fl_X1_18 kap_3 rfl dX1_read_1 rfl ?_
  refine j_cV0v (n' := 7) F kl_X1_42 (c_Row_clear kap_5 (r := 6)) kap_5 rfl (by decide) (Nat.le_of_ble_eq_true rfl) dX1_read_4 rfl (fun z1 φ1 h1 => ?_)
  obtain ⟨hr1, hf1⟩ := h1
  refine j_aload_0 (n' := 8) F dX1_read_7 rfl ?_
  refine j_iconst (n' := 9) F dX1_read_8 rfl ?_
  refine j_putI (n' := 12) F 2 rfl fp_X1_22 kap_3 rfl rfl dX1_read_9 rfl (fun φ2 e2 => ?_)
  refine j_aload_0 (n' := 13) F dX1_read_12 rfl ?_
  refine j_iconst (n' := 14) F dX1_read_13 rfl ?_
  refine j_putI (n' := 17) F 3 rfl fp_X1_26 kap_3 rfl rfl dX1_read_14 rfl (fun φ3 e3 => ?_)
  refine j_aload_0 (n' := 18) F dX1_read_17 rfl ?_
  refine j_iconst (n' := 19) F dX1_read_18 rfl ?_
  refine j_putI (n' := 22) F 4 rfl fp_X1_29 kap_3 rfl rfl dX1_read_19 rfl (fun φ4 e4 => ?_)
  refine j_aload_0 (n' := 23) F dX1_read_22 rfl ?_
  refine j_iconst (n' := 24) F dX1_read_23 rfl ?_
  refine j_putB (n' := 27) F 5 rfl (by omega) fp_X1_32 kap_3 rfl rfl dX1_read_24 rfl (fun φ5 e5 => ?_)
  refine j_aload_0 (n' := 28) F dX1_read_27 rfl ?_
  refine j_iconst (n' := 29) F dX1_read_28 rfl ?_
  refine j_putI (n' := 32) F 6 rfl fp_X1_36 kap_3 rfl rfl dX1_read_29 rfl (fun φ6 e6 => ?_)
  refine j_aload_0 (n' := 33) F dX1_read_32 rfl ?_
  refine j_iconst (n' := 34) F dX1_read_33 rfl ?_
  refine j_putB (n' := 37) F 7 rfl (by omega) fp_X1_39 kap_3 rfl rfl dX1_read_34 rfl (fun φ7 e7 => ?_)
  have hfin : frC (fun a => a = 3 ∨ a = 4 ∨ a = 5 ∨ a = 6) φ φ7 := by
    rw [e7, e6, e5, e4, e3, e2]
    repeat (first | exact hf1.wk (fun a h => by omega) | refine frC.put ?_ (by omega))
  exact main 31 0 [] [] 0 φ7 (by omega) (by omega) (by omega) (by rw [e7, e6, e5, e4, e3, e2]; simp [zU]) (by rw [e7, e6, e5, e4, e3, e2]; simp [zU]) (by rw [e7, e6, e5, e4, e3, e2]; simp [zU]) ⟨by rw [e7, e6, e5, e4, e3, e2]; simp [zU], fun k hk => by simp at hk⟩ (hr1.fr (fun b => by rw [e7, e6, e5, e4, e3, e2]; simp [zU]) (fun b => by rw [e7, e6, e5, e4, e3, e2]; simp [zU])) (by simp) (by simp) hfin (by rw [e7, e6, e5, e4, e3, e2]; simp [zU]) (by rw [e7, e6, e5, e4, e3, e2]; simp [zU]) (by omega) (by omega) rfl
end
