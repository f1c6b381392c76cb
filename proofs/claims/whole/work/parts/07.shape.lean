theorem qs_yX1_takes : Cond.selects RX1 yX1_takes yX1_takes ∈ lw_good := lw_mem 0 (by decide +kernel)
theorem qs_yX1_takesFigure : Cond.selects RX1 yX1_takesFigure yX1_takesFigure ∈ lw_good := lw_mem 1 (by decide +kernel)
theorem qs_yX1_make : Cond.selects RX1 yX1_make yX1_make ∈ lw_good := lw_mem 2 (by decide +kernel)
theorem qs_yX1_takesLetter : Cond.selects RX1 yX1_takesLetter yX1_takesLetter ∈ lw_good := lw_mem 3 (by decide +kernel)
theorem qs_yX1_opens : Cond.selects RX1 yX1_opens yX1_opens ∈ lw_good := lw_mem 4 (by decide +kernel)
theorem qs_yX7_takeText : Cond.selects RX7 yX7_takeText yX7_takeText ∈ lw_good := lw_mem 5 (by decide +kernel)
theorem qs_yX7_forget : Cond.selects RX7 yX7_forget yX7_forget ∈ lw_good := lw_mem 6 (by decide +kernel)
theorem qs_yX7_hasText : Cond.selects RX7 yX7_hasText yX7_hasText ∈ lw_good := lw_mem 7 (by decide +kernel)
theorem qs_yX7_chooseCheapest : Cond.selects RX7 yX7_chooseCheapest yX7_chooseCheapest ∈ lw_good := lw_mem 8 (by decide +kernel)
theorem qs_yX0_chooseCopy : Cond.selects RX0 yX0_chooseCopy yX0_chooseCopy ∈ lw_good := lw_mem 9 (by decide +kernel)
theorem qs_yX0_consider : Cond.selects RX0 yX0_consider yX0_consider ∈ lw_good := lw_mem 10 (by decide +kernel)
theorem qs_yX0_chooseFirsts : Cond.selects RX0 yX0_chooseFirsts yX0_chooseFirsts ∈ lw_good := lw_mem 11 (by decide +kernel)
theorem qs_yX0_collect : Cond.selects RX0 yX0_collect yX0_collect ∈ lw_good := lw_mem 12 (by decide +kernel)
theorem qs_yX3_countTaken : Cond.selects RX3 yX3_countTaken yX3_countTaken ∈ lw_good := lw_mem 13 (by decide +kernel)
theorem qs_yX3_countOne : Cond.selects RX3 yX3_countOne yX3_countOne ∈ lw_good := lw_mem 14 (by decide +kernel)
theorem qs_yX3_reprice : Cond.selects RX3 yX3_reprice yX3_reprice ∈ lw_good := lw_mem 15 (by decide +kernel)
theorem qs_yX7_findRest : Cond.selects RX7 yX7_findRest yX7_findRest ∈ lw_good := lw_mem 16 (by decide +kernel)
theorem qs_yX7_chooseGreedy : Cond.selects RX7 yX7_chooseGreedy yX7_chooseGreedy ∈ lw_good := lw_mem 17 (by decide +kernel)
theorem qs_yX7_priceOfParts : Cond.selects RX7 yX7_priceOfParts yX7_priceOfParts ∈ lw_good := lw_mem 18 (by decide +kernel)
theorem qs_yX8_textFault : Cond.selects RX8 yX8_textFault yX8_textFault ∈ lw_good := lw_mem 19 (by decide +kernel)
theorem qs_yX8_readCode : Cond.selects RX8 yX8_readCode yX8_readCode ∈ lw_good := lw_mem 20 (by decide +kernel)
theorem qs_yX8_copy : Cond.selects RX8 yX8_copy yX8_copy ∈ lw_good := lw_mem 21 (by decide +kernel)
theorem qs_yX8_againPrice : Cond.selects RX8 yX8_againPrice yX8_againPrice ∈ lw_good := lw_mem 22 (by decide +kernel)
theorem qs_yX8_copyPrice : Cond.selects RX8 yX8_copyPrice yX8_copyPrice ∈ lw_good := lw_mem 23 (by decide +kernel)
theorem qs_yX8_isPlace : Cond.selects RX8 yX8_isPlace yX8_isPlace ∈ lw_good := lw_mem 24 (by decide +kernel)
theorem qs_yX8_longestNow : Cond.selects RX8 yX8_longestNow yX8_longestNow ∈ lw_good := lw_mem 25 (by decide +kernel)
theorem qs_yX8_farLongest : Cond.selects RX8 yX8_farLongest yX8_farLongest ∈ lw_good := lw_mem 26 (by decide +kernel)
theorem qs_yX8_likeness : Cond.selects RX8 yX8_likeness yX8_likeness ∈ lw_good := lw_mem 27 (by decide +kernel)
theorem qs_yX8_chainNow : Cond.selects RX8 yX8_chainNow yX8_chainNow ∈ lw_good := lw_mem 28 (by decide +kernel)
theorem qs_yX8_layTokens : Cond.selects RX8 yX8_layTokens yX8_layTokens ∈ lw_good := lw_mem 29 (by decide +kernel)
theorem qs_yX8_layCheapest : Cond.selects RX8 yX8_layCheapest yX8_layCheapest ∈ lw_good := lw_mem 30 (by decide +kernel)
theorem qs_yX8_layState : Cond.selects RX8 yX8_layState yX8_layState ∈ lw_good := lw_mem 31 (by decide +kernel)
theorem qs_yX8_way : Cond.selects RX8 yX8_way yX8_way ∈ lw_good := lw_mem 32 (by decide +kernel)
theorem qs_yX8_cheapestTold : Cond.selects RX8 yX8_cheapestTold yX8_cheapestTold ∈ lw_good := lw_mem 33 (by decide +kernel)
theorem qs_yX8_lettersOf : Cond.selects RX8 yX8_lettersOf yX8_lettersOf ∈ lw_good := lw_mem 34 (by decide +kernel)
theorem qs_yX8_codeNow : Cond.selects RX8 yX8_codeNow yX8_codeNow ∈ lw_good := lw_mem 35 (by decide +kernel)
theorem qs_yX8_greedyNow : Cond.selects RX8 yX8_greedyNow yX8_greedyNow ∈ lw_good := lw_mem 36 (by decide +kernel)
theorem qs_yX8_partsNow : Cond.selects RX8 yX8_partsNow yX8_partsNow ∈ lw_good := lw_mem 37 (by decide +kernel)
theorem qs_yX8_partsPrice : Cond.selects RX8 yX8_partsPrice yX8_partsPrice ∈ lw_good := lw_mem 38 (by decide +kernel)
theorem qs_yX8_roundNow : Cond.selects RX8 yX8_roundNow yX8_roundNow ∈ lw_good := lw_mem 39 (by decide +kernel)
theorem qs_yX8_layThen : Cond.selects RX8 yX8_layThen yX8_layThen ∈ lw_good := lw_mem 40 (by decide +kernel)
theorem qs_yX8_layTaken : Cond.selects RX8 yX8_layTaken yX8_layTaken ∈ lw_good := lw_mem 41 (by decide +kernel)
theorem qs_yX8_sum : Cond.selects RX8 yX8_sum yX8_sum ∈ lw_good := lw_mem 42 (by decide +kernel)
theorem qs_yX8_become : Cond.selects RX8 yX8_become yX8_become ∈ lw_good := lw_mem 43 (by decide +kernel)
theorem qs_yX8_layRest : Cond.selects RX8 yX8_layRest yX8_layRest ∈ lw_good := lw_mem 44 (by decide +kernel)
theorem qs_yX8_howMany : Cond.selects RX8 yX8_howMany yX8_howMany ∈ lw_good := lw_mem 45 (by decide +kernel)
theorem qs_yX8_tokensOf : Cond.selects RX8 yX8_tokensOf yX8_tokensOf ∈ lw_good := lw_mem 46 (by decide +kernel)
theorem qs_yX8_mix : Cond.selects RX8 yX8_mix yX8_mix ∈ lw_good := lw_mem 47 (by decide +kernel)
theorem qs_yX8_mixText : Cond.selects RX8 yX8_mixText yX8_mixText ∈ lw_good := lw_mem 48 (by decide +kernel)
def jshape : List jKd := [.inl (6, [.inl 1, .inl 3, .inl 7, .inl 34, .inl 37, .inl 90, .inl 92, .inl 94, .inl 97, .inr 0, .inr 0, .inr 0, .inr 0, .inr 0, .inr 0, .inr 0, .inr 0]), .inl (2, [.inl 2, .inr 0]), .inr (.inl 30), .inl (1, [.inl 4, .inl 5, .inr 0, .inr 0, .inr 0, .inr 0, .inr 0, .inr 0]), .inr (.inl 24), .inl (5, [.inl 6, .inr 0, .inr 0, .inr 0]), .inr (.inl 24), .inl (4, [.inl 8, .inl 9, .inr 0]), .inr (.inl 24), .inr (.inr (24, 10)), .inr (.inl 24), .inr (.inl 24), .inr (.inl 24), .inr (.inl 24), .inr (.inl 24), .inr (.inl 24), .inr (.inl 24), .inr (.inl 24), .inr (.inl 24), .inr (.inl 24), .inr (.inl 24), .inr (.inl 24), .inr (.inl 24), .inr (.inl 24), .inr (.inl 24), .inr (.inl 24), .inr (.inl 24), .inr (.inl 24), .inr (.inl 24), .inr (.inl 24), .inr (.inl 24), .inr (.inl 24), .inr (.inl 24), .inr (.inl 24), .inl (3, [.inl 35, .inl 36]), .inr (.inl 18), .inr (.inl 18), .inl (0, [.inl 38, .inl 64, .inr 0, .inr 0]), .inr (.inr (25, 39)), .inr (.inl 25), .inr (.inl 25), .inr (.inl 25), .inr (.inl 25), .inr (.inl 25), .inr (.inl 25), .inr (.inl 25), .inr (.inl 25), .inr (.inl 25), .inr (.inl 25), .inr (.inl 25), .inr (.inl 25), .inr (.inl 25), .inr (.inl 25), .inr (.inl 25), .inr (.inl 25), .inr (.inl 25), .inr (.inl 25), .inr (.inl 25), .inr (.inl 25), .inr (.inl 25), .inr (.inl 25), .inr (.inl 25), .inr (.inl 25), .inr (.inl 25), .inr (.inr (25, 65)), .inr (.inl 25), .inr (.inl 25), .inr (.inl 25), .inr (.inl 25), .inr (.inl 25), .inr (.inl 25), .inr (.inl 25), .inr (.inl 25), .inr (.inl 25), .inr (.inl 25), .inr (.inl 25), .inr (.inl 25), .inr (.inl 25), .inr (.inl 25), .inr (.inl 25), .inr (.inl 25), .inr (.inl 25), .inr (.inl 25), .inr (.inl 25), .inr (.inl 25), .inr (.inl 25), .inr (.inl 25), .inr (.inl 25), .inr (.inl 25), .inr (.inl 25), .inl (5, [.inl 91, .inr 0, .inr 0, .inr 0]), .inr (.inl 24), .inl (5, [.inl 93, .inr 0, .inr 0, .inr 0]), .inr (.inl 24), .inl (3, [.inl 95, .inl 96]), .inr (.inl 18), .inr (.inl 18), .inl (5, [.inl 98, .inr 0, .inr 0, .inr 0]), .inr (.inl 24), .inl (7, [.inr 0, .inl 100, .inr 0, .inl 101, .inl 102, .inr 0, .inr 0, .inr 0, .inl 103, .inr 0, .inr 0, .inr 0, .inr 0, .inl 104, .inl 105, .inl 106, .inl 107, .inl 108, .inr 0, .inl 109, .inl 110, .inl 111, .inl 112, .inr 1]), .inr (.inl 30), .inr (.inl 24), .inr (.inl 18), .inr (.inl 24), .inr (.inl 625), .inr (.inl 625), .inr (.inl 625), .inr (.inl 625), .inr (.inl 24), .inr (.inl 18), .inr (.inl 18), .inr (.inl 18), .inr (.inl 3)]
def κF (i : Int) : Option jKd := if 0 ≤ i then jshape[i.toNat]? else none
theorem κF_len : jshape.length = 113 := by decide +kernel
theorem kap_0 : κF 0 = some (.inl (6, [.inl 1, .inl 3, .inl 7, .inl 34, .inl 37, .inl 90, .inl 92, .inl 94, .inl 97, .inr 0, .inr 0, .inr 0, .inr 0, .inr 0, .inr 0, .inr 0, .inr 0])) := by decide +kernel
theorem kap_1 : κF 1 = some (.inl (2, [.inl 2, .inr 0])) := by decide +kernel
theorem kap_2 : κF 2 = some (.inr (.inl 30)) := by decide +kernel
theorem kap_3 : κF 3 = some (.inl (1, [.inl 4, .inl 5, .inr 0, .inr 0, .inr 0, .inr 0, .inr 0, .inr 0])) := by decide +kernel
theorem kap_4 : κF 4 = some (.inr (.inl 24)) := by decide +kernel
theorem kap_5 : κF 5 = some (.inl (5, [.inl 6, .inr 0, .inr 0, .inr 0])) := by decide +kernel
theorem kap_6 : κF 6 = some (.inr (.inl 24)) := by decide +kernel
theorem kap_7 : κF 7 = some (.inl (4, [.inl 8, .inl 9, .inr 0])) := by decide +kernel
theorem kap_8 : κF 8 = some (.inr (.inl 24)) := by decide +kernel
theorem kap_9 : κF 9 = some (.inr (.inr (24, 10))) := by decide +kernel
theorem kap_34 : κF 34 = some (.inl (3, [.inl 35, .inl 36])) := by decide +kernel
theorem kap_35 : κF 35 = some (.inr (.inl 18)) := by decide +kernel
theorem kap_36 : κF 36 = some (.inr (.inl 18)) := by decide +kernel
theorem kap_37 : κF 37 = some (.inl (0, [.inl 38, .inl 64, .inr 0, .inr 0])) := by decide +kernel
theorem kap_38 : κF 38 = some (.inr (.inr (25, 39))) := by decide +kernel
theorem kap_64 : κF 64 = some (.inr (.inr (25, 65))) := by decide +kernel
theorem kap_90 : κF 90 = some (.inl (5, [.inl 91, .inr 0, .inr 0, .inr 0])) := by decide +kernel
theorem kap_91 : κF 91 = some (.inr (.inl 24)) := by decide +kernel
theorem kap_92 : κF 92 = some (.inl (5, [.inl 93, .inr 0, .inr 0, .inr 0])) := by decide +kernel
theorem kap_93 : κF 93 = some (.inr (.inl 24)) := by decide +kernel
theorem kap_94 : κF 94 = some (.inl (3, [.inl 95, .inl 96])) := by decide +kernel
theorem kap_95 : κF 95 = some (.inr (.inl 18)) := by decide +kernel
theorem kap_96 : κF 96 = some (.inr (.inl 18)) := by decide +kernel
theorem kap_97 : κF 97 = some (.inl (5, [.inl 98, .inr 0, .inr 0, .inr 0])) := by decide +kernel
theorem kap_98 : κF 98 = some (.inr (.inl 24)) := by decide +kernel
theorem kap_99 : κF 99 = some (.inl (7, [.inr 0, .inl 100, .inr 0, .inl 101, .inl 102, .inr 0, .inr 0, .inr 0, .inl 103, .inr 0, .inr 0, .inr 0, .inr 0, .inl 104, .inl 105, .inl 106, .inl 107, .inl 108, .inr 0, .inl 109, .inl 110, .inl 111, .inl 112, .inr 1])) := by decide +kernel
theorem kap_100 : κF 100 = some (.inr (.inl 30)) := by decide +kernel
theorem kap_101 : κF 101 = some (.inr (.inl 24)) := by decide +kernel
theorem kap_102 : κF 102 = some (.inr (.inl 18)) := by decide +kernel
theorem kap_103 : κF 103 = some (.inr (.inl 24)) := by decide +kernel
theorem kap_104 : κF 104 = some (.inr (.inl 625)) := by decide +kernel
theorem kap_105 : κF 105 = some (.inr (.inl 625)) := by decide +kernel
theorem kap_106 : κF 106 = some (.inr (.inl 625)) := by decide +kernel
theorem kap_107 : κF 107 = some (.inr (.inl 625)) := by decide +kernel
theorem kap_108 : κF 108 = some (.inr (.inl 24)) := by decide +kernel
theorem kap_109 : κF 109 = some (.inr (.inl 18)) := by decide +kernel
theorem kap_110 : κF 110 = some (.inr (.inl 18)) := by decide +kernel
theorem kap_111 : κF 111 = some (.inr (.inl 18)) := by decide +kernel
theorem kap_112 : κF 112 = some (.inr (.inl 3)) := by decide +kernel
theorem kap_al0 : ∀ k : Fin 24, κF (10 + ((k : Nat) : Int)) = some (.inr (.inl 24)) := by decide +kernel
theorem kap_al {z : Int} (h : 0 ≤ z ∧ z < 24) : κF (10 + z) = some (.inr (.inl 24)) := by
  have h1 := kap_al0 ⟨z.toNat, by omega⟩
  have e : ((z.toNat : Nat) : Int) = z := by omega
  simp only [e] at h1
  exact h1
theorem kap_we0 : ∀ k : Fin 25, κF (39 + ((k : Nat) : Int)) = some (.inr (.inl 25)) := by decide +kernel
theorem kap_we {z : Int} (h : 0 ≤ z ∧ z < 25) : κF (39 + z) = some (.inr (.inl 25)) := by
  have h1 := kap_we0 ⟨z.toNat, by omega⟩
  have e : ((z.toNat : Nat) : Int) = z := by omega
  simp only [e] at h1
  exact h1
theorem kap_fi0 : ∀ k : Fin 25, κF (65 + ((k : Nat) : Int)) = some (.inr (.inl 25)) := by decide +kernel
theorem kap_fi {z : Int} (h : 0 ≤ z ∧ z < 25) : κF (65 + z) = some (.inr (.inl 25)) := by
  have h1 := kap_fi0 ⟨z.toNat, by omega⟩
  have e : ((z.toNat : Nat) : Int) = z := by omega
  simp only [e] at h1
  exact h1
theorem fl_X2_9 : jLF RX2 9 2 2 0 := ⟨RX2, TX2, rfl, by decide, in_X2, q_25⟩
theorem fl_X2_15 : jLF RX2 15 2 2 1 := ⟨RX2, TX2, rfl, by decide, in_X2, q_26⟩
theorem fp_X2_15 : jLP RX2 15 2 2 1 .int := ⟨RX2, TX2, tyX2, rfl, by decide, in_X2, q_26, tyX2_ok, nmX2, rfl, by decide +kernel⟩
theorem fl_X6_9 : jLF RX6 9 5 4 0 := ⟨RX6, TX6, rfl, by decide, in_X6, q_45⟩
theorem fl_X6_15 : jLF RX6 15 5 4 1 := ⟨RX6, TX6, rfl, by decide, in_X6, q_46⟩
theorem fp_X6_15 : jLP RX6 15 5 4 1 .int := ⟨RX6, TX6, tyX6, rfl, by decide, in_X6, q_46, tyX6_ok, nmX6, rfl, by decide +kernel⟩
theorem fl_X6_19 : jLF RX6 19 5 4 2 := ⟨RX6, TX6, rfl, by decide, in_X6, q_47⟩
theorem fp_X6_19 : jLP RX6 19 5 4 2 .int := ⟨RX6, TX6, tyX6, rfl, by decide, in_X6, q_47, tyX6_ok, nmX6, rfl, by decide +kernel⟩
theorem fl_X6_22 : jLF RX6 22 5 4 3 := ⟨RX6, TX6, rfl, by decide, in_X6, q_48⟩
theorem fp_X6_22 : jLP RX6 22 5 4 3 .int := ⟨RX6, TX6, tyX6, rfl, by decide, in_X6, q_48, tyX6_ok, nmX6, rfl, by decide +kernel⟩
theorem fl_X1_9 : jLF RX1 9 1 8 0 := ⟨RX1, TX1, rfl, by decide, in_X1, q_58⟩
theorem fl_X1_18 : jLF RX1 18 1 8 1 := ⟨RX1, TX1, rfl, by decide, in_X1, q_59⟩
theorem fl_X1_22 : jLF RX1 22 1 8 2 := ⟨RX1, TX1, rfl, by decide, in_X1, q_60⟩
theorem fp_X1_22 : jLP RX1 22 1 8 2 .int := ⟨RX1, TX1, tyX1, rfl, by decide, in_X1, q_60, tyX1_ok, nmX1, rfl, by decide +kernel⟩
theorem fl_X1_26 : jLF RX1 26 1 8 3 := ⟨RX1, TX1, rfl, by decide, in_X1, q_61⟩
theorem fp_X1_26 : jLP RX1 26 1 8 3 .int := ⟨RX1, TX1, tyX1, rfl, by decide, in_X1, q_61, tyX1_ok, nmX1, rfl, by decide +kernel⟩
theorem fl_X1_29 : jLF RX1 29 1 8 4 := ⟨RX1, TX1, rfl, by decide, in_X1, q_62⟩
theorem fp_X1_29 : jLP RX1 29 1 8 4 .int := ⟨RX1, TX1, tyX1, rfl, by decide, in_X1, q_62, tyX1_ok, nmX1, rfl, by decide +kernel⟩
theorem fl_X1_32 : jLF RX1 32 1 8 5 := ⟨RX1, TX1, rfl, by decide, in_X1, q_63⟩
theorem fp_X1_32 : jLP RX1 32 1 8 5 .boolean := ⟨RX1, TX1, tyX1, rfl, by decide, in_X1, q_63, tyX1_ok, nmX1, rfl, by decide +kernel⟩
theorem fl_X1_36 : jLF RX1 36 1 8 6 := ⟨RX1, TX1, rfl, by decide, in_X1, q_64⟩
theorem fp_X1_36 : jLP RX1 36 1 8 6 .int := ⟨RX1, TX1, tyX1, rfl, by decide, in_X1, q_64, tyX1_ok, nmX1, rfl, by decide +kernel⟩
theorem fl_X1_39 : jLF RX1 39 1 8 7 := ⟨RX1, TX1, rfl, by decide, in_X1, q_65⟩
theorem fp_X1_39 : jLP RX1 39 1 8 7 .boolean := ⟨RX1, TX1, tyX1, rfl, by decide, in_X1, q_65, tyX1_ok, nmX1, rfl, by decide +kernel⟩
theorem fl_X4_9 : jLF RX4 9 4 3 0 := ⟨RX4, TX4, rfl, by decide, in_X4, q_91⟩
theorem fl_X4_17 : jLF RX4 17 4 3 1 := ⟨RX4, TX4, rfl, by decide, in_X4, q_92⟩
theorem fl_X4_20 : jLF RX4 20 4 3 2 := ⟨RX4, TX4, rfl, by decide, in_X4, q_93⟩
theorem fp_X4_20 : jLP RX4 20 4 3 2 .int := ⟨RX4, TX4, tyX4, rfl, by decide, in_X4, q_93, tyX4_ok, nmX4, rfl, by decide +kernel⟩
theorem fl_X3_18 : jLF RX3 18 3 2 0 := ⟨RX3, TX3, rfl, by decide, in_X3, q_116⟩
theorem fl_X3_23 : jLF RX3 23 3 2 1 := ⟨RX3, TX3, rfl, by decide, in_X3, q_117⟩
theorem fl_X0_11 : jLF RX0 11 0 4 0 := ⟨RX0, TX0, rfl, by decide, in_X0, q_130⟩
theorem fl_X0_16 : jLF RX0 16 0 4 1 := ⟨RX0, TX0, rfl, by decide, in_X0, q_131⟩
theorem fl_X0_19 : jLF RX0 19 0 4 2 := ⟨RX0, TX0, rfl, by decide, in_X0, q_132⟩
theorem fp_X0_19 : jLP RX0 19 0 4 2 .int := ⟨RX0, TX0, tyX0, rfl, by decide, in_X0, q_132, tyX0_ok, nmX0, rfl, by decide +kernel⟩
theorem fl_X0_23 : jLF RX0 23 0 4 3 := ⟨RX0, TX0, rfl, by decide, in_X0, q_133⟩
theorem fp_X0_23 : jLP RX0 23 0 4 3 .int := ⟨RX0, TX0, tyX0, rfl, by decide, in_X0, q_133, tyX0_ok, nmX0, rfl, by decide +kernel⟩
theorem fl_X7_10 : jLF RX7 10 6 17 0 := ⟨RX7, TX7, rfl, by decide, in_X7, q_145⟩
theorem fl_X7_19 : jLF RX7 19 6 17 1 := ⟨RX7, TX7, rfl, by decide, in_X7, q_146⟩
theorem fl_X7_26 : jLF RX7 26 6 17 2 := ⟨RX7, TX7, rfl, by decide, in_X7, q_147⟩
theorem fl_X7_33 : jLF RX7 33 6 17 3 := ⟨RX7, TX7, rfl, by decide, in_X7, q_148⟩
theorem fl_X7_40 : jLF RX7 40 6 17 4 := ⟨RX7, TX7, rfl, by decide, in_X7, q_149⟩
theorem fl_X7_47 : jLF RX7 47 6 17 5 := ⟨RX7, TX7, rfl, by decide, in_X7, q_150⟩
theorem fl_X7_51 : jLF RX7 51 6 17 6 := ⟨RX7, TX7, rfl, by decide, in_X7, q_151⟩
theorem fl_X7_54 : jLF RX7 54 6 17 7 := ⟨RX7, TX7, rfl, by decide, in_X7, q_152⟩
theorem fl_X7_57 : jLF RX7 57 6 17 8 := ⟨RX7, TX7, rfl, by decide, in_X7, q_153⟩
theorem fl_X7_60 : jLF RX7 60 6 17 9 := ⟨RX7, TX7, rfl, by decide, in_X7, q_154⟩
theorem fp_X7_60 : jLP RX7 60 6 17 9 .boolean := ⟨RX7, TX7, tyX7, rfl, by decide, in_X7, q_154, tyX7_ok, nmX7, rfl, by decide +kernel⟩
theorem fl_X7_64 : jLF RX7 64 6 17 10 := ⟨RX7, TX7, rfl, by decide, in_X7, q_155⟩
theorem fp_X7_64 : jLP RX7 64 6 17 10 .boolean := ⟨RX7, TX7, tyX7, rfl, by decide, in_X7, q_155, tyX7_ok, nmX7, rfl, by decide +kernel⟩
theorem fl_X7_67 : jLF RX7 67 6 17 11 := ⟨RX7, TX7, rfl, by decide, in_X7, q_156⟩
theorem fp_X7_67 : jLP RX7 67 6 17 11 .int := ⟨RX7, TX7, tyX7, rfl, by decide, in_X7, q_156, tyX7_ok, nmX7, rfl, by decide +kernel⟩
theorem fl_X7_71 : jLF RX7 71 6 17 12 := ⟨RX7, TX7, rfl, by decide, in_X7, q_157⟩
theorem fp_X7_71 : jLP RX7 71 6 17 12 .int := ⟨RX7, TX7, tyX7, rfl, by decide, in_X7, q_157, tyX7_ok, nmX7, rfl, by decide +kernel⟩
theorem fl_X7_74 : jLF RX7 74 6 17 13 := ⟨RX7, TX7, rfl, by decide, in_X7, q_158⟩
theorem fp_X7_74 : jLP RX7 74 6 17 13 .int := ⟨RX7, TX7, tyX7, rfl, by decide, in_X7, q_158, tyX7_ok, nmX7, rfl, by decide +kernel⟩
theorem fl_X7_77 : jLF RX7 77 6 17 14 := ⟨RX7, TX7, rfl, by decide, in_X7, q_159⟩
theorem fp_X7_77 : jLP RX7 77 6 17 14 .int := ⟨RX7, TX7, tyX7, rfl, by decide, in_X7, q_159, tyX7_ok, nmX7, rfl, by decide +kernel⟩
theorem fl_X7_80 : jLF RX7 80 6 17 15 := ⟨RX7, TX7, rfl, by decide, in_X7, q_160⟩
theorem fp_X7_80 : jLP RX7 80 6 17 15 .int := ⟨RX7, TX7, tyX7, rfl, by decide, in_X7, q_160, tyX7_ok, nmX7, rfl, by decide +kernel⟩
theorem fl_X7_83 : jLF RX7 83 6 17 16 := ⟨RX7, TX7, rfl, by decide, in_X7, q_161⟩
theorem fp_X7_83 : jLP RX7 83 6 17 16 .int := ⟨RX7, TX7, tyX7, rfl, by decide, in_X7, q_161, tyX7_ok, nmX7, rfl, by decide +kernel⟩
theorem fl_X8_53 : jLF RX8 53 7 24 0 := ⟨RX8, TX8, rfl, by decide, in_X8, q_598⟩
theorem fp_X8_53 : jLP RX8 53 7 24 0 .int := ⟨RX8, TX8, tyX8, rfl, by decide, in_X8, q_598, tyX8_ok, nmX8, rfl, by decide +kernel⟩
theorem fl_X8_7 : jLF RX8 7 7 24 1 := ⟨RX8, TX8, rfl, by decide, in_X8, q_599⟩
theorem fl_X8_92 : jLF RX8 92 7 24 2 := ⟨RX8, TX8, rfl, by decide, in_X8, q_600⟩
theorem fp_X8_92 : jLP RX8 92 7 24 2 .int := ⟨RX8, TX8, tyX8, rfl, by decide, in_X8, q_600, tyX8_ok, nmX8, rfl, by decide +kernel⟩
theorem fl_X8_13 : jLF RX8 13 7 24 3 := ⟨RX8, TX8, rfl, by decide, in_X8, q_601⟩
theorem fl_X8_16 : jLF RX8 16 7 24 4 := ⟨RX8, TX8, rfl, by decide, in_X8, q_602⟩
theorem fl_X8_175 : jLF RX8 175 7 24 5 := ⟨RX8, TX8, rfl, by decide, in_X8, q_603⟩
theorem fp_X8_175 : jLP RX8 175 7 24 5 .int := ⟨RX8, TX8, tyX8, rfl, by decide, in_X8, q_603, tyX8_ok, nmX8, rfl, by decide +kernel⟩
theorem fl_X8_95 : jLF RX8 95 7 24 6 := ⟨RX8, TX8, rfl, by decide, in_X8, q_604⟩
theorem fp_X8_95 : jLP RX8 95 7 24 6 .int := ⟨RX8, TX8, tyX8, rfl, by decide, in_X8, q_604, tyX8_ok, nmX8, rfl, by decide +kernel⟩
theorem fl_X8_98 : jLF RX8 98 7 24 7 := ⟨RX8, TX8, rfl, by decide, in_X8, q_605⟩
theorem fp_X8_98 : jLP RX8 98 7 24 7 .int := ⟨RX8, TX8, tyX8, rfl, by decide, in_X8, q_605, tyX8_ok, nmX8, rfl, by decide +kernel⟩
theorem fl_X8_19 : jLF RX8 19 7 24 8 := ⟨RX8, TX8, rfl, by decide, in_X8, q_606⟩
theorem fl_X8_61 : jLF RX8 61 7 24 9 := ⟨RX8, TX8, rfl, by decide, in_X8, q_607⟩
theorem fp_X8_61 : jLP RX8 61 7 24 9 .int := ⟨RX8, TX8, tyX8, rfl, by decide, in_X8, q_607, tyX8_ok, nmX8, rfl, by decide +kernel⟩
theorem fl_X8_64 : jLF RX8 64 7 24 10 := ⟨RX8, TX8, rfl, by decide, in_X8, q_608⟩
theorem fp_X8_64 : jLP RX8 64 7 24 10 .int := ⟨RX8, TX8, tyX8, rfl, by decide, in_X8, q_608, tyX8_ok, nmX8, rfl, by decide +kernel⟩
theorem fl_X8_67 : jLF RX8 67 7 24 11 := ⟨RX8, TX8, rfl, by decide, in_X8, q_609⟩
theorem fp_X8_67 : jLP RX8 67 7 24 11 .int := ⟨RX8, TX8, tyX8, rfl, by decide, in_X8, q_609, tyX8_ok, nmX8, rfl, by decide +kernel⟩
theorem fl_X8_70 : jLF RX8 70 7 24 12 := ⟨RX8, TX8, rfl, by decide, in_X8, q_610⟩
theorem fp_X8_70 : jLP RX8 70 7 24 12 .boolean := ⟨RX8, TX8, tyX8, rfl, by decide, in_X8, q_610, tyX8_ok, nmX8, rfl, by decide +kernel⟩
theorem fl_X8_22 : jLF RX8 22 7 24 13 := ⟨RX8, TX8, rfl, by decide, in_X8, q_611⟩
theorem fl_X8_25 : jLF RX8 25 7 24 14 := ⟨RX8, TX8, rfl, by decide, in_X8, q_612⟩
theorem fl_X8_28 : jLF RX8 28 7 24 15 := ⟨RX8, TX8, rfl, by decide, in_X8, q_613⟩
theorem fl_X8_31 : jLF RX8 31 7 24 16 := ⟨RX8, TX8, rfl, by decide, in_X8, q_614⟩
theorem fl_X8_34 : jLF RX8 34 7 24 17 := ⟨RX8, TX8, rfl, by decide, in_X8, q_615⟩
theorem fl_X8_133 : jLF RX8 133 7 24 18 := ⟨RX8, TX8, rfl, by decide, in_X8, q_616⟩
theorem fp_X8_133 : jLP RX8 133 7 24 18 .int := ⟨RX8, TX8, tyX8, rfl, by decide, in_X8, q_616, tyX8_ok, nmX8, rfl, by decide +kernel⟩
theorem fl_X8_37 : jLF RX8 37 7 24 19 := ⟨RX8, TX8, rfl, by decide, in_X8, q_617⟩
theorem fl_X8_40 : jLF RX8 40 7 24 20 := ⟨RX8, TX8, rfl, by decide, in_X8, q_618⟩
theorem fl_X8_43 : jLF RX8 43 7 24 21 := ⟨RX8, TX8, rfl, by decide, in_X8, q_619⟩
theorem fl_X8_46 : jLF RX8 46 7 24 22 := ⟨RX8, TX8, rfl, by decide, in_X8, q_620⟩
theorem fl_X8_192 : jLF RX8 192 7 24 23 := ⟨RX8, TX8, rfl, by decide, in_X8, q_621⟩
theorem fp_X8_192 : jLP RX8 192 7 24 23 .long := ⟨RX8, TX8, tyX8, rfl, by decide, in_X8, q_621, tyX8_ok, nmX8, rfl, by decide +kernel⟩
theorem kl_L_13 : jLV RL 13 RX7 yX7_letter cX7_letter 2 (some .int) 1 := ⟨q_197, q_198, q_199, q_1, q_200, by decide +kernel, by decide⟩
theorem kl_X7_86 : jLV RX7 86 RX2 yX2_isFull cX2_isFull 1 (some .boolean) 0 := ⟨q_201, q_202, q_203, q_2, q_204, by decide +kernel, by decide⟩
theorem kl_X7_90 : jLV RX7 90 RX2 yX2_add cX2_add 2 none 1 := ⟨q_205, q_206, q_207, q_2, q_208, by decide +kernel, by decide⟩
theorem kl_X2_19 : jLV RX2 19 RX2 yX2_isFull cX2_isFull 1 (some .boolean) 0 := ⟨q_209, q_202, q_203, q_2, q_204, by decide +kernel, by decide⟩
theorem kl_X7_94 : jLV RX7 94 RX2 yX2_size cX2_size 1 (some .int) 0 := ⟨q_210, q_211, q_212, q_2, q_213, by decide +kernel, by decide⟩
theorem kl_L_18 : jLV RL 18 RX7 yX7_blank cX7_blank 2 (some .int) 0 := ⟨q_214, q_215, q_216, q_1, q_217, by decide +kernel, by decide⟩
theorem kl_X7_98 : jLV RX7 98 RX2 yX2_clear cX2_clear 1 none 0 := ⟨q_218, q_219, q_220, q_2, q_221, by decide +kernel, by decide⟩
theorem kl_L_23 : jLV RL 23 RX7 yX7_fault cX7_fault 2 (some .int) 1 := ⟨q_222, q_223, q_224, q_1, q_225, by decide +kernel, by decide⟩
theorem kl_X7_101 : jLV RX7 101 RX2 yX2_textFault cX2_textFault 3 (some .int) 0 := ⟨q_226, q_227, q_228, q_2, q_229, by decide +kernel, by decide⟩
theorem kl_X2_23 : jLV RX2 23 RX2 yX2_signAt cX2_signAt 2 (some .int) 1 := ⟨q_230, q_231, q_232, q_2, q_233, by decide +kernel, by decide⟩
theorem kl_X7_104 : jLV RX7 104 RX1 yX1_read cX1_read 2 none 1 := ⟨q_234, q_235, q_236, q_3, q_237, by decide +kernel, by decide⟩
theorem kl_X1_42 : jLV RX1 42 RX6 yX6_clear cX6_clear 1 none 0 := ⟨q_238, q_239, q_240, q_4, q_241, by decide +kernel, by decide⟩
theorem kl_X1_45 : jLV RX1 45 RX2 yX2_size cX2_size 1 (some .int) 0 := ⟨q_242, q_211, q_212, q_2, q_213, by decide +kernel, by decide⟩
theorem kl_X1_51 : jLV RX1 51 RX2 yX2_signAt cX2_signAt 2 (some .int) 1 := ⟨q_243, q_231, q_232, q_2, q_233, by decide +kernel, by decide⟩
theorem kl_X1_55 : jLV RX1 55 RX1 yX1_takes cX1_takes 3 (some .boolean) 1 := ⟨q_244, q_246, qs_yX1_takes, q_3, q_247, by decide +kernel, by decide⟩
theorem kl_X1_60 : jLV RX1 60 RX1 yX1_takesFigure cX1_takesFigure 3 (some .boolean) 1 := ⟨q_248, q_250, qs_yX1_takesFigure, q_3, q_251, by decide +kernel, by decide⟩
theorem kl_X1_76 : jLS RX1 76 yX5_again cX5_again 1 (some .int) 1 := ⟨q_252, q_253, q_9, q_254, by decide +kernel, by decide⟩
theorem kl_X1_81 : jLS RX1 81 yX5_copy cX5_copy 2 (some .int) 2 := ⟨q_255, q_256, q_9, q_257, by decide +kernel, by decide⟩
theorem kl_X1_73 : jLV RX1 73 RX6 yX6_add cX6_add 2 none 1 := ⟨q_258, q_259, q_260, q_4, q_261, by decide +kernel, by decide⟩
theorem kl_X6_25 : jLS RX6 25 yX5_isPlain cX5_isPlain 1 (some .boolean) 1 := ⟨q_262, q_263, q_9, q_264, by decide +kernel, by decide⟩
theorem kl_X6_31 : jLS RX6 31 yX5_isCopy cX5_isCopy 1 (some .boolean) 1 := ⟨q_265, q_266, q_9, q_267, by decide +kernel, by decide⟩
theorem kl_X1_85 : jLV RX1 85 RX1 yX1_madeAt cX1_madeAt 2 (some .int) 1 := ⟨q_268, q_269, q_270, q_3, q_271, by decide +kernel, by decide⟩
theorem kl_X1_69 : jLV RX1 69 RX1 yX1_make cX1_make 2 none 1 := ⟨q_272, q_274, qs_yX1_make, q_3, q_275, by decide +kernel, by decide⟩
theorem kl_X1_63 : jLV RX1 63 RX1 yX1_takesLetter cX1_takesLetter 2 (some .boolean) 1 := ⟨q_276, q_278, qs_yX1_takesLetter, q_3, q_279, by decide +kernel, by decide⟩
theorem kl_X1_66 : jLV RX1 66 RX1 yX1_opens cX1_opens 2 (some .boolean) 1 := ⟨q_280, q_282, qs_yX1_opens, q_3, q_283, by decide +kernel, by decide⟩
theorem kl_X7_108 : jLV RX7 108 RX1 yX1_faultPlace cX1_faultPlace 1 (some .int) 0 := ⟨q_284, q_285, q_286, q_3, q_287, by decide +kernel, by decide⟩
theorem kl_L_28 : jLV RL 28 RX7 yX7_text cX7_text 2 (some .int) 0 := ⟨q_288, q_289, q_290, q_1, q_291, by decide +kernel, by decide⟩
theorem kl_X7_111 : jLV RX7 111 RX2 yX2_isText cX2_isText 1 (some .boolean) 0 := ⟨q_292, q_293, q_294, q_2, q_295, by decide +kernel, by decide⟩
theorem kl_X2_27 : jLV RX2 27 RX2 yX2_textFault cX2_textFault 3 (some .int) 0 := ⟨q_296, q_227, q_228, q_2, q_229, by decide +kernel, by decide⟩
theorem kl_X7_114 : jLV RX7 114 RX4 yX4_clear cX4_clear 1 none 0 := ⟨q_297, q_298, q_299, q_5, q_300, by decide +kernel, by decide⟩
theorem kl_X7_115 : jLV RX7 115 RX2 yX2_signAt cX2_signAt 2 (some .int) 1 := ⟨q_301, q_231, q_232, q_2, q_233, by decide +kernel, by decide⟩
theorem kl_X7_119 : jLV RX7 119 RX4 yX4_add cX4_add 2 none 1 := ⟨q_302, q_303, q_304, q_5, q_305, by decide +kernel, by decide⟩
theorem kl_X7_120 : jLV RX7 120 RX7 yX7_takeText cX7_takeText 1 none 0 := ⟨q_306, q_308, qs_yX7_takeText, q_1, q_309, by decide +kernel, by decide⟩
theorem kl_X7_234 : jLV RX7 234 RX4 yX4_compare cX4_compare 4 none 0 := ⟨q_310, q_311, q_312, q_5, q_313, by decide +kernel, by decide⟩
theorem kl_X4_28 : jLV RX4 28 RX4 yX4_likeness cX4_likeness 3 (some .int) 2 := ⟨q_314, q_315, q_316, q_5, q_317, by decide +kernel, by decide⟩
theorem kl_X7_152 : jLV RX7 152 RX7 yX7_forget cX7_forget 1 none 0 := ⟨q_321, q_323, qs_yX7_forget, q_1, q_324, by decide +kernel, by decide⟩
theorem kl_X7_123 : jLV RX7 123 RX4 yX4_size cX4_size 1 (some .int) 0 := ⟨q_325, q_326, q_327, q_5, q_328, by decide +kernel, by decide⟩
theorem kl_L_32 : jLV RL 32 RX7 yX7_decode cX7_decode 2 (some .int) 0 := ⟨q_329, q_330, q_331, q_1, q_332, by decide +kernel, by decide⟩
theorem kl_X7_124 : jLV RX7 124 RX1 yX1_isCode cX1_isCode 1 (some .boolean) 0 := ⟨q_333, q_334, q_335, q_3, q_336, by decide +kernel, by decide⟩
theorem kl_X1_59 : jLV RX1 59 RX6 yX6_size cX6_size 1 (some .int) 0 := ⟨q_337, q_338, q_339, q_4, q_340, by decide +kernel, by decide⟩
theorem kl_X7_127 : jLV RX7 127 RX1 yX1_madeSize cX1_madeSize 1 (some .int) 0 := ⟨q_341, q_342, q_343, q_3, q_344, by decide +kernel, by decide⟩
theorem kl_X7_130 : jLV RX7 130 RX1 yX1_madeAt cX1_madeAt 2 (some .int) 1 := ⟨q_345, q_269, q_270, q_3, q_271, by decide +kernel, by decide⟩
theorem kl_L_36 : jLV RL 36 RX7 yX7_priced cX7_priced 1 (some .int) 0 := ⟨q_346, q_347, q_348, q_1, q_349, by decide +kernel, by decide⟩
theorem kl_X7_133 : jLV RX7 133 RX1 yX1_tokens cX1_tokens 1 (some (.object "PricedCopies$TokenRow")) 0 := ⟨q_350, q_351, q_352, q_3, q_353, by decide +kernel, by decide⟩
theorem kl_X7_137 : jLV RX7 137 RX3 yX3_ofRow cX3_ofRow 4 (some .int) 1 := ⟨q_354, q_355, q_356, q_6, q_357, by decide +kernel, by decide⟩
theorem kl_X3_51 : jLV RX3 51 RX6 yX6_size cX6_size 1 (some .int) 0 := ⟨q_358, q_338, q_339, q_4, q_340, by decide +kernel, by decide⟩
theorem kl_X3_57 : jLV RX3 57 RX6 yX6_get cX6_get 2 (some .int) 1 := ⟨q_359, q_360, q_361, q_4, q_362, by decide +kernel, by decide⟩
theorem kl_X3_58 : jLV RX3 58 RX3 yX3_ofToken cX3_ofToken 3 (some .int) 1 := ⟨q_363, q_364, q_365, q_6, q_366, by decide +kernel, by decide⟩
theorem kl_X3_34 : jLS RX3 34 yX5_isPlain cX5_isPlain 1 (some .boolean) 1 := ⟨q_367, q_263, q_9, q_264, by decide +kernel, by decide⟩
theorem kl_X3_30 : jLV RX3 30 RX3 yX3_get cX3_get 2 (some .int) 1 := ⟨q_368, q_369, q_370, q_6, q_371, by decide +kernel, by decide⟩
theorem kl_X3_39 : jLS RX3 39 yX5_lengthOf cX5_lengthOf 1 (some .int) 1 := ⟨q_372, q_373, q_9, q_374, by decide +kernel, by decide⟩
theorem kl_X3_42 : jLS RX3 42 yX5_isCopy cX5_isCopy 1 (some .boolean) 1 := ⟨q_375, q_266, q_9, q_267, by decide +kernel, by decide⟩
theorem kl_X3_45 : jLS RX3 45 yX5_distanceOf cX5_distanceOf 1 (some .int) 1 := ⟨q_376, q_377, q_9, q_378, by decide +kernel, by decide⟩
theorem kl_X3_48 : jLN RX3 48 yX7_log cX7_log 3 (some .int) 1 := ⟨by simp [jnest], q_380, q_1, q_381, by decide +kernel, by decide⟩
theorem kl_L_40 : jLV RL 40 RX7 yX7_price cX7_price 4 (some .int) 2 := ⟨q_382, q_383, q_384, q_1, q_385, by decide +kernel, by decide⟩
theorem kl_X7_141 : jLS RX7 141 yX7_isPrice cX7_isPrice 1 (some .boolean) 1 := ⟨q_386, q_387, q_1, q_388, by decide +kernel, by decide⟩
theorem kl_X7_145 : jLV RX7 145 RX3 yX3_get cX3_get 2 (some .int) 1 := ⟨q_389, q_369, q_370, q_6, q_371, by decide +kernel, by decide⟩
theorem kl_X7_148 : jLV RX7 148 RX3 yX3_set cX3_set 3 none 2 := ⟨q_390, q_391, q_392, q_6, q_393, by decide +kernel, by decide⟩
theorem kl_X3_26 : jLN RX3 26 yX7_isPrice cX7_isPrice 1 (some .boolean) 1 := ⟨by simp [jnest], q_387, q_1, q_388, by decide +kernel, by decide⟩
theorem kl_L_45 : jLV RL 45 RX7 yX7_priceOf cX7_priceOf 2 (some .int) 1 := ⟨q_395, q_396, q_397, q_1, q_398, by decide +kernel, by decide⟩
theorem kl_L_49 : jLV RL 49 RX7 yX7_round cX7_round 2 (some .int) 0 := ⟨q_399, q_400, q_401, q_1, q_402, by decide +kernel, by decide⟩
theorem kl_X7_155 : jLV RX7 155 RX7 yX7_hasText cX7_hasText 1 (some .boolean) 0 := ⟨q_403, q_405, qs_yX7_hasText, q_1, q_406, by decide +kernel, by decide⟩
theorem kl_X7_158 : jLV RX7 158 RX7 yX7_chooseCheapest cX7_chooseCheapest 1 none 0 := ⟨q_407, q_409, qs_yX7_chooseCheapest, q_1, q_410, by decide +kernel, by decide⟩
theorem kl_X7_237 : jLV RX7 237 RX0 yX0_choose cX0_choose 7 none 5 := ⟨q_411, q_412, q_413, q_7, q_414, by decide +kernel, by decide⟩
theorem kl_X0_26 : jLV RX0 26 RX6 yX6_clear cX6_clear 1 none 0 := ⟨q_415, q_239, q_240, q_4, q_241, by decide +kernel, by decide⟩
theorem kl_X0_31 : jLV RX0 31 RX4 yX4_size cX4_size 1 (some .int) 0 := ⟨q_416, q_326, q_327, q_5, q_328, by decide +kernel, by decide⟩
theorem kl_X0_37 : jLV RX0 37 RX0 yX0_chooseCopy cX0_chooseCopy 10 none 5 := ⟨q_417, q_419, qs_yX0_chooseCopy, q_7, q_420, by decide +kernel, by decide⟩
theorem kl_X0_48 : jLV RX0 48 RX4 yX4_likeness cX4_likeness 3 (some .int) 2 := ⟨q_421, q_315, q_316, q_5, q_317, by decide +kernel, by decide⟩
theorem kl_X0_57 : jLS RX0 57 yX5_copy cX5_copy 2 (some .int) 2 := ⟨q_423, q_256, q_9, q_257, by decide +kernel, by decide⟩
theorem kl_X0_62 : jLV RX0 62 RX3 yX3_ofToken cX3_ofToken 3 (some .int) 1 := ⟨q_424, q_364, q_365, q_6, q_366, by decide +kernel, by decide⟩
theorem kl_X0_68 : jLV RX0 68 RX0 yX0_consider cX0_consider 5 none 3 := ⟨q_425, q_427, qs_yX0_consider, q_7, q_428, by decide +kernel, by decide⟩
theorem kl_X0_41 : jLV RX0 41 RX0 yX0_chooseFirsts cX0_chooseFirsts 13 none 5 := ⟨q_429, q_431, qs_yX0_chooseFirsts, q_7, q_432, by decide +kernel, by decide⟩
theorem kl_X0_72 : jLV RX0 72 RX4 yX4_letterAt cX4_letterAt 2 (some .int) 1 := ⟨q_433, q_434, q_435, q_5, q_436, by decide +kernel, by decide⟩
theorem kl_X4_24 : jLV RX4 24 RX4 yX4_has cX4_has 2 (some .boolean) 1 := ⟨q_437, q_438, q_439, q_5, q_440, by decide +kernel, by decide⟩
theorem kl_X0_75 : jLS RX0 75 yX5_again cX5_again 1 (some .int) 1 := ⟨q_441, q_253, q_9, q_254, by decide +kernel, by decide⟩
theorem kl_X0_44 : jLV RX0 44 RX0 yX0_collect cX0_collect 7 none 3 := ⟨q_442, q_444, qs_yX0_collect, q_7, q_445, by decide +kernel, by decide⟩
theorem kl_X0_78 : jLV RX0 78 RX6 yX6_add cX6_add 2 none 1 := ⟨q_446, q_259, q_260, q_4, q_261, by decide +kernel, by decide⟩
theorem kl_X0_82 : jLS RX0 82 yX5_isCopy cX5_isCopy 1 (some .boolean) 1 := ⟨q_447, q_266, q_9, q_267, by decide +kernel, by decide⟩
theorem kl_X0_86 : jLS RX0 86 yX5_distanceOf cX5_distanceOf 1 (some .int) 1 := ⟨q_448, q_377, q_9, q_378, by decide +kernel, by decide⟩
theorem kl_X0_89 : jLS RX0 89 yX5_lengthOf cX5_lengthOf 1 (some .int) 1 := ⟨q_449, q_373, q_9, q_374, by decide +kernel, by decide⟩
theorem kl_X7_161 : jLV RX7 161 RX3 yX3_follow cX3_follow 4 (some .int) 1 := ⟨q_453, q_454, q_455, q_6, q_456, by decide +kernel, by decide⟩
theorem kl_X3_61 : jLV RX3 61 RX3 yX3_countTaken cX3_countTaken 4 none 1 := ⟨q_457, q_459, qs_yX3_countTaken, q_6, q_460, by decide +kernel, by decide⟩
theorem kl_X3_84 : jLV RX3 84 RX3 yX3_countOne cX3_countOne 2 none 1 := ⟨q_461, q_463, qs_yX3_countOne, q_6, q_464, by decide +kernel, by decide⟩
theorem kl_X3_65 : jLV RX3 65 RX6 yX6_plains cX6_plains 1 (some .int) 0 := ⟨q_465, q_466, q_467, q_4, q_468, by decide +kernel, by decide⟩
theorem kl_X3_68 : jLV RX3 68 RX3 yX3_reprice cX3_reprice 7 (some .int) 3 := ⟨q_469, q_471, qs_yX3_reprice, q_6, q_472, by decide +kernel, by decide⟩
theorem kl_X3_72 : jLV RX3 72 RX6 yX6_copies cX6_copies 1 (some .int) 0 := ⟨q_474, q_475, q_476, q_4, q_477, by decide +kernel, by decide⟩
theorem kl_X3_75 : jLV RX3 75 RX6 yX6_agains cX6_agains 1 (some .int) 0 := ⟨q_478, q_479, q_480, q_4, q_481, by decide +kernel, by decide⟩
theorem kl_L_53 : jLV RL 53 RX7 yX7_rest cX7_rest 2 (some .int) 1 := ⟨q_482, q_483, q_484, q_1, q_485, by decide +kernel, by decide⟩
theorem kl_X7_164 : jLV RX7 164 RX7 yX7_findRest cX7_findRest 2 none 0 := ⟨q_486, q_488, qs_yX7_findRest, q_1, q_489, by decide +kernel, by decide⟩
theorem kl_X7_259 : jLV RX7 259 RX3 yX3_take cX3_take 3 none 1 := ⟨q_490, q_491, q_492, q_6, q_493, by decide +kernel, by decide⟩
theorem kl_X7_184 : jLV RX7 184 RX6 yX6_size cX6_size 1 (some .int) 0 := ⟨q_494, q_338, q_339, q_4, q_340, by decide +kernel, by decide⟩
theorem kl_L_57 : jLV RL 57 RX7 yX7_at cX7_at 2 (some .int) 1 := ⟨q_495, q_496, q_497, q_1, q_498, by decide +kernel, by decide⟩
theorem kl_X7_167 : jLV RX7 167 RX4 yX4_has cX4_has 2 (some .boolean) 1 := ⟨q_499, q_438, q_439, q_5, q_440, by decide +kernel, by decide⟩
theorem kl_X7_170 : jLV RX7 170 RX4 yX4_letterAt cX4_letterAt 2 (some .int) 1 := ⟨q_500, q_434, q_435, q_5, q_436, by decide +kernel, by decide⟩
theorem kl_L_61 : jLV RL 61 RX7 yX7_longest cX7_longest 4 (some .int) 2 := ⟨q_501, q_502, q_503, q_1, q_504, by decide +kernel, by decide⟩
theorem kl_X7_173 : jLV RX7 173 RX4 yX4_longestDistance cX4_longestDistance 6 (some .int) 1 := ⟨q_505, q_506, q_507, q_5, q_508, by decide +kernel, by decide⟩
theorem kl_X7_176 : jLV RX7 176 RX4 yX4_likeness cX4_likeness 3 (some .int) 2 := ⟨q_509, q_315, q_316, q_5, q_317, by decide +kernel, by decide⟩
theorem kl_L_65 : jLV RL 65 RX7 yX7_chain cX7_chain 3 (some .int) 2 := ⟨q_510, q_511, q_512, q_1, q_513, by decide +kernel, by decide⟩
theorem kl_X7_180 : jLV RX7 180 RX4 yX4_chainPlace cX4_chainPlace 5 (some .int) 2 := ⟨q_514, q_515, q_516, q_5, q_517, by decide +kernel, by decide⟩
theorem kl_L_69 : jLV RL 69 RX7 yX7_cheapest cX7_cheapest 3 (some .int) 1 := ⟨q_518, q_519, q_520, q_1, q_521, by decide +kernel, by decide⟩
theorem kl_X7_183 : jLV RX7 183 RX6 yX6_get cX6_get 2 (some .int) 1 := ⟨q_522, q_360, q_361, q_4, q_362, by decide +kernel, by decide⟩
theorem kl_X7_185 : jLV RX7 185 RX6 yX6_signs cX6_signs 3 (some .int) 0 := ⟨q_523, q_524, q_525, q_4, q_526, by decide +kernel, by decide⟩
theorem kl_X6_34 : jLV RX6 34 RX6 yX6_get cX6_get 2 (some .int) 1 := ⟨q_527, q_360, q_361, q_4, q_362, by decide +kernel, by decide⟩
theorem kl_X6_38 : jLS RX6 38 yX5_signsOf cX5_signsOf 1 (some .int) 1 := ⟨q_528, q_529, q_9, q_530, by decide +kernel, by decide⟩
theorem kl_X5_9 : jLS RX5 9 yX5_isPlain cX5_isPlain 1 (some .boolean) 1 := ⟨q_531, q_263, q_9, q_264, by decide +kernel, by decide⟩
theorem kl_L_73 : jLV RL 73 RX7 yX7_codeOf cX7_codeOf 2 (some .int) 1 := ⟨q_532, q_533, q_534, q_1, q_535, by decide +kernel, by decide⟩
theorem kl_X7_188 : jLV RX7 188 RX6 yX6_signAt cX6_signAt 5 (some .int) 1 := ⟨q_536, q_537, q_538, q_4, q_539, by decide +kernel, by decide⟩
theorem kl_X6_41 : jLS RX6 41 yX5_signOf cX5_signOf 2 (some .int) 2 := ⟨q_540, q_541, q_9, q_542, by decide +kernel, by decide⟩
theorem kl_X5_15 : jLS RX5 15 yX5_lengthOf cX5_lengthOf 1 (some .int) 1 := ⟨q_543, q_373, q_9, q_374, by decide +kernel, by decide⟩
theorem kl_X5_19 : jLS RX5 19 yX5_isCopy cX5_isCopy 1 (some .boolean) 1 := ⟨q_544, q_266, q_9, q_267, by decide +kernel, by decide⟩
theorem kl_X5_22 : jLS RX5 22 yX5_distanceOf cX5_distanceOf 1 (some .int) 1 := ⟨q_545, q_377, q_9, q_378, by decide +kernel, by decide⟩
theorem kl_L_77 : jLV RL 77 RX7 yX7_greedy cX7_greedy 2 (some .int) 1 := ⟨q_546, q_547, q_548, q_1, q_549, by decide +kernel, by decide⟩
theorem kl_X7_189 : jLV RX7 189 RX7 yX7_chooseGreedy cX7_chooseGreedy 5 none 0 := ⟨q_550, q_552, qs_yX7_chooseGreedy, q_1, q_553, by decide +kernel, by decide⟩
theorem kl_X7_241 : jLV RX7 241 RX6 yX6_clear cX6_clear 1 none 0 := ⟨q_554, q_239, q_240, q_4, q_241, by decide +kernel, by decide⟩
theorem kl_X7_242 : jLV RX7 242 RX6 yX6_add cX6_add 2 none 1 := ⟨q_555, q_259, q_260, q_4, q_261, by decide +kernel, by decide⟩
theorem kl_X7_243 : jLS RX7 243 yX5_again cX5_again 1 (some .int) 1 := ⟨q_556, q_253, q_9, q_254, by decide +kernel, by decide⟩
theorem kl_X7_248 : jLS RX7 248 yX5_copy cX5_copy 2 (some .int) 2 := ⟨q_557, q_256, q_9, q_257, by decide +kernel, by decide⟩
theorem kl_L_81 : jLV RL 81 RX7 yX7_parts cX7_parts 4 (some .int) 2 := ⟨q_559, q_560, q_561, q_1, q_562, by decide +kernel, by decide⟩
theorem kl_X7_192 : jLV RX7 192 RX7 yX7_priceOfParts cX7_priceOfParts 5 (some .int) 1 := ⟨q_563, q_565, qs_yX7_priceOfParts, q_1, q_566, by decide +kernel, by decide⟩
theorem kl_L_85 : jLV RL 85 RX7 yX7_count cX7_count 2 (some .int) 1 := ⟨q_568, q_569, q_570, q_1, q_571, by decide +kernel, by decide⟩
theorem kl_X7_195 : jLV RX7 195 RX6 yX6_plains cX6_plains 1 (some .int) 0 := ⟨q_572, q_466, q_467, q_4, q_468, by decide +kernel, by decide⟩
theorem kl_X7_198 : jLV RX7 198 RX6 yX6_agains cX6_agains 1 (some .int) 0 := ⟨q_573, q_479, q_480, q_4, q_481, by decide +kernel, by decide⟩
theorem kl_X7_201 : jLV RX7 201 RX6 yX6_copies cX6_copies 1 (some .int) 0 := ⟨q_574, q_475, q_476, q_4, q_477, by decide +kernel, by decide⟩
theorem kl_L_89 : jLV RL 89 RX7 yX7_digest cX7_digest 5 (some .long) 0 := ⟨q_575, q_576, q_577, q_1, q_578, by decide +kernel, by decide⟩
theorem kl_X7_206 : jLS RX7 206 yX7_mix cX7_mix 4 (some .long) 2 := ⟨q_580, q_581, q_1, q_582, by decide +kernel, by decide⟩
theorem kl_X7_210 : jLV RX7 210 RX7 yX7_at cX7_at 2 (some .int) 1 := ⟨q_584, q_496, q_497, q_1, q_498, by decide +kernel, by decide⟩
theorem kl_X7_213 : jLV RX7 213 RX7 yX7_longest cX7_longest 4 (some .int) 2 := ⟨q_585, q_502, q_503, q_1, q_504, by decide +kernel, by decide⟩
theorem kl_X7_216 : jLV RX7 216 RX7 yX7_chain cX7_chain 3 (some .int) 2 := ⟨q_586, q_511, q_512, q_1, q_513, by decide +kernel, by decide⟩
theorem kl_X7_219 : jLV RX7 219 RX7 yX7_cheapest cX7_cheapest 3 (some .int) 1 := ⟨q_587, q_519, q_520, q_1, q_521, by decide +kernel, by decide⟩
theorem kl_X7_222 : jLV RX7 222 RX7 yX7_greedy cX7_greedy 2 (some .int) 1 := ⟨q_588, q_547, q_548, q_1, q_549, by decide +kernel, by decide⟩
theorem kl_X7_225 : jLV RX7 225 RX7 yX7_rest cX7_rest 2 (some .int) 1 := ⟨q_589, q_483, q_484, q_1, q_485, by decide +kernel, by decide⟩
theorem kl_X7_228 : jLV RX7 228 RX7 yX7_parts cX7_parts 4 (some .int) 2 := ⟨q_590, q_560, q_561, q_1, q_562, by decide +kernel, by decide⟩
theorem kl_X7_231 : jLV RX7 231 RX7 yX7_count cX7_count 2 (some .int) 1 := ⟨q_591, q_569, q_570, q_1, q_571, by decide +kernel, by decide⟩
theorem kl_L_17 : jLV RL 17 RX8 yX8_letter cX8_letter 2 (some .int) 1 := ⟨q_671, q_672, q_673, q_8, q_674, by decide +kernel, by decide⟩
theorem kl_X8_49 : jLS RX8 49 yX8_within cX8_within 3 (some .boolean) 3 := ⟨q_675, q_676, q_8, q_677, by decide +kernel, by decide⟩
theorem kl_L_22 : jLV RL 22 RX8 yX8_blank cX8_blank 2 (some .int) 0 := ⟨q_678, q_679, q_680, q_8, q_681, by decide +kernel, by decide⟩
theorem kl_L_27 : jLV RL 27 RX8 yX8_fault cX8_fault 2 (some .int) 1 := ⟨q_682, q_683, q_684, q_8, q_685, by decide +kernel, by decide⟩
theorem kl_X8_85 : jLV RX8 85 RX8 yX8_textFault cX8_textFault 2 (some .int) 0 := ⟨q_686, q_688, qs_yX8_textFault, q_8, q_689, by decide +kernel, by decide⟩
theorem kl_X8_89 : jLV RX8 89 RX8 yX8_readCode cX8_readCode 9 none 0 := ⟨q_690, q_692, qs_yX8_readCode, q_8, q_693, by decide +kernel, by decide⟩
theorem kl_X8_74 : jLV RX8 74 RX8 yX8_copy cX8_copy 4 none 2 := ⟨q_694, q_696, qs_yX8_copy, q_8, q_697, by decide +kernel, by decide⟩
theorem kl_X8_78 : jLV RX8 78 RX8 yX8_againPrice cX8_againPrice 2 (some .int) 1 := ⟨q_698, q_700, qs_yX8_againPrice, q_8, q_701, by decide +kernel, by decide⟩
theorem kl_X8_81 : jLV RX8 81 RX8 yX8_copyPrice cX8_copyPrice 3 (some .int) 2 := ⟨q_702, q_704, qs_yX8_copyPrice, q_8, q_705, by decide +kernel, by decide⟩
theorem kl_X8_57 : jLS RX8 57 yX8_farOf cX8_farOf 1 (some .int) 1 := ⟨q_706, q_707, q_8, q_708, by decide +kernel, by decide⟩
theorem kl_L_31 : jLV RL 31 RX8 yX8_text cX8_text 2 (some .int) 0 := ⟨q_709, q_710, q_711, q_8, q_712, by decide +kernel, by decide⟩
theorem kl_L_35 : jLV RL 35 RX8 yX8_decode cX8_decode 2 (some .int) 0 := ⟨q_713, q_714, q_715, q_8, q_716, by decide +kernel, by decide⟩
theorem kl_L_39 : jLV RL 39 RX8 yX8_priced cX8_priced 1 (some .int) 0 := ⟨q_717, q_718, q_719, q_8, q_720, by decide +kernel, by decide⟩
theorem kl_L_44 : jLV RL 44 RX8 yX8_price cX8_price 4 (some .int) 2 := ⟨q_721, q_722, q_723, q_8, q_724, by decide +kernel, by decide⟩
theorem kl_X8_101 : jLS RX8 101 yX8_isPrice cX8_isPrice 1 (some .boolean) 1 := ⟨q_725, q_726, q_8, q_727, by decide +kernel, by decide⟩
theorem kl_L_48 : jLV RL 48 RX8 yX8_priceOf cX8_priceOf 2 (some .int) 1 := ⟨q_728, q_729, q_730, q_8, q_731, by decide +kernel, by decide⟩
theorem kl_L_60 : jLV RL 60 RX8 yX8_at cX8_at 2 (some .int) 1 := ⟨q_732, q_733, q_734, q_8, q_735, by decide +kernel, by decide⟩
theorem kl_X8_105 : jLV RX8 105 RX8 yX8_isPlace cX8_isPlace 2 (some .boolean) 1 := ⟨q_736, q_738, qs_yX8_isPlace, q_8, q_739, by decide +kernel, by decide⟩
theorem kl_L_64 : jLV RL 64 RX8 yX8_longest cX8_longest 3 (some .int) 2 := ⟨q_740, q_741, q_742, q_8, q_743, by decide +kernel, by decide⟩
theorem kl_X8_115 : jLV RX8 115 RX8 yX8_longestNow cX8_longestNow 4 (some .int) 2 := ⟨q_744, q_746, qs_yX8_longestNow, q_8, q_747, by decide +kernel, by decide⟩
theorem kl_X8_112 : jLV RX8 112 RX8 yX8_farLongest cX8_farLongest 6 (some .int) 1 := ⟨q_748, q_750, qs_yX8_farLongest, q_8, q_751, by decide +kernel, by decide⟩
theorem kl_X8_108 : jLV RX8 108 RX8 yX8_likeness cX8_likeness 5 (some .int) 3 := ⟨q_752, q_754, qs_yX8_likeness, q_8, q_755, by decide +kernel, by decide⟩
theorem kl_L_68 : jLV RL 68 RX8 yX8_chain cX8_chain 3 (some .int) 2 := ⟨q_756, q_757, q_758, q_8, q_759, by decide +kernel, by decide⟩
theorem kl_X8_118 : jLV RX8 118 RX8 yX8_chainNow cX8_chainNow 5 (some .int) 2 := ⟨q_760, q_762, qs_yX8_chainNow, q_8, q_763, by decide +kernel, by decide⟩
theorem kl_L_72 : jLV RL 72 RX8 yX8_cheapest cX8_cheapest 2 (some .int) 1 := ⟨q_764, q_765, q_766, q_8, q_767, by decide +kernel, by decide⟩
theorem kl_X8_142 : jLV RX8 142 RX8 yX8_layTokens cX8_layTokens 4 none 0 := ⟨q_768, q_770, qs_yX8_layTokens, q_8, q_771, by decide +kernel, by decide⟩
theorem kl_X8_130 : jLV RX8 130 RX8 yX8_layCheapest cX8_layCheapest 5 (some .int) 2 := ⟨q_772, q_774, qs_yX8_layCheapest, q_8, q_775, by decide +kernel, by decide⟩
theorem kl_X8_126 : jLV RX8 126 RX8 yX8_layState cX8_layState 9 none 3 := ⟨q_776, q_778, qs_yX8_layState, q_8, q_779, by decide +kernel, by decide⟩
theorem kl_X8_122 : jLV RX8 122 RX8 yX8_way cX8_way 8 none 4 := ⟨q_781, q_783, qs_yX8_way, q_8, q_784, by decide +kernel, by decide⟩
theorem kl_X8_136 : jLS RX8 136 yX8_lengthOf cX8_lengthOf 1 (some .int) 1 := ⟨q_785, q_786, q_8, q_787, by decide +kernel, by decide⟩
theorem kl_X8_145 : jLV RX8 145 RX8 yX8_cheapestTold cX8_cheapestTold 2 (some .int) 1 := ⟨q_788, q_790, qs_yX8_cheapestTold, q_8, q_791, by decide +kernel, by decide⟩
theorem kl_X8_139 : jLV RX8 139 RX8 yX8_lettersOf cX8_lettersOf 3 (some .int) 0 := ⟨q_792, q_794, qs_yX8_lettersOf, q_8, q_795, by decide +kernel, by decide⟩
theorem kl_L_76 : jLV RL 76 RX8 yX8_codeOf cX8_codeOf 2 (some .int) 1 := ⟨q_796, q_797, q_798, q_8, q_799, by decide +kernel, by decide⟩
theorem kl_X8_148 : jLV RX8 148 RX8 yX8_codeNow cX8_codeNow 5 (some .int) 1 := ⟨q_800, q_802, qs_yX8_codeNow, q_8, q_803, by decide +kernel, by decide⟩
theorem kl_L_80 : jLV RL 80 RX8 yX8_greedy cX8_greedy 2 (some .int) 1 := ⟨q_804, q_805, q_806, q_8, q_807, by decide +kernel, by decide⟩
theorem kl_X8_151 : jLV RX8 151 RX8 yX8_greedyNow cX8_greedyNow 8 (some .int) 1 := ⟨q_808, q_810, qs_yX8_greedyNow, q_8, q_811, by decide +kernel, by decide⟩
theorem kl_L_84 : jLV RL 84 RX8 yX8_parts cX8_parts 3 (some .int) 2 := ⟨q_812, q_813, q_814, q_8, q_815, by decide +kernel, by decide⟩
theorem kl_X8_157 : jLV RX8 157 RX8 yX8_partsNow cX8_partsNow 4 (some .int) 2 := ⟨q_816, q_818, qs_yX8_partsNow, q_8, q_819, by decide +kernel, by decide⟩
theorem kl_X8_154 : jLV RX8 154 RX8 yX8_partsPrice cX8_partsPrice 4 (some .int) 1 := ⟨q_820, q_822, qs_yX8_partsPrice, q_8, q_823, by decide +kernel, by decide⟩
theorem kl_L_52 : jLV RL 52 RX8 yX8_round cX8_round 1 (some .int) 0 := ⟨q_824, q_825, q_826, q_8, q_827, by decide +kernel, by decide⟩
theorem kl_X8_178 : jLV RX8 178 RX8 yX8_roundNow cX8_roundNow 2 (some .int) 0 := ⟨q_828, q_830, qs_yX8_roundNow, q_8, q_831, by decide +kernel, by decide⟩
theorem kl_X8_169 : jLV RX8 169 RX8 yX8_layThen cX8_layThen 4 (some .int) 0 := ⟨q_832, q_834, qs_yX8_layThen, q_8, q_835, by decide +kernel, by decide⟩
theorem kl_X8_160 : jLV RX8 160 RX8 yX8_layTaken cX8_layTaken 3 none 0 := ⟨q_836, q_838, qs_yX8_layTaken, q_8, q_839, by decide +kernel, by decide⟩
theorem kl_X8_163 : jLV RX8 163 RX8 yX8_sum cX8_sum 5 (some .int) 2 := ⟨q_840, q_842, qs_yX8_sum, q_8, q_843, by decide +kernel, by decide⟩
theorem kl_X8_166 : jLS RX8 166 yX8_log cX8_log 3 (some .int) 1 := ⟨q_844, q_845, q_8, q_846, by decide +kernel, by decide⟩
theorem kl_X8_172 : jLV RX8 172 RX8 yX8_become cX8_become 2 none 0 := ⟨q_847, q_849, qs_yX8_become, q_8, q_850, by decide +kernel, by decide⟩
theorem kl_L_56 : jLV RL 56 RX8 yX8_rest cX8_rest 2 (some .int) 1 := ⟨q_851, q_852, q_853, q_8, q_854, by decide +kernel, by decide⟩
theorem kl_X8_181 : jLV RX8 181 RX8 yX8_layRest cX8_layRest 4 none 0 := ⟨q_855, q_857, qs_yX8_layRest, q_8, q_858, by decide +kernel, by decide⟩
theorem kl_L_88 : jLV RL 88 RX8 yX8_count cX8_count 2 (some .int) 1 := ⟨q_859, q_860, q_861, q_8, q_862, by decide +kernel, by decide⟩
theorem kl_X8_187 : jLV RX8 187 RX8 yX8_howMany cX8_howMany 2 (some .int) 1 := ⟨q_863, q_865, qs_yX8_howMany, q_8, q_866, by decide +kernel, by decide⟩
theorem kl_X8_184 : jLV RX8 184 RX8 yX8_tokensOf cX8_tokensOf 5 (some .int) 1 := ⟨q_867, q_869, qs_yX8_tokensOf, q_8, q_870, by decide +kernel, by decide⟩
theorem kl_L_93 : jLV RL 93 RX8 yX8_digest cX8_digest 2 (some .long) 0 := ⟨q_871, q_872, q_873, q_8, q_874, by decide +kernel, by decide⟩
theorem kl_X8_196 : jLV RX8 196 RX8 yX8_mix cX8_mix 3 none 1 := ⟨q_876, q_878, qs_yX8_mix, q_8, q_879, by decide +kernel, by decide⟩
theorem kl_X8_202 : jLV RX8 202 RX8 yX8_mixText cX8_mixText 2 none 0 := ⟨q_881, q_883, qs_yX8_mixText, q_8, q_884, by decide +kernel, by decide⟩
