set_option maxRecDepth 20000 in
theorem c_Mod_lettersOf {l : Launch} {G : jG} {B0 : Nat} {φ : jPhi} {ts : List Int} (hm : mdIs φ 99 108 18 ts) (hl : ts.length ≤ 24) (hk : rwOk ts) : jC l G B0 κF 113 yX8_lettersOf cX8_lettersOf 3 (some .int) 0 [rf B0 99] φ mkI (fun z φ' => φ = φ' ∧ z = rwSum tkSigns ts) := by
  refine jC_start RX8 [some (rf B0 99), none, none] (by decide) rfl (Nat.le_of_ble_eq_true rfl) rfl (fun X Q F E => ?_)
  have loop : ∀ (m : Nat) (i a : Int), i + m = ts.length → 0 ≤ i → a + rwSum tkSigns (ts.drop i.toNat) = rwSum tkSigns ts → jJ X G B0 κF 113 0 0 Q 3 φ 4 [some (rf B0 99), some (iv a), some (iv i)] [] := by
    intro m
    induction m with
    | zero =>
      intro i a h1 h2 h3
      have v1 := hm.1
      rw [List.drop_eq_nil_of_le (by omega)] at h3
      have h4 : rwSum tkSigns [] = 0 := rfl
      refine j_iload_2 (n' := 5) F dX8_lettersOf_4 rfl ?_
      refine j_aload_0 (n' := 6) F dX8_lettersOf_5 rfl ?_
      refine j_getI (n' := 9) F 18 rfl fl_X8_133 kap_99 rfl dX8_lettersOf_6 rfl ?_
      refine j_icmp_ge (t := 37) (n' := 12) F (by omega) (by omega) dX8_lettersOf_9 (by decide) rfl (fun c9_0 => ?_) (fun c9_0 => ?_)
      · refine j_iload_1 (n' := 38) F dX8_lettersOf_37 rfl ?_
        exact j_ireturn F E dX8_lettersOf_38 (⟨rfl, by omega⟩)
      · omega
    | succ m ih =>
      intro i a h1 h2 h3
      have v1 := hm.1
      have ati := hm.at (k := i) (by omega) (by omega)
      have oki := hk _ (rw_mem (ts := ts) (k := i.toNat) (by omega))
      have tsi : (i + 1).toNat = i.toNat + 1 := by omega
      have tki : 0 ≤ φ 108 i ∧ φ 108 i ≤ 1248 := by rw [ati]; unfold tkOk at oki; omega
      rw [rwSum_drop (by omega), ← ati] at h3
      have hs : tkSigns (φ 108 i) = if φ 108 i < 100 then 1 else 2 := rfl
      refine j_iload_2 (n' := 5) F dX8_lettersOf_4 rfl ?_
      refine j_aload_0 (n' := 6) F dX8_lettersOf_5 rfl ?_
      refine j_getI (n' := 9) F 18 rfl fl_X8_133 kap_99 rfl dX8_lettersOf_6 rfl ?_
      refine j_icmp_ge (t := 37) (n' := 12) F (by omega) (by omega) dX8_lettersOf_9 (by decide) rfl (fun c9_0 => ?_) (fun c9_0 => ?_)
      · omega
      · refine j_iload_1 (n' := 13) F dX8_lettersOf_12 rfl ?_
        refine j_aload_0 (n' := 14) F dX8_lettersOf_13 rfl ?_
        refine j_getR (n' := 17) F fl_X8_34 kap_99 rfl dX8_lettersOf_14 rfl ?_
        refine j_iload_2 (n' := 18) F dX8_lettersOf_17 rfl ?_
        refine j_iald (n' := 19) F kap_108 (by decide) (by omega) dX8_lettersOf_18 rfl ?_
        refine j_bipush (n' := 21) F dX8_lettersOf_19 (by decide) rfl ?_
        refine j_icmp_ge (t := 28) (n' := 24) F (by omega) (by omega) dX8_lettersOf_21 (by decide) rfl (fun c21_1 => ?_) (fun c21_1 => ?_)
        · refine j_iconst (n' := 29) F dX8_lettersOf_28 rfl ?_
          refine j_iadd (n' := 30) F dX8_lettersOf_29 rfl ?_
          refine j_istore_1 (n' := 31) F (by decide) jc_r dX8_lettersOf_30 rfl ?_
          refine j_iinc_2 (n' := 34) F (by decide) jc_i dX8_lettersOf_31 rfl ?_
          refine j_goto (t := 4) F dX8_lettersOf_34 (by decide) ?_
          exact ih (i + 1) _ (by omega) (by omega) (by rw [tsi]; split at hs <;> omega)
        · refine j_iconst (n' := 25) F dX8_lettersOf_24 rfl ?_
          refine j_goto (t := 29) F dX8_lettersOf_25 (by decide) ?_
          refine j_iadd (n' := 30) F dX8_lettersOf_29 rfl ?_
          refine j_istore_1 (n' := 31) F (by decide) jc_r dX8_lettersOf_30 rfl ?_
          refine j_iinc_2 (n' := 34) F (by decide) jc_i dX8_lettersOf_31 rfl ?_
          refine j_goto (t := 4) F dX8_lettersOf_34 (by decide) ?_
          exact ih (i + 1) _ (by omega) (by omega) (by rw [tsi]; split at hs <;> omega)
  refine j_iconst (n' := 1) F dX8_lettersOf_0 rfl ?_
  refine j_istore_1 (n' := 2) F (by decide) jc_r dX8_lettersOf_1 rfl ?_
  refine j_iconst (n' := 3) F dX8_lettersOf_2 rfl ?_
  refine j_istore_2 (n' := 4) F (by decide) jc_i dX8_lettersOf_3 rfl ?_
  exact loop ts.length 0 0 (by omega) (by omega) (by simp)
set_option maxRecDepth 20000 in
theorem c_Mod_cheapestTold {l : Launch} {G : jG} {B0 : Nat} {φ : jPhi} {x : Int} {ts : List Int} (hm : mdIs φ 99 108 18 ts) (hl : ts.length ≤ 24) (hk : rwOk ts) (hx : (0 ≤ x ∧ x ≤ 2) ∨ (10 ≤ x ∧ x ≤ 33)) : jC l G B0 κF 113 yX8_cheapestTold cX8_cheapestTold 2 (some .int) 1 [rf B0 99, iv x] φ mkI (fun z φ' => φ = φ' ∧ z = (if x = 0 then φ 104 0 else if x = 1 then (ts.length : Int) else if x = 2 then rwSum tkSigns ts else if x - 10 < (ts.length : Int) then ts.getD (x - 10).toNat 0 else -1)) := by
  refine jC_start RX8 [some (rf B0 99), some (iv x)] (by decide) rfl (Nat.le_of_ble_eq_true rfl) rfl (fun X Q F E => ?_)
  have v1 := hm.1
  refine j_iload_1 (n' := 1) F dX8_cheapestTold_0 rfl ?_
  refine j_if_ne (t := 13) (n' := 4) F (by omega) dX8_cheapestTold_1 (by decide) rfl (fun c1_0 => ?_) (fun c1_0 => ?_)
  · refine j_iload_1 (n' := 14) F dX8_cheapestTold_13 rfl ?_
    refine j_iconst (n' := 15) F dX8_cheapestTold_14 rfl ?_
    refine j_icmp_ne (t := 25) (n' := 18) F (by omega) (by omega) dX8_cheapestTold_15 (by decide) rfl (fun c15_1 => ?_) (fun c15_1 => ?_)
    · refine j_iload_1 (n' := 26) F dX8_cheapestTold_25 rfl ?_
      refine j_iconst (n' := 27) F dX8_cheapestTold_26 rfl ?_
      refine j_icmp_ne (t := 37) (n' := 30) F (by omega) (by omega) dX8_cheapestTold_27 (by decide) rfl (fun c27_2 => ?_) (fun c27_2 => ?_)
      · refine j_iload_1 (n' := 38) F dX8_cheapestTold_37 rfl ?_
        refine j_bipush (n' := 40) F dX8_cheapestTold_38 (by decide) rfl ?_
        refine j_isub (n' := 41) F dX8_cheapestTold_40 rfl ?_
        refine j_aload_0 (n' := 42) F dX8_cheapestTold_41 rfl ?_
        refine j_getI (n' := 45) F 18 rfl fl_X8_133 kap_99 rfl dX8_cheapestTold_42 rfl ?_
        refine j_icmp_ge (t := 60) (n' := 48) F (by omega) (by omega) dX8_cheapestTold_45 (by decide) rfl (fun c45_3 => ?_) (fun c45_3 => ?_)
        · refine j_iconst (n' := 61) F dX8_cheapestTold_60 rfl ?_
          refine j_ireturn F E dX8_cheapestTold_61 ?_
          refine ⟨rfl, ?_⟩
          first
            | (rw [if_pos (by omega)]; done)
            | (rw [if_neg (by omega), if_pos (by omega)]; omega)
            | (rw [if_neg (by omega), if_neg (by omega), if_pos (by omega)]; done)
            | (rw [if_neg (by omega), if_neg (by omega), if_neg (by omega), if_pos (by omega)]; exact hm.at (by omega) (by omega))
            | (rw [if_neg (by omega), if_neg (by omega), if_neg (by omega), if_neg (by omega)]; done)
        · refine j_aload_0 (n' := 49) F dX8_cheapestTold_48 rfl ?_
          refine j_getR (n' := 52) F fl_X8_34 kap_99 rfl dX8_cheapestTold_49 rfl ?_
          refine j_iload_1 (n' := 53) F dX8_cheapestTold_52 rfl ?_
          refine j_bipush (n' := 55) F dX8_cheapestTold_53 (by decide) rfl ?_
          refine j_isub (n' := 56) F dX8_cheapestTold_55 rfl ?_
          refine j_iald (n' := 57) F kap_108 (by decide) (by omega) dX8_cheapestTold_56 rfl ?_
          refine j_goto (t := 61) F dX8_cheapestTold_57 (by decide) ?_
          refine j_ireturn F E dX8_cheapestTold_61 ?_
          refine ⟨rfl, ?_⟩
          first
            | (rw [if_pos (by omega)]; done)
            | (rw [if_neg (by omega), if_pos (by omega)]; omega)
            | (rw [if_neg (by omega), if_neg (by omega), if_pos (by omega)]; done)
            | (rw [if_neg (by omega), if_neg (by omega), if_neg (by omega), if_pos (by omega)]; exact hm.at (by omega) (by omega))
            | (rw [if_neg (by omega), if_neg (by omega), if_neg (by omega), if_neg (by omega)]; done)
      · refine j_aload_0 (n' := 31) F dX8_cheapestTold_30 rfl ?_
        refine j_cV0i (n' := 34) F kl_X8_139 (c_Mod_lettersOf hm hl hk) kap_99 rfl (by decide) (Nat.le_of_ble_eq_true rfl) dX8_cheapestTold_31 rfl (fun z5 φ5 h5 => ?_)
        obtain ⟨rfl, rfl⟩ := h5
        refine j_goto (t := 61) F dX8_cheapestTold_34 (by decide) ?_
        refine j_ireturn F E dX8_cheapestTold_61 ?_
        refine ⟨rfl, ?_⟩
        first
          | (rw [if_pos (by omega)]; done)
          | (rw [if_neg (by omega), if_pos (by omega)]; omega)
          | (rw [if_neg (by omega), if_neg (by omega), if_pos (by omega)]; done)
          | (rw [if_neg (by omega), if_neg (by omega), if_neg (by omega), if_pos (by omega)]; exact hm.at (by omega) (by omega))
          | (rw [if_neg (by omega), if_neg (by omega), if_neg (by omega), if_neg (by omega)]; done)
    · refine j_aload_0 (n' := 19) F dX8_cheapestTold_18 rfl ?_
      refine j_getI (n' := 22) F 18 rfl fl_X8_133 kap_99 rfl dX8_cheapestTold_19 rfl ?_
      refine j_goto (t := 61) F dX8_cheapestTold_22 (by decide) ?_
      refine j_ireturn F E dX8_cheapestTold_61 ?_
      refine ⟨rfl, ?_⟩
      first
        | (rw [if_pos (by omega)]; done)
        | (rw [if_neg (by omega), if_pos (by omega)]; omega)
        | (rw [if_neg (by omega), if_neg (by omega), if_pos (by omega)]; done)
        | (rw [if_neg (by omega), if_neg (by omega), if_neg (by omega), if_pos (by omega)]; exact hm.at (by omega) (by omega))
        | (rw [if_neg (by omega), if_neg (by omega), if_neg (by omega), if_neg (by omega)]; done)
  · refine j_aload_0 (n' := 5) F dX8_cheapestTold_4 rfl ?_
    refine j_getR (n' := 8) F fl_X8_22 kap_99 rfl dX8_cheapestTold_5 rfl ?_
    refine j_iconst (n' := 9) F dX8_cheapestTold_8 rfl ?_
    refine j_iald (n' := 10) F kap_104 (by decide) (by omega) dX8_cheapestTold_9 rfl ?_
    refine j_goto (t := 61) F dX8_cheapestTold_10 (by decide) ?_
    refine j_ireturn F E dX8_cheapestTold_61 ?_
    refine ⟨rfl, ?_⟩
    first
      | (rw [if_pos (by omega)]; done)
      | (rw [if_neg (by omega), if_pos (by omega)]; omega)
      | (rw [if_neg (by omega), if_neg (by omega), if_pos (by omega)]; done)
      | (rw [if_neg (by omega), if_neg (by omega), if_neg (by omega), if_pos (by omega)]; exact hm.at (by omega) (by omega))
      | (rw [if_neg (by omega), if_neg (by omega), if_neg (by omega), if_neg (by omega)]; done)
set_option maxRecDepth 20000 in
theorem c_Mod_cheapest {l : Launch} {G : jG} {B0 : Nat} {φ : jPhi} {x : Int} (hc : miOk φ) (hx : -2147483648 ≤ x ∧ x ≤ 2147483647) : jC l G B0 κF 113 yX8_cheapest cX8_cheapest 2 (some .int) 5 [rf B0 99, iv x] φ mkI (fun z φ' => (z, pubM φ') = spChe (pubM φ) x ∧ miOk φ' ∧ frC (fun a => 99 ≤ a) φ φ') := by
  refine jC_start RX8 [some (rf B0 99), some (iv x)] (by decide) rfl (Nat.le_of_ble_eq_true rfl) rfl (fun X Q F E => ?_)
  have hc0 := hc
  obtain ⟨c1, c2, c3, c5, c6⟩ := hc0
  have tkk := toks_ok (P := φ 102) (t := φ 101) (f := 0) (e := φ 99 2) (by omega) (by omega) c5
  refine j_aload_0 (n' := 1) F dX8_cheapest_0 rfl ?_
  refine j_getI (n' := 4) F 2 rfl fl_X8_92 kap_99 rfl dX8_cheapest_1 rfl ?_
  refine j_if_ne (t := 11) (n' := 7) F (by first | omega | (split <;> omega)) dX8_cheapest_4 (by decide) rfl (fun c4_0 => ?_) (fun c4_0 => ?_)
  · refine j_iload_1 (n' := 12) F dX8_cheapest_11 rfl ?_
    refine j_iconst (n' := 13) F dX8_cheapest_12 rfl ?_
    refine j_iconst (n' := 14) F dX8_cheapest_13 rfl ?_
    refine j_cS3i (n' := 17) F kl_X8_49 (c_Mod_within hx (by omega) (by omega)) (by decide) (Nat.le_of_ble_eq_true rfl) dX8_cheapest_14 rfl (fun z2 φ2 h2 => ?_)
    obtain ⟨rfl, rfl⟩ := h2
    refine j_if_ne (t := 35) (n' := 20) F (by first | omega | (split <;> omega)) dX8_cheapest_17 (by decide) rfl (fun c17_2 => ?_) (fun c17_2 => ?_)
    · refine j_aload_0 (n' := 36) F dX8_cheapest_35 rfl ?_
      refine j_cV0v (n' := 39) F kl_X8_142 (c_Mod_layTokens hc (by omega)) kap_99 rfl (by decide) (Nat.le_of_ble_eq_true rfl) dX8_cheapest_36 rfl (fun z4 φ4 h4 => ?_)
      obtain ⟨hm, hpr, hz, hf⟩ := h4
      have hmi : miOk φ4 := hc.fr (hz 0 (by omega)) (hz 2 (by omega)) (fun a ha b => hf a b (by omega))
      have hpub : pubM φ4 = pubM φ := pubM_fr (fun a ha b => hf a b (by omega)) (fun b hb => hz b (by omega))
      refine j_aload_0 (n' := 40) F dX8_cheapest_39 rfl ?_
      refine j_iload_1 (n' := 41) F dX8_cheapest_40 rfl ?_
      refine j_cV1i (n' := 44) F kl_X8_145 (c_Mod_cheapestTold hm tkk.2 tkk.1 (by split at * <;> omega)) kap_99 rfl (by decide) (Nat.le_of_ble_eq_true rfl) dX8_cheapest_41 rfl (fun z5 φ5 h5 => ?_)
      obtain ⟨rfl, rfl⟩ := h5
      refine j_ireturn F E dX8_cheapest_44 ?_
      refine ⟨?_, hmi, hf.wk (fun a h => by omega)⟩
      rw [hpub]
      unfold spChe pubM
      dsimp only
      rw [if_neg (c := ¬ 0 < φ 99 2) (by omega), if_neg (c := ¬ ((0 ≤ x ∧ x ≤ 2) ∨ (10 ≤ x ∧ x ≤ 33))) (by split at * <;> omega), cheV, hpr]
    · refine j_iload_1 (n' := 21) F dX8_cheapest_20 rfl ?_
      refine j_bipush (n' := 23) F dX8_cheapest_21 (by decide) rfl ?_
      refine j_bipush (n' := 25) F dX8_cheapest_23 (by decide) rfl ?_
      refine j_cS3i (n' := 28) F kl_X8_49 (c_Mod_within hx (by omega) (by omega)) (by decide) (Nat.le_of_ble_eq_true rfl) dX8_cheapest_25 rfl (fun z6 φ6 h6 => ?_)
      obtain ⟨rfl, rfl⟩ := h6
      refine j_if_ne (t := 35) (n' := 31) F (by first | omega | (split <;> omega)) dX8_cheapest_28 (by decide) rfl (fun c28_6 => ?_) (fun c28_6 => ?_)
      · refine j_aload_0 (n' := 36) F dX8_cheapest_35 rfl ?_
        refine j_cV0v (n' := 39) F kl_X8_142 (c_Mod_layTokens hc (by omega)) kap_99 rfl (by decide) (Nat.le_of_ble_eq_true rfl) dX8_cheapest_36 rfl (fun z8 φ8 h8 => ?_)
        obtain ⟨hm, hpr, hz, hf⟩ := h8
        have hmi : miOk φ8 := hc.fr (hz 0 (by omega)) (hz 2 (by omega)) (fun a ha b => hf a b (by omega))
        have hpub : pubM φ8 = pubM φ := pubM_fr (fun a ha b => hf a b (by omega)) (fun b hb => hz b (by omega))
        refine j_aload_0 (n' := 40) F dX8_cheapest_39 rfl ?_
        refine j_iload_1 (n' := 41) F dX8_cheapest_40 rfl ?_
        refine j_cV1i (n' := 44) F kl_X8_145 (c_Mod_cheapestTold hm tkk.2 tkk.1 (by split at * <;> omega)) kap_99 rfl (by decide) (Nat.le_of_ble_eq_true rfl) dX8_cheapest_41 rfl (fun z9 φ9 h9 => ?_)
        obtain ⟨rfl, rfl⟩ := h9
        refine j_ireturn F E dX8_cheapest_44 ?_
        refine ⟨?_, hmi, hf.wk (fun a h => by omega)⟩
        rw [hpub]
        unfold spChe pubM
        dsimp only
        rw [if_neg (c := ¬ 0 < φ 99 2) (by omega), if_neg (c := ¬ ((0 ≤ x ∧ x ≤ 2) ∨ (10 ≤ x ∧ x ≤ 33))) (by split at * <;> omega), cheV, hpr]
      · refine j_sipush (n' := 34) F dX8_cheapest_31 (by decide) rfl ?_
        exact j_ireturn F E dX8_cheapest_34 (⟨by unfold spChe pubM; dsimp only; rw [if_neg (by omega), if_pos (by split at * <;> omega)], hc, frC.rf⟩)
  · refine j_sipush (n' := 10) F dX8_cheapest_7 (by decide) rfl ?_
    exact j_ireturn F E dX8_cheapest_10 (⟨by unfold spChe pubM; dsimp only; rw [if_pos (by omega)], hc, frC.rf⟩)
set_option maxRecDepth 20000 in
theorem c_Mod_codeNow {l : Launch} {G : jG} {B0 : Nat} {φ : jPhi} {x : Int} {ts : List Int} (hm : mdIs φ 99 108 18 ts) (hl : ts.length ≤ 24) (hk : rwOk ts) (hx : -2147483648 ≤ x ∧ x ≤ 2147483647) : jC l G B0 κF 113 yX8_codeNow cX8_codeNow 5 (some .int) 0 [rf B0 99, iv x] φ mkI (fun z φ' => φ = φ' ∧ z = (if x < 0 then -1 else sgnL ts x)) := by
  refine jC_start RX8 [some (rf B0 99), some (iv x), none, none, none] (by decide) rfl (Nat.le_of_ble_eq_true rfl) rfl (fun X Q F E => ?_)
  have loop : ∀ (m : Nat) (i a : Int), i + m = ts.length → 0 ≤ i → 0 ≤ a ∧ a ≤ 2 * i → (0 ≤ x → a ≤ x → sgnL (ts.drop i.toNat) (x - a) = sgnL ts x) → (x < a → x < 0) → jJ X G B0 κF 113 0 0 Q 5 φ 4 [some (rf B0 99), some (iv x), some (iv a), some (iv i), none] [] := by
    intro m
    induction m with
    | zero =>
      intro i a h1 h2 h3 h4 h5
      have v1 := hm.1
      rw [List.drop_eq_nil_of_le (by omega), sgnL] at h4
      refine j_iload_3 (n' := 5) F dX8_codeNow_4 rfl ?_
      refine j_aload_0 (n' := 6) F dX8_codeNow_5 rfl ?_
      refine j_getI (n' := 9) F 18 rfl fl_X8_133 kap_99 rfl dX8_codeNow_6 rfl ?_
      refine j_icmp_ge (t := 117) (n' := 12) F (by omega) (by omega) dX8_codeNow_9 (by decide) rfl (fun c9_0 => ?_) (fun c9_0 => ?_)
      · refine j_iconst (n' := 118) F dX8_codeNow_117 rfl ?_
        refine j_ireturn F E dX8_codeNow_118 ?_
        refine ⟨rfl, ?_⟩
        by_cases hx0 : x < 0
        · rw [if_pos hx0]
        · rw [if_neg hx0]
          exact h4 (by omega) (by omega)
      · omega
    | succ m ih =>
      intro i a h1 h2 h3 h4 h5
      have v1 := hm.1
      have ati := hm.at (k := i) (by omega) (by omega)
      have oki := hk _ (rw_mem (ts := ts) (k := i.toNat) (by omega))
      have tsi : (i + 1).toNat = i.toNat + 1 := by omega
      have tki : 0 ≤ φ 108 i ∧ φ 108 i ≤ 1248 := by rw [ati]; unfold tkOk at oki; omega
      rw [sgnL_drop (by omega), ← ati] at h4
      rw [← ati] at oki
      have hs : tkSigns (φ 108 i) = if φ 108 i < 100 then 1 else 2 := rfl
      have hln : tkLen (φ 108 i) = if φ 108 i < 100 then 1 else φ 108 i % 10 := rfl
      have hdi : tkDist (φ 108 i) = if φ 108 i < 1000 then 0 else (φ 108 i - 1000) / 10 := rfl
      refine j_iload_3 (n' := 5) F dX8_codeNow_4 rfl ?_
      refine j_aload_0 (n' := 6) F dX8_codeNow_5 rfl ?_
      refine j_getI (n' := 9) F 18 rfl fl_X8_133 kap_99 rfl dX8_codeNow_6 rfl ?_
      refine j_icmp_ge (t := 117) (n' := 12) F (by omega) (by omega) dX8_codeNow_9 (by decide) rfl (fun c9_0 => ?_) (fun c9_0 => ?_)
      · refine j_iconst (n' := 118) F dX8_codeNow_117 rfl ?_
        exact j_ireturn F E dX8_codeNow_118 (⟨rfl, by rw [if_pos (by omega)]⟩)
      · refine j_iload_2 (n' := 13) F dX8_codeNow_12 rfl ?_
        refine j_iload_1 (n' := 14) F dX8_codeNow_13 rfl ?_
        refine j_icmp_gt (t := 117) (n' := 17) F (by omega) (by omega) dX8_codeNow_14 (by decide) rfl (fun c14_1 => ?_) (fun c14_1 => ?_)
        · refine j_iconst (n' := 118) F dX8_codeNow_117 rfl ?_
          exact j_ireturn F E dX8_codeNow_118 (⟨rfl, by rw [if_pos (by omega)]⟩)
        · refine j_aload_0 (n' := 18) F dX8_codeNow_17 rfl ?_
          refine j_getR (n' := 21) F fl_X8_34 kap_99 rfl dX8_codeNow_18 rfl ?_
          refine j_iload_3 (n' := 22) F dX8_codeNow_21 rfl ?_
          refine j_iald (n' := 23) F kap_108 (by decide) (by omega) dX8_codeNow_22 rfl ?_
          refine j_istore_4 (n' := 25) F (by decide) jc_i dX8_codeNow_23 rfl ?_
          refine j_iload_2 (n' := 26) F dX8_codeNow_25 rfl ?_
          refine j_iload_1 (n' := 27) F dX8_codeNow_26 rfl ?_
          refine j_icmp_ne (t := 73) (n' := 30) F (by omega) (by omega) dX8_codeNow_27 (by decide) rfl (fun c27_2 => ?_) (fun c27_2 => ?_)
          · refine j_iload_4 (n' := 75) F dX8_codeNow_73 rfl ?_
            refine j_bipush (n' := 77) F dX8_codeNow_75 (by decide) rfl ?_
            refine j_icmp_lt (t := 96) (n' := 80) F (by omega) (by omega) dX8_codeNow_77 (by decide) rfl (fun c77_3 => ?_) (fun c77_3 => ?_)
            · refine j_iload_2 (n' := 97) F dX8_codeNow_96 rfl ?_
              refine j_iload_4 (n' := 99) F dX8_codeNow_97 rfl ?_
              refine j_bipush (n' := 101) F dX8_codeNow_99 (by decide) rfl ?_
              refine j_icmp_ge (t := 108) (n' := 104) F (by omega) (by omega) dX8_codeNow_101 (by decide) rfl (fun c101_4 => ?_) (fun c101_4 => ?_)
              · refine j_iconst (n' := 109) F dX8_codeNow_108 rfl ?_
                refine j_iadd (n' := 110) F dX8_codeNow_109 rfl ?_
                refine j_istore_2 (n' := 111) F (by decide) jc_i dX8_codeNow_110 rfl ?_
                refine j_iinc_3 (n' := 114) F (by decide) jc_i dX8_codeNow_111 rfl ?_
                refine j_goto (t := 4) F dX8_codeNow_114 (by decide) ?_
                exact j_weak (by exact ⟨rfl, rfl, rfl, rfl, trivial⟩) (ih (i + 1) _ (by omega) (by omega) (by omega) (fun q1 q2 => by rw [tsi, ← h4 q1 (by omega), if_neg (by split at hs <;> omega)]; congr 1; split at hs <;> omega) (by omega))
              · refine j_iconst (n' := 105) F dX8_codeNow_104 rfl ?_
                refine j_goto (t := 109) F dX8_codeNow_105 (by decide) ?_
                refine j_iadd (n' := 110) F dX8_codeNow_109 rfl ?_
                refine j_istore_2 (n' := 111) F (by decide) jc_i dX8_codeNow_110 rfl ?_
                refine j_iinc_3 (n' := 114) F (by decide) jc_i dX8_codeNow_111 rfl ?_
                refine j_goto (t := 4) F dX8_codeNow_114 (by decide) ?_
                exact j_weak (by exact ⟨rfl, rfl, rfl, rfl, trivial⟩) (ih (i + 1) _ (by omega) (by omega) (by omega) (fun q1 q2 => by rw [tsi, ← h4 q1 (by omega), if_neg (by split at hs <;> omega)]; congr 1; split at hs <;> omega) (by omega))
            · refine j_iload_2 (n' := 81) F dX8_codeNow_80 rfl ?_
              refine j_iconst (n' := 82) F dX8_codeNow_81 rfl ?_
              refine j_iadd (n' := 83) F dX8_codeNow_82 rfl ?_
              refine j_iload_1 (n' := 84) F dX8_codeNow_83 rfl ?_
              refine j_icmp_ne (t := 96) (n' := 87) F (by omega) (by omega) dX8_codeNow_84 (by decide) rfl (fun c84_5 => ?_) (fun c84_5 => ?_)
              · refine j_iload_2 (n' := 97) F dX8_codeNow_96 rfl ?_
                refine j_iload_4 (n' := 99) F dX8_codeNow_97 rfl ?_
                refine j_bipush (n' := 101) F dX8_codeNow_99 (by decide) rfl ?_
                refine j_icmp_ge (t := 108) (n' := 104) F (by omega) (by omega) dX8_codeNow_101 (by decide) rfl (fun c101_6 => ?_) (fun c101_6 => ?_)
                · refine j_iconst (n' := 109) F dX8_codeNow_108 rfl ?_
                  refine j_iadd (n' := 110) F dX8_codeNow_109 rfl ?_
                  refine j_istore_2 (n' := 111) F (by decide) jc_i dX8_codeNow_110 rfl ?_
                  refine j_iinc_3 (n' := 114) F (by decide) jc_i dX8_codeNow_111 rfl ?_
                  refine j_goto (t := 4) F dX8_codeNow_114 (by decide) ?_
                  exact j_weak (by exact ⟨rfl, rfl, rfl, rfl, trivial⟩) (ih (i + 1) _ (by omega) (by omega) (by omega) (fun q1 q2 => by rw [tsi, ← h4 q1 (by omega), if_neg (by split at hs <;> omega)]; congr 1; split at hs <;> omega) (by omega))
                · refine j_iconst (n' := 105) F dX8_codeNow_104 rfl ?_
                  refine j_goto (t := 109) F dX8_codeNow_105 (by decide) ?_
                  refine j_iadd (n' := 110) F dX8_codeNow_109 rfl ?_
                  refine j_istore_2 (n' := 111) F (by decide) jc_i dX8_codeNow_110 rfl ?_
                  refine j_iinc_3 (n' := 114) F (by decide) jc_i dX8_codeNow_111 rfl ?_
                  refine j_goto (t := 4) F dX8_codeNow_114 (by decide) ?_
                  exact j_weak (by exact ⟨rfl, rfl, rfl, rfl, trivial⟩) (ih (i + 1) _ (by omega) (by omega) (by omega) (fun q1 q2 => by rw [tsi, ← h4 q1 (by omega), if_neg (by split at hs <;> omega)]; congr 1; split at hs <;> omega) (by omega))
              · refine j_bipush (n' := 89) F dX8_codeNow_87 (by decide) rfl ?_
                refine j_iload_4 (n' := 91) F dX8_codeNow_89 rfl ?_
                refine j_bipush (n' := 93) F dX8_codeNow_91 (by decide) rfl ?_
                refine j_irem (n' := 94) F (by omega) (by omega) dX8_codeNow_93 rfl ?_
                refine j_iadd (n' := 95) F dX8_codeNow_94 rfl ?_
                refine j_ireturn F E dX8_codeNow_95 ?_
                refine ⟨rfl, ?_⟩
                rw [if_neg (by omega), ← h4 (by omega) (by omega), if_pos (by split at hs <;> omega), tkSign]
                repeat (first | omega | split)
          · refine j_iload_4 (n' := 32) F dX8_codeNow_30 rfl ?_
            refine j_bipush (n' := 34) F dX8_codeNow_32 (by decide) rfl ?_
            refine j_icmp_ge (t := 45) (n' := 37) F (by omega) (by omega) dX8_codeNow_34 (by decide) rfl (fun c34_7 => ?_) (fun c34_7 => ?_)
            · refine j_iload_4 (n' := 47) F dX8_codeNow_45 rfl ?_
              refine j_sipush (n' := 50) F dX8_codeNow_47 (by decide) rfl ?_
              refine j_icmp_ge (t := 58) (n' := 53) F (by omega) (by omega) dX8_codeNow_50 (by decide) rfl (fun c50_8 => ?_) (fun c50_8 => ?_)
              · refine j_bipush (n' := 60) F dX8_codeNow_58 (by decide) rfl ?_
                refine j_iload_4 (n' := 62) F dX8_codeNow_60 rfl ?_
                refine j_sipush (n' := 65) F dX8_codeNow_62 (by decide) rfl ?_
                refine j_isub (n' := 66) F dX8_codeNow_65 rfl ?_
                refine j_bipush (n' := 68) F dX8_codeNow_66 (by decide) rfl ?_
                refine j_idiv (n' := 69) F (by omega) (by omega) dX8_codeNow_68 rfl ?_
                refine j_iadd (n' := 70) F dX8_codeNow_69 rfl ?_
                refine j_iconst (n' := 71) F dX8_codeNow_70 rfl ?_
                refine j_isub (n' := 72) F dX8_codeNow_71 rfl ?_
                refine j_ireturn F E dX8_codeNow_72 ?_
                refine ⟨rfl, ?_⟩
                rw [if_neg (by omega), ← h4 (by omega) (by omega), if_pos (by split at hs <;> omega), tkSign]
                repeat (first | omega | split)
              · refine j_bipush (n' := 55) F dX8_codeNow_53 (by decide) rfl ?_
                refine j_goto (t := 72) F dX8_codeNow_55 (by decide) ?_
                refine j_ireturn F E dX8_codeNow_72 ?_
                refine ⟨rfl, ?_⟩
                rw [if_neg (by omega), ← h4 (by omega) (by omega), if_pos (by split at hs <;> omega), tkSign]
                repeat (first | omega | split)
            · refine j_bipush (n' := 39) F dX8_codeNow_37 (by decide) rfl ?_
              refine j_iload_4 (n' := 41) F dX8_codeNow_39 rfl ?_
              refine j_iadd (n' := 42) F dX8_codeNow_41 rfl ?_
              refine j_goto (t := 72) F dX8_codeNow_42 (by decide) ?_
              refine j_ireturn F E dX8_codeNow_72 ?_
              refine ⟨rfl, ?_⟩
              rw [if_neg (by omega), ← h4 (by omega) (by omega), if_pos (by split at hs <;> omega), tkSign]
              repeat (first | omega | split)
  refine j_iconst (n' := 1) F dX8_codeNow_0 rfl ?_
  refine j_istore_2 (n' := 2) F (by decide) jc_i dX8_codeNow_1 rfl ?_
  refine j_iconst (n' := 3) F dX8_codeNow_2 rfl ?_
  refine j_istore_3 (n' := 4) F (by decide) jc_i dX8_codeNow_3 rfl ?_
  exact loop ts.length 0 0 (by omega) (by omega) (by omega) (fun _ _ => by simp) (by omega)
set_option maxRecDepth 20000 in
theorem c_Mod_codeOf {l : Launch} {G : jG} {B0 : Nat} {φ : jPhi} {x : Int} (hc : miOk φ) (hx : -2147483648 ≤ x ∧ x ≤ 2147483647) : jC l G B0 κF 113 yX8_codeOf cX8_codeOf 2 (some .int) 5 [rf B0 99, iv x] φ mkI (fun z φ' => (z, pubM φ') = spCod (pubM φ) x ∧ miOk φ' ∧ frC (fun a => 99 ≤ a) φ φ') := by
  refine jC_start RX8 [some (rf B0 99), some (iv x)] (by decide) rfl (Nat.le_of_ble_eq_true rfl) rfl (fun X Q F E => ?_)
  have hc0 := hc
  obtain ⟨c1, c2, c3, c5, c6⟩ := hc0
  have tkk := toks_ok (P := φ 102) (t := φ 101) (f := 0) (e := φ 99 2) (by omega) (by omega) c5
  refine j_aload_0 (n' := 1) F dX8_codeOf_0 rfl ?_
  refine j_getI (n' := 4) F 2 rfl fl_X8_92 kap_99 rfl dX8_codeOf_1 rfl ?_
  refine j_if_ne (t := 11) (n' := 7) F (by omega) dX8_codeOf_4 (by decide) rfl (fun c4_0 => ?_) (fun c4_0 => ?_)
  · refine j_aload_0 (n' := 12) F dX8_codeOf_11 rfl ?_
    refine j_cV0v (n' := 15) F kl_X8_142 (c_Mod_layTokens hc (by omega)) kap_99 rfl (by decide) (Nat.le_of_ble_eq_true rfl) dX8_codeOf_12 rfl (fun z2 φ2 h2 => ?_)
    obtain ⟨hm, hpr, hz, hf⟩ := h2
    have hmi : miOk φ2 := hc.fr (hz 0 (by omega)) (hz 2 (by omega)) (fun a ha b => hf a b (by omega))
    have hpub : pubM φ2 = pubM φ := pubM_fr (fun a ha b => hf a b (by omega)) (fun b hb => hz b (by omega))
    refine j_aload_0 (n' := 16) F dX8_codeOf_15 rfl ?_
    refine j_iload_1 (n' := 17) F dX8_codeOf_16 rfl ?_
    refine j_cV1i (n' := 20) F kl_X8_148 (c_Mod_codeNow hm tkk.2 tkk.1 hx) kap_99 rfl (by decide) (Nat.le_of_ble_eq_true rfl) dX8_codeOf_17 rfl (fun z3 φ3 h3 => ?_)
    obtain ⟨rfl, rfl⟩ := h3
    refine j_ireturn F E dX8_codeOf_20 ?_
    refine ⟨?_, hmi, hf.wk (fun a h => by omega)⟩
    rw [hpub]
    unfold spCod pubM
    dsimp only
    rw [if_neg (c := ¬ 0 < φ 99 2) (by omega)]
  · refine j_sipush (n' := 10) F dX8_codeOf_7 (by decide) rfl ?_
    exact j_ireturn F E dX8_codeOf_10 (⟨by unfold spCod pubM; dsimp only; rw [if_pos (by omega)], hc, frC.rf⟩)
set_option maxRecDepth 20000 in
theorem c_Mod_greedyNow {l : Launch} {G : jG} {B0 : Nat} {φ : jPhi} {x : Int} (hc : miOk φ) (hx : 0 ≤ x ∧ x ≤ 1) : jC l G B0 κF 113 yX8_greedyNow cX8_greedyNow 8 (some .int) 2 [rf B0 99, iv x] φ mkI (fun z φ' => φ = φ' ∧ z = greV (φ 102) (φ 101) (φ 99 2) x) := by
  refine jC_start RX8 [some (rf B0 99), some (iv x), none, none, none, none, none, none] (by decide) rfl (Nat.le_of_ble_eq_true rfl) rfl (fun X Q F E => ?_)
  have hc0 := hc
  obtain ⟨c1, c2, c3, c5, c6⟩ := hc0
  have loop : ∀ (k : Nat) (p la a b : Int), φ 99 2 - p ≤ k → 0 ≤ p → p ≤ φ 99 2 → 0 ≤ la → la ≤ 24 → a + rwSum (tkPrice (φ 102)) (grF (φ 101) (φ 99 2) k p la) = rwSum (tkPrice (φ 102)) (grR (φ 101) (φ 99 2)) → b + ((grF (φ 101) (φ 99 2) k p la).length : Int) = ((grR (φ 101) (φ 99 2)).length : Int) → jJ X G B0 κF 113 0 0 Q 8 φ 10 [some (rf B0 99), some (iv x), some (iv a), some (iv b), some (iv la), some (iv p), none, none] [] := by
    intro k
    induction k with
    | zero =>
      intro p la a b h1 h2 h3 h4 h5 h6 h7
      rw [grF] at h6 h7
      have h8 : rwSum (tkPrice (φ 102)) [] = 0 := rfl
      rw [List.length_nil] at h7
      refine j_iload_5 (n' := 12) F dX8_greedyNow_10 rfl ?_
      refine j_aload_0 (n' := 13) F dX8_greedyNow_12 rfl ?_
      refine j_getI (n' := 16) F 2 rfl fl_X8_92 kap_99 rfl dX8_greedyNow_13 rfl ?_
      refine j_icmp_ge (t := 124) (n' := 19) F (by omega) (by omega) dX8_greedyNow_16 (by decide) rfl (fun c16_0 => ?_) (fun c16_0 => ?_)
      · refine j_iload_1 (n' := 125) F dX8_greedyNow_124 rfl ?_
        refine j_if_ne (t := 132) (n' := 128) F (by omega) dX8_greedyNow_125 (by decide) rfl (fun c125_1 => ?_) (fun c125_1 => ?_)
        · refine j_iload_3 (n' := 133) F dX8_greedyNow_132 rfl ?_
          exact j_ireturn F E dX8_greedyNow_133 (⟨rfl, by unfold greV; split <;> omega⟩)
        · refine j_iload_2 (n' := 129) F dX8_greedyNow_128 rfl ?_
          refine j_goto (t := 133) F dX8_greedyNow_129 (by decide) ?_
          exact j_ireturn F E dX8_greedyNow_133 (⟨rfl, by unfold greV; split <;> omega⟩)
      · omega
    | succ k ih =>
      intro p la a b h1 h2 h3 h4 h5 h6 h7
      rw [grF] at h6 h7
      by_cases hpn : p < φ 99 2
      · rw [if_pos hpn] at h6 h7
        have hcp := c5 p h2 hpn
        have hlb := lik_bd (φ 101) (φ 99 2) 8 p
        have hfb := far_bd (f := lik (φ 101) (φ 99 2) 8 p) (p := p) h2 (fun d => ⟨(hlb d).1, (hlb d).2.1⟩)
        have hfl := hlb (farOf' (lik (φ 101) (φ 99 2) 8 p) p).1
        have hfe := hfl.2.2 (by omega)
        refine j_iload_5 (n' := 12) F dX8_greedyNow_10 rfl ?_
        refine j_aload_0 (n' := 13) F dX8_greedyNow_12 rfl ?_
        refine j_getI (n' := 16) F 2 rfl fl_X8_92 kap_99 rfl dX8_greedyNow_13 rfl ?_
        refine j_icmp_ge (t := 124) (n' := 19) F (by omega) (by omega) dX8_greedyNow_16 (by decide) rfl (fun c16_0 => ?_) (fun c16_0 => ?_)
        · omega
        · refine j_aload_0 (n' := 20) F dX8_greedyNow_19 rfl ?_
          refine j_iload_5 (n' := 22) F dX8_greedyNow_20 rfl ?_
          refine j_cV1i (n' := 25) F kl_X8_112 (c_Mod_farLongest hc (by omega)) kap_99 rfl (by decide) (Nat.le_of_ble_eq_true rfl) dX8_greedyNow_22 rfl (fun z2 φ2 h2 => ?_)
          obtain ⟨rfl, rfl⟩ := h2
          refine j_istore_6 (n' := 27) F (by decide) jc_i dX8_greedyNow_25 rfl ?_
          refine j_iload_6 (n' := 29) F dX8_greedyNow_27 rfl ?_
          refine j_if_ne (t := 36) (n' := 32) F (by omega) dX8_greedyNow_29 (by decide) rfl (fun c29_2 => ?_) (fun c29_2 => ?_)
          · refine j_aload_0 (n' := 37) F dX8_greedyNow_36 rfl ?_
            refine j_iload_5 (n' := 39) F dX8_greedyNow_37 rfl ?_
            refine j_iload_6 (n' := 41) F dX8_greedyNow_39 rfl ?_
            refine j_aload_0 (n' := 42) F dX8_greedyNow_41 rfl ?_
            refine j_getI (n' := 45) F 2 rfl fl_X8_92 kap_99 rfl dX8_greedyNow_42 rfl ?_
            refine j_cV3i (n' := 48) F kl_X8_108 (c_Mod_likeness (by omega) (by omega) c5) kap_99 rfl (by decide) (Nat.le_of_ble_eq_true rfl) dX8_greedyNow_45 rfl (fun z4 φ4 h4 => ?_)
            obtain ⟨rfl, rfl⟩ := h4
            refine j_istore_7 (n' := 50) F (by decide) jc_i dX8_greedyNow_48 rfl ?_
            refine j_iload_2 (n' := 51) F dX8_greedyNow_50 rfl ?_
            refine j_iload_6 (n' := 53) F dX8_greedyNow_51 rfl ?_
            refine j_if_ne (t := 71) (n' := 56) F (by omega) dX8_greedyNow_53 (by decide) rfl (fun c53_4 => ?_) (fun c53_4 => ?_)
            · refine j_iload_6 (n' := 73) F dX8_greedyNow_71 rfl ?_
              refine j_iload_4 (n' := 75) F dX8_greedyNow_73 rfl ?_
              refine j_icmp_ne (t := 87) (n' := 78) F (by omega) (by omega) dX8_greedyNow_75 (by decide) rfl (fun c75_5 => ?_) (fun c75_5 => ?_)
              · refine j_aload_0 (n' := 88) F dX8_greedyNow_87 rfl ?_
                refine j_iload_6 (n' := 90) F dX8_greedyNow_88 rfl ?_
                refine j_iload_7 (n' := 92) F dX8_greedyNow_90 rfl ?_
                refine j_cV2i (n' := 95) F kl_X8_81 (c_Mod_copyPrice (by omega) (by omega)) kap_99 rfl (by decide) (Nat.le_of_ble_eq_true rfl) dX8_greedyNow_92 rfl (fun z7 φ7 h7 => ?_)
                obtain ⟨rfl, rfl⟩ := h7
                refine j_iadd (n' := 96) F dX8_greedyNow_95 rfl ?_
                refine j_istore_2 (n' := 97) F (by decide) jc_i dX8_greedyNow_96 rfl ?_
                refine j_iload_6 (n' := 99) F dX8_greedyNow_97 rfl ?_
                refine j_if_ne (t := 107) (n' := 102) F (by omega) dX8_greedyNow_99 (by decide) rfl (fun c99_7 => ?_) (fun c99_7 => ?_)
                · refine j_iload_6 (n' := 109) F dX8_greedyNow_107 rfl ?_
                  refine j_istore_4 (n' := 111) F (by decide) jc_i dX8_greedyNow_109 rfl ?_
                  refine j_iload_5 (n' := 113) F dX8_greedyNow_111 rfl ?_
                  refine j_iload_7 (n' := 115) F dX8_greedyNow_113 rfl ?_
                  refine j_iadd (n' := 116) F dX8_greedyNow_115 rfl ?_
                  refine j_istore_5 (n' := 118) F (by decide) jc_i dX8_greedyNow_116 rfl ?_
                  refine j_iinc_3 (n' := 121) F (by decide) jc_i dX8_greedyNow_118 rfl ?_
                  refine j_goto (t := 10) F dX8_greedyNow_121 (by decide) ?_
                  first
                    | (rw [if_pos (by omega), rwSum_cons, tkPrice_plain hcp] at h6
                       rw [if_pos (by omega), List.length_cons] at h7
                       exact j_weak (by exact ⟨rfl, rfl, rfl, rfl, rfl, rfl, trivial⟩) (ih (p + 1) la _ _ (by omega) (by omega) (by omega) (by omega) (by omega) (by omega) (by omega)))
                    | (rw [if_neg (by omega), if_pos (by omega), rwSum_cons] at h6
                       rw [if_neg (by omega), if_pos (by omega), List.length_cons] at h7
                       exact j_weak (by exact ⟨rfl, rfl, rfl, rfl, rfl, rfl, trivial⟩) (ih (p + lik (φ 101) (φ 99 2) 8 p (farOf' (lik (φ 101) (φ 99 2) 8 p) p).1) (farOf' (lik (φ 101) (φ 99 2) 8 p) p).1 _ _ (by omega) (by omega) (by omega) (by omega) (by omega) (by omega) (by omega)))
                    | (rw [if_neg (by omega), if_neg (by omega), rwSum_cons] at h6
                       rw [if_neg (by omega), if_neg (by omega), List.length_cons] at h7
                       exact j_weak (by exact ⟨rfl, rfl, rfl, rfl, rfl, rfl, trivial⟩) (ih (p + lik (φ 101) (φ 99 2) 8 p (farOf' (lik (φ 101) (φ 99 2) 8 p) p).1) (farOf' (lik (φ 101) (φ 99 2) 8 p) p).1 _ _ (by omega) (by omega) (by omega) (by omega) (by omega) (by omega) (by omega)))
                    | omega
                · omega
              · refine j_aload_0 (n' := 79) F dX8_greedyNow_78 rfl ?_
                refine j_iload_7 (n' := 81) F dX8_greedyNow_79 rfl ?_
                refine j_cV1i (n' := 84) F kl_X8_78 (c_Mod_againPrice (by omega)) kap_99 rfl (by decide) (Nat.le_of_ble_eq_true rfl) dX8_greedyNow_81 rfl (fun z9 φ9 h9 => ?_)
                obtain ⟨rfl, rfl⟩ := h9
                refine j_goto (t := 95) F dX8_greedyNow_84 (by decide) ?_
                refine j_iadd (n' := 96) F dX8_greedyNow_95 rfl ?_
                refine j_istore_2 (n' := 97) F (by decide) jc_i dX8_greedyNow_96 rfl ?_
                refine j_iload_6 (n' := 99) F dX8_greedyNow_97 rfl ?_
                refine j_if_ne (t := 107) (n' := 102) F (by omega) dX8_greedyNow_99 (by decide) rfl (fun c99_9 => ?_) (fun c99_9 => ?_)
                · refine j_iload_6 (n' := 109) F dX8_greedyNow_107 rfl ?_
                  refine j_istore_4 (n' := 111) F (by decide) jc_i dX8_greedyNow_109 rfl ?_
                  refine j_iload_5 (n' := 113) F dX8_greedyNow_111 rfl ?_
                  refine j_iload_7 (n' := 115) F dX8_greedyNow_113 rfl ?_
                  refine j_iadd (n' := 116) F dX8_greedyNow_115 rfl ?_
                  refine j_istore_5 (n' := 118) F (by decide) jc_i dX8_greedyNow_116 rfl ?_
                  refine j_iinc_3 (n' := 121) F (by decide) jc_i dX8_greedyNow_118 rfl ?_
                  refine j_goto (t := 10) F dX8_greedyNow_121 (by decide) ?_
                  first
                    | (rw [if_pos (by omega), rwSum_cons, tkPrice_plain hcp] at h6
                       rw [if_pos (by omega), List.length_cons] at h7
                       exact j_weak (by exact ⟨rfl, rfl, rfl, rfl, rfl, rfl, trivial⟩) (ih (p + 1) la _ _ (by omega) (by omega) (by omega) (by omega) (by omega) (by omega) (by omega)))
                    | (rw [if_neg (by omega), if_pos (by omega), rwSum_cons] at h6
                       rw [if_neg (by omega), if_pos (by omega), List.length_cons] at h7
                       exact j_weak (by exact ⟨rfl, rfl, rfl, rfl, rfl, rfl, trivial⟩) (ih (p + lik (φ 101) (φ 99 2) 8 p (farOf' (lik (φ 101) (φ 99 2) 8 p) p).1) (farOf' (lik (φ 101) (φ 99 2) 8 p) p).1 _ _ (by omega) (by omega) (by omega) (by omega) (by omega) (by omega) (by omega)))
                    | (rw [if_neg (by omega), if_neg (by omega), rwSum_cons] at h6
                       rw [if_neg (by omega), if_neg (by omega), List.length_cons] at h7
                       exact j_weak (by exact ⟨rfl, rfl, rfl, rfl, rfl, rfl, trivial⟩) (ih (p + lik (φ 101) (φ 99 2) 8 p (farOf' (lik (φ 101) (φ 99 2) 8 p) p).1) (farOf' (lik (φ 101) (φ 99 2) 8 p) p).1 _ _ (by omega) (by omega) (by omega) (by omega) (by omega) (by omega) (by omega)))
                    | omega
                · omega
            · omega
          · refine j_iconst (n' := 33) F dX8_greedyNow_32 rfl ?_
            refine j_goto (t := 48) F dX8_greedyNow_33 (by decide) ?_
            refine j_istore_7 (n' := 50) F (by decide) jc_i dX8_greedyNow_48 rfl ?_
            refine j_iload_2 (n' := 51) F dX8_greedyNow_50 rfl ?_
            refine j_iload_6 (n' := 53) F dX8_greedyNow_51 rfl ?_
            refine j_if_ne (t := 71) (n' := 56) F (by omega) dX8_greedyNow_53 (by decide) rfl (fun c53_10 => ?_) (fun c53_10 => ?_)
            · omega
            · refine j_aload_0 (n' := 57) F dX8_greedyNow_56 rfl ?_
              refine j_getR (n' := 60) F fl_X8_16 kap_99 rfl dX8_greedyNow_57 rfl ?_
              refine j_aload_0 (n' := 61) F dX8_greedyNow_60 rfl ?_
              refine j_getR (n' := 64) F fl_X8_13 kap_99 rfl dX8_greedyNow_61 rfl ?_
              refine j_iload_5 (n' := 66) F dX8_greedyNow_64 rfl ?_
              refine j_iald (n' := 67) F kap_101 (by decide) (by omega) dX8_greedyNow_66 rfl ?_
              refine j_iald (n' := 68) F kap_102 (by decide) (by omega) dX8_greedyNow_67 rfl ?_
              refine j_goto (t := 95) F dX8_greedyNow_68 (by decide) ?_
              refine j_iadd (n' := 96) F dX8_greedyNow_95 rfl ?_
              refine j_istore_2 (n' := 97) F (by decide) jc_i dX8_greedyNow_96 rfl ?_
              refine j_iload_6 (n' := 99) F dX8_greedyNow_97 rfl ?_
              refine j_if_ne (t := 107) (n' := 102) F (by omega) dX8_greedyNow_99 (by decide) rfl (fun c99_11 => ?_) (fun c99_11 => ?_)
              · omega
              · refine j_iload_4 (n' := 104) F dX8_greedyNow_102 rfl ?_
                refine j_goto (t := 109) F dX8_greedyNow_104 (by decide) ?_
                refine j_istore_4 (n' := 111) F (by decide) jc_i dX8_greedyNow_109 rfl ?_
                refine j_iload_5 (n' := 113) F dX8_greedyNow_111 rfl ?_
                refine j_iload_7 (n' := 115) F dX8_greedyNow_113 rfl ?_
                refine j_iadd (n' := 116) F dX8_greedyNow_115 rfl ?_
                refine j_istore_5 (n' := 118) F (by decide) jc_i dX8_greedyNow_116 rfl ?_
                refine j_iinc_3 (n' := 121) F (by decide) jc_i dX8_greedyNow_118 rfl ?_
                refine j_goto (t := 10) F dX8_greedyNow_121 (by decide) ?_
                first
                  | (rw [if_pos (by omega), rwSum_cons, tkPrice_plain hcp] at h6
                     rw [if_pos (by omega), List.length_cons] at h7
                     exact j_weak (by exact ⟨rfl, rfl, rfl, rfl, rfl, rfl, trivial⟩) (ih (p + 1) la _ _ (by omega) (by omega) (by omega) (by omega) (by omega) (by omega) (by omega)))
                  | (rw [if_neg (by omega), if_pos (by omega), rwSum_cons] at h6
                     rw [if_neg (by omega), if_pos (by omega), List.length_cons] at h7
                     exact j_weak (by exact ⟨rfl, rfl, rfl, rfl, rfl, rfl, trivial⟩) (ih (p + lik (φ 101) (φ 99 2) 8 p (farOf' (lik (φ 101) (φ 99 2) 8 p) p).1) (farOf' (lik (φ 101) (φ 99 2) 8 p) p).1 _ _ (by omega) (by omega) (by omega) (by omega) (by omega) (by omega) (by omega)))
                  | (rw [if_neg (by omega), if_neg (by omega), rwSum_cons] at h6
                     rw [if_neg (by omega), if_neg (by omega), List.length_cons] at h7
                     exact j_weak (by exact ⟨rfl, rfl, rfl, rfl, rfl, rfl, trivial⟩) (ih (p + lik (φ 101) (φ 99 2) 8 p (farOf' (lik (φ 101) (φ 99 2) 8 p) p).1) (farOf' (lik (φ 101) (φ 99 2) 8 p) p).1 _ _ (by omega) (by omega) (by omega) (by omega) (by omega) (by omega) (by omega)))
                  | omega
      · rw [if_neg hpn] at h6 h7
        have h8 : rwSum (tkPrice (φ 102)) [] = 0 := rfl
        rw [List.length_nil] at h7
        refine j_iload_5 (n' := 12) F dX8_greedyNow_10 rfl ?_
        refine j_aload_0 (n' := 13) F dX8_greedyNow_12 rfl ?_
        refine j_getI (n' := 16) F 2 rfl fl_X8_92 kap_99 rfl dX8_greedyNow_13 rfl ?_
        refine j_icmp_ge (t := 124) (n' := 19) F (by omega) (by omega) dX8_greedyNow_16 (by decide) rfl (fun c16_0 => ?_) (fun c16_0 => ?_)
        · refine j_iload_1 (n' := 125) F dX8_greedyNow_124 rfl ?_
          refine j_if_ne (t := 132) (n' := 128) F (by omega) dX8_greedyNow_125 (by decide) rfl (fun c125_1 => ?_) (fun c125_1 => ?_)
          · refine j_iload_3 (n' := 133) F dX8_greedyNow_132 rfl ?_
            exact j_ireturn F E dX8_greedyNow_133 (⟨rfl, by unfold greV; split <;> omega⟩)
          · refine j_iload_2 (n' := 129) F dX8_greedyNow_128 rfl ?_
            refine j_goto (t := 133) F dX8_greedyNow_129 (by decide) ?_
            exact j_ireturn F E dX8_greedyNow_133 (⟨rfl, by unfold greV; split <;> omega⟩)
        · omega
  refine j_iconst (n' := 1) F dX8_greedyNow_0 rfl ?_
  refine j_istore_2 (n' := 2) F (by decide) jc_i dX8_greedyNow_1 rfl ?_
  refine j_iconst (n' := 3) F dX8_greedyNow_2 rfl ?_
  refine j_istore_3 (n' := 4) F (by decide) jc_i dX8_greedyNow_3 rfl ?_
  refine j_iconst (n' := 5) F dX8_greedyNow_4 rfl ?_
  refine j_istore_4 (n' := 7) F (by decide) jc_i dX8_greedyNow_5 rfl ?_
  refine j_iconst (n' := 8) F dX8_greedyNow_7 rfl ?_
  refine j_istore_5 (n' := 10) F (by decide) jc_i dX8_greedyNow_8 rfl ?_
  exact loop 24 0 0 0 0 (by omega) (by omega) (by omega) (by omega) (by omega) (Int.zero_add _) (Int.zero_add _)
set_option maxRecDepth 20000 in
theorem c_Mod_greedy {l : Launch} {G : jG} {B0 : Nat} {φ : jPhi} {x : Int} (hc : miOk φ) (hx : -2147483648 ≤ x ∧ x ≤ 2147483647) : jC l G B0 κF 113 yX8_greedy cX8_greedy 2 (some .int) 3 [rf B0 99, iv x] φ mkI (fun z φ' => (z, pubM φ') = spGre (pubM φ) x ∧ miOk φ' ∧ frC (fun a => 99 ≤ a) φ φ') := by
  refine jC_start RX8 [some (rf B0 99), some (iv x)] (by decide) rfl (Nat.le_of_ble_eq_true rfl) rfl (fun X Q F E => ?_)
  have hc0 := hc
  obtain ⟨c1, c2, c3, c5, c6⟩ := hc0
  refine j_aload_0 (n' := 1) F dX8_greedy_0 rfl ?_
  refine j_getI (n' := 4) F 2 rfl fl_X8_92 kap_99 rfl dX8_greedy_1 rfl ?_
  refine j_if_ne (t := 11) (n' := 7) F (by first | omega | (split <;> omega)) dX8_greedy_4 (by decide) rfl (fun c4_0 => ?_) (fun c4_0 => ?_)
  · refine j_iload_1 (n' := 12) F dX8_greedy_11 rfl ?_
    refine j_iconst (n' := 13) F dX8_greedy_12 rfl ?_
    refine j_iconst (n' := 14) F dX8_greedy_13 rfl ?_
    refine j_cS3i (n' := 17) F kl_X8_49 (c_Mod_within hx (by omega) (by omega)) (by decide) (Nat.le_of_ble_eq_true rfl) dX8_greedy_14 rfl (fun z2 φ2 h2 => ?_)
    obtain ⟨rfl, rfl⟩ := h2
    refine j_if_eq (t := 28) (n' := 20) F (by first | omega | (split <;> omega)) dX8_greedy_17 (by decide) rfl (fun c17_2 => ?_) (fun c17_2 => ?_)
    · refine j_sipush (n' := 31) F dX8_greedy_28 (by decide) rfl ?_
      exact j_ireturn F E dX8_greedy_31 (⟨by unfold spGre pubM; dsimp only; rw [if_neg (by omega)]; first | (rw [if_neg (by split at * <;> omega)]; done) | (rw [if_pos (by split at * <;> omega)]; done), hc, frC.rf⟩)
    · refine j_aload_0 (n' := 21) F dX8_greedy_20 rfl ?_
      refine j_iload_1 (n' := 22) F dX8_greedy_21 rfl ?_
      refine j_cV1i (n' := 25) F kl_X8_151 (c_Mod_greedyNow hc (by split at * <;> omega)) kap_99 rfl (by decide) (Nat.le_of_ble_eq_true rfl) dX8_greedy_22 rfl (fun z4 φ4 h4 => ?_)
      obtain ⟨rfl, rfl⟩ := h4
      refine j_goto (t := 31) F dX8_greedy_25 (by decide) ?_
      exact j_ireturn F E dX8_greedy_31 (⟨by unfold spGre pubM; dsimp only; rw [if_neg (by omega)]; first | (rw [if_neg (by split at * <;> omega)]; done) | (rw [if_pos (by split at * <;> omega)]; done), hc, frC.rf⟩)
  · refine j_sipush (n' := 10) F dX8_greedy_7 (by decide) rfl ?_
    exact j_ireturn F E dX8_greedy_10 (⟨by unfold spGre pubM; dsimp only; rw [if_pos (by omega)], hc, frC.rf⟩)
set_option maxRecDepth 20000 in
theorem c_Mod_partsPrice {l : Launch} {G : jG} {B0 : Nat} {φ : jPhi} {x : Int} (hc : miOk φ) (hx : 1 ≤ x ∧ x ≤ 24) : jC l G B0 κF 113 yX8_partsPrice cX8_partsPrice 4 (some .int) 4 [rf B0 99, iv x] φ mkI (fun z φ' => frC (fun a => a = 104 ∨ a = 105 ∨ a = 106 ∨ a = 107) φ φ' ∧ z = ptR (φ 102) (φ 101) (φ 99 2) x) := by
  refine jC_start RX8 [some (rf B0 99), some (iv x), none, none] (by decide) rfl (Nat.le_of_ble_eq_true rfl) rfl (fun X Q F E => ?_)
  have hc0 := hc
  obtain ⟨c1, c2, c3, c5, c6⟩ := hc0
  have loop : ∀ (k : Nat) (f a : Int) (ψ : jPhi), φ 99 2 - f ≤ k → 0 ≤ f → f ≤ 48 → ptF (φ 102) (φ 101) (φ 99 2) x k f a = ptR (φ 102) (φ 101) (φ 99 2) x → frC (fun a => a = 104 ∨ a = 105 ∨ a = 106 ∨ a = 107) φ ψ → jJ X G B0 κF 113 0 0 Q 4 ψ 4 [some (rf B0 99), some (iv x), some (iv a), some (iv f)] [] := by
    intro k
    induction k with
    | zero =>
      intro f a ψ h1 h2 h3 h4 h5
      have v7 : ψ 99 2 = φ 99 2 := h5 99 2 (by omega)
      rw [ptF] at h4
      refine j_iload_3 (n' := 5) F dX8_partsPrice_4 rfl ?_
      refine j_aload_0 (n' := 6) F dX8_partsPrice_5 rfl ?_
      refine j_getI (n' := 9) F 2 rfl fl_X8_92 kap_99 rfl dX8_partsPrice_6 rfl ?_
      refine j_icmp_ge (t := 47) (n' := 12) F (by omega) (by omega) dX8_partsPrice_9 (by decide) rfl (fun c9_0 => ?_) (fun c9_0 => ?_)
      · refine j_iload_2 (n' := 48) F dX8_partsPrice_47 rfl ?_
        exact j_ireturn F E dX8_partsPrice_48 (⟨h5, h4⟩)
      · omega
    | succ k ih =>
      intro f a ψ h1 h2 h3 h4 h5
      have v7 : ψ 99 2 = φ 99 2 := h5 99 2 (by omega)
      have v8 : ψ 101 = φ 101 := funext fun b => h5 101 b (by omega)
      have v35 : ψ 102 = φ 102 := funext fun b => h5 102 b (by omega)
      have hmi : miOk ψ := hc.fr (h5 99 0 (by omega)) (h5 99 2 (by omega)) (fun a ha b => h5 a b (by omega))
      rw [ptF] at h4
      by_cases hfn : f < φ 99 2
      · rw [if_pos hfn] at h4
        refine j_iload_3 (n' := 5) F dX8_partsPrice_4 rfl ?_
        refine j_aload_0 (n' := 6) F dX8_partsPrice_5 rfl ?_
        refine j_getI (n' := 9) F 2 rfl fl_X8_92 kap_99 rfl dX8_partsPrice_6 rfl ?_
        refine j_icmp_ge (t := 47) (n' := 12) F (by omega) (by omega) dX8_partsPrice_9 (by decide) rfl (fun c9_0 => ?_) (fun c9_0 => ?_)
        · omega
        · refine j_iload_2 (n' := 13) F dX8_partsPrice_12 rfl ?_
          refine j_aload_0 (n' := 14) F dX8_partsPrice_13 rfl ?_
          refine j_iload_3 (n' := 15) F dX8_partsPrice_14 rfl ?_
          refine j_iload_3 (n' := 16) F dX8_partsPrice_15 rfl ?_
          refine j_iload_1 (n' := 17) F dX8_partsPrice_16 rfl ?_
          refine j_iadd (n' := 18) F dX8_partsPrice_17 rfl ?_
          refine j_aload_0 (n' := 19) F dX8_partsPrice_18 rfl ?_
          refine j_getI (n' := 22) F 2 rfl fl_X8_92 kap_99 rfl dX8_partsPrice_19 rfl ?_
          refine j_icmp_ge (t := 29) (n' := 25) F (by omega) (by omega) dX8_partsPrice_22 (by decide) rfl (fun c22_1 => ?_) (fun c22_1 => ?_)
          · refine j_aload_0 (n' := 30) F dX8_partsPrice_29 rfl ?_
            refine j_getI (n' := 33) F 2 rfl fl_X8_92 kap_99 rfl dX8_partsPrice_30 rfl ?_
            refine j_iload_3 (n' := 34) F dX8_partsPrice_33 rfl ?_
            refine j_isub (n' := 35) F dX8_partsPrice_34 rfl ?_
            refine j_cV2i (n' := 38) F kl_X8_130 (c_Mod_layCheapest hmi (by omega)) kap_99 rfl (by decide) (Nat.le_of_ble_eq_true rfl) dX8_partsPrice_35 rfl (fun z3 φ3 h3 => ?_)
            obtain ⟨q3, y2, y3, y4⟩ := h3
            rw [v8, v35] at q3
            subst q3
            refine j_iadd (n' := 39) F dX8_partsPrice_38 rfl ?_
            refine j_istore_2 (n' := 40) F (by decide) jc_i dX8_partsPrice_39 rfl ?_
            refine j_iload_3 (n' := 41) F dX8_partsPrice_40 rfl ?_
            refine j_iload_1 (n' := 42) F dX8_partsPrice_41 rfl ?_
            refine j_iadd (n' := 43) F dX8_partsPrice_42 rfl ?_
            refine j_istore_3 (n' := 44) F (by decide) jc_i dX8_partsPrice_43 rfl ?_
            refine j_goto (t := 4) F dX8_partsPrice_44 (by decide) ?_
            exact ih (f + x) _ φ3 (by omega) (by omega) (by omega) (by first | (rw [show min (f + x) (φ 99 2) = f + x by omega] at h4; exact h4) | (rw [show min (f + x) (φ 99 2) = f + (φ 99 2 - f) by omega] at h4; rw [v7]; exact h4)) (h5.tr y4)
          · refine j_iload_1 (n' := 26) F dX8_partsPrice_25 rfl ?_
            refine j_goto (t := 35) F dX8_partsPrice_26 (by decide) ?_
            refine j_cV2i (n' := 38) F kl_X8_130 (c_Mod_layCheapest hmi (by omega)) kap_99 rfl (by decide) (Nat.le_of_ble_eq_true rfl) dX8_partsPrice_35 rfl (fun z4 φ4 h4 => ?_)
            obtain ⟨q4, y2, y3, y4⟩ := h4
            rw [v8, v35] at q4
            subst q4
            refine j_iadd (n' := 39) F dX8_partsPrice_38 rfl ?_
            refine j_istore_2 (n' := 40) F (by decide) jc_i dX8_partsPrice_39 rfl ?_
            refine j_iload_3 (n' := 41) F dX8_partsPrice_40 rfl ?_
            refine j_iload_1 (n' := 42) F dX8_partsPrice_41 rfl ?_
            refine j_iadd (n' := 43) F dX8_partsPrice_42 rfl ?_
            refine j_istore_3 (n' := 44) F (by decide) jc_i dX8_partsPrice_43 rfl ?_
            refine j_goto (t := 4) F dX8_partsPrice_44 (by decide) ?_
            exact ih (f + x) _ φ4 (by omega) (by omega) (by omega) (by first | (rw [show min (f + x) (φ 99 2) = f + x by omega] at h4; exact h4) | (rw [show min (f + x) (φ 99 2) = f + (φ 99 2 - f) by omega] at h4; rw [v7]; exact h4)) (h5.tr y4)
      · rw [if_neg hfn] at h4
        refine j_iload_3 (n' := 5) F dX8_partsPrice_4 rfl ?_
        refine j_aload_0 (n' := 6) F dX8_partsPrice_5 rfl ?_
        refine j_getI (n' := 9) F 2 rfl fl_X8_92 kap_99 rfl dX8_partsPrice_6 rfl ?_
        refine j_icmp_ge (t := 47) (n' := 12) F (by omega) (by omega) dX8_partsPrice_9 (by decide) rfl (fun c9_0 => ?_) (fun c9_0 => ?_)
        · refine j_iload_2 (n' := 48) F dX8_partsPrice_47 rfl ?_
          exact j_ireturn F E dX8_partsPrice_48 (⟨h5, h4⟩)
        · omega
  refine j_iconst (n' := 1) F dX8_partsPrice_0 rfl ?_
  refine j_istore_2 (n' := 2) F (by decide) jc_i dX8_partsPrice_1 rfl ?_
  refine j_iconst (n' := 3) F dX8_partsPrice_2 rfl ?_
  refine j_istore_3 (n' := 4) F (by decide) jc_i dX8_partsPrice_3 rfl ?_
  exact loop 24 0 0 φ (by omega) (by omega) (by omega) rfl frC.rf
set_option maxRecDepth 20000 in
theorem c_Mod_partsNow {l : Launch} {G : jG} {B0 : Nat} {φ : jPhi} {x y : Int} (hc : miOk φ) (hx : 1 ≤ x ∧ x ≤ 24) (hy : 0 ≤ y ∧ y ≤ 2) (hn : 0 < φ 99 2) : jC l G B0 κF 113 yX8_partsNow cX8_partsNow 4 (some .int) 5 [rf B0 99, iv x, iv y] φ mkI (fun z φ' => frC (fun a => a = 104 ∨ a = 105 ∨ a = 106 ∨ a = 107) φ φ' ∧ z = parV (φ 102) (φ 101) (φ 99 2) x y) := by
  refine jC_start RX8 [some (rf B0 99), some (iv x), some (iv y), none] (by decide) rfl (Nat.le_of_ble_eq_true rfl) rfl (fun X Q F E => ?_)
  have hc0 := hc
  obtain ⟨c1, c2, c3, c5, c6⟩ := hc0
  refine j_iload_2 (n' := 1) F dX8_partsNow_0 rfl ?_
  refine j_iconst (n' := 2) F dX8_partsNow_1 rfl ?_
  refine j_icmp_ne (t := 16) (n' := 5) F (by omega) (by omega) dX8_partsNow_2 (by decide) rfl (fun c2_0 => ?_) (fun c2_0 => ?_)
  · refine j_aload_0 (n' := 17) F dX8_partsNow_16 rfl ?_
    refine j_iload_1 (n' := 18) F dX8_partsNow_17 rfl ?_
    refine j_cV1i (n' := 21) F kl_X8_154 (c_Mod_partsPrice hc hx) kap_99 rfl (by decide) (Nat.le_of_ble_eq_true rfl) dX8_partsNow_18 rfl (fun z2 φ2 h2 => ?_)
    obtain ⟨g4, rfl⟩ := h2
    have v7 : φ2 99 2 = φ 99 2 := g4 99 2 (by omega)
    have v8 : φ2 101 = φ 101 := funext fun b => g4 101 b (by omega)
    have v35 : φ2 102 = φ 102 := funext fun b => g4 102 b (by omega)
    have hmi : miOk φ2 := hc.fr (g4 99 0 (by omega)) (g4 99 2 (by omega)) (fun a ha b => g4 a b (by omega))
    refine j_istore_3 (n' := 22) F (by decide) jc_i dX8_partsNow_21 rfl ?_
    refine j_iload_2 (n' := 23) F dX8_partsNow_22 rfl ?_
    refine j_if_ne (t := 30) (n' := 26) F (by omega) dX8_partsNow_23 (by decide) rfl (fun c23_2 => ?_) (fun c23_2 => ?_)
    · refine j_iload_3 (n' := 31) F dX8_partsNow_30 rfl ?_
      refine j_aload_0 (n' := 32) F dX8_partsNow_31 rfl ?_
      refine j_iconst (n' := 33) F dX8_partsNow_32 rfl ?_
      refine j_aload_0 (n' := 34) F dX8_partsNow_33 rfl ?_
      refine j_getI (n' := 37) F 2 rfl fl_X8_92 kap_99 rfl dX8_partsNow_34 rfl ?_
      refine j_cV2i (n' := 40) F kl_X8_130 (c_Mod_layCheapest hmi (by omega)) kap_99 rfl (by decide) (Nat.le_of_ble_eq_true rfl) dX8_partsNow_37 rfl (fun z4 φ4 h4 => ?_)
      obtain ⟨q4, y2, y3, y4⟩ := h4
      rw [v8, v35, Int.zero_add, v7] at q4
      subst q4
      refine j_isub (n' := 41) F dX8_partsNow_40 rfl ?_
      exact j_ireturn F E dX8_partsNow_41 (⟨g4.tr y4, by unfold parV; rw [if_neg (by omega), if_neg (by omega)]⟩)
    · refine j_iload_3 (n' := 27) F dX8_partsNow_26 rfl ?_
      refine j_goto (t := 41) F dX8_partsNow_27 (by decide) ?_
      exact j_ireturn F E dX8_partsNow_41 (⟨g4, by unfold parV; rw [if_neg (by omega), if_pos (by omega)]⟩)
  · refine j_aload_0 (n' := 6) F dX8_partsNow_5 rfl ?_
    refine j_getI (n' := 9) F 2 rfl fl_X8_92 kap_99 rfl dX8_partsNow_6 rfl ?_
    refine j_iload_1 (n' := 10) F dX8_partsNow_9 rfl ?_
    refine j_iadd (n' := 11) F dX8_partsNow_10 rfl ?_
    refine j_iconst (n' := 12) F dX8_partsNow_11 rfl ?_
    refine j_isub (n' := 13) F dX8_partsNow_12 rfl ?_
    refine j_iload_1 (n' := 14) F dX8_partsNow_13 rfl ?_
    refine j_idiv (n' := 15) F (by omega) (by omega) dX8_partsNow_14 rfl ?_
    exact j_ireturn F E dX8_partsNow_15 (⟨frC.rf, by unfold parV; rw [if_pos (by omega)]⟩)
set_option maxRecDepth 20000 in
theorem c_Mod_parts {l : Launch} {G : jG} {B0 : Nat} {φ : jPhi} {x y : Int} (hc : miOk φ) (hx : -2147483648 ≤ x ∧ x ≤ 2147483647) (hy : -2147483648 ≤ y ∧ y ≤ 2147483647) : jC l G B0 κF 113 yX8_parts cX8_parts 3 (some .int) 6 [rf B0 99, iv x, iv y] φ mkI (fun z φ' => (z, pubM φ') = spPar (pubM φ) x y ∧ miOk φ' ∧ frC (fun a => 99 ≤ a) φ φ') := by
  refine jC_start RX8 [some (rf B0 99), some (iv x), some (iv y)] (by decide) rfl (Nat.le_of_ble_eq_true rfl) rfl (fun X Q F E => ?_)
  have hc0 := hc
  obtain ⟨c1, c2, c3, c5, c6⟩ := hc0
  refine j_aload_0 (n' := 1) F dX8_parts_0 rfl ?_
  refine j_getI (n' := 4) F 2 rfl fl_X8_92 kap_99 rfl dX8_parts_1 rfl ?_
  refine j_if_ne (t := 11) (n' := 7) F (by first | omega | (split <;> omega)) dX8_parts_4 (by decide) rfl (fun c4_0 => ?_) (fun c4_0 => ?_)
  · refine j_iload_1 (n' := 12) F dX8_parts_11 rfl ?_
    refine j_iconst (n' := 13) F dX8_parts_12 rfl ?_
    refine j_bipush (n' := 15) F dX8_parts_13 (by decide) rfl ?_
    refine j_cS3i (n' := 18) F kl_X8_49 (c_Mod_within hx (by omega) (by omega)) (by decide) (Nat.le_of_ble_eq_true rfl) dX8_parts_15 rfl (fun z2 φ2 h2 => ?_)
    obtain ⟨rfl, rfl⟩ := h2
    refine j_if_eq (t := 39) (n' := 21) F (by first | omega | (split <;> omega)) dX8_parts_18 (by decide) rfl (fun c18_2 => ?_) (fun c18_2 => ?_)
    · refine j_sipush (n' := 42) F dX8_parts_39 (by decide) rfl ?_
      exact j_ireturn F E dX8_parts_42 (⟨by unfold spPar pubM; dsimp only; rw [if_neg (by omega), if_pos (by split at * <;> omega)], hc, frC.rf⟩)
    · refine j_iload_2 (n' := 22) F dX8_parts_21 rfl ?_
      refine j_iconst (n' := 23) F dX8_parts_22 rfl ?_
      refine j_iconst (n' := 24) F dX8_parts_23 rfl ?_
      refine j_cS3i (n' := 27) F kl_X8_49 (c_Mod_within hy (by omega) (by omega)) (by decide) (Nat.le_of_ble_eq_true rfl) dX8_parts_24 rfl (fun z4 φ4 h4 => ?_)
      obtain ⟨rfl, rfl⟩ := h4
      refine j_if_eq (t := 39) (n' := 30) F (by first | omega | (split <;> omega)) dX8_parts_27 (by decide) rfl (fun c27_4 => ?_) (fun c27_4 => ?_)
      · refine j_sipush (n' := 42) F dX8_parts_39 (by decide) rfl ?_
        exact j_ireturn F E dX8_parts_42 (⟨by unfold spPar pubM; dsimp only; rw [if_neg (by omega), if_pos (by split at * <;> omega)], hc, frC.rf⟩)
      · refine j_aload_0 (n' := 31) F dX8_parts_30 rfl ?_
        refine j_iload_1 (n' := 32) F dX8_parts_31 rfl ?_
        refine j_iload_2 (n' := 33) F dX8_parts_32 rfl ?_
        refine j_cV2i (n' := 36) F kl_X8_157 (c_Mod_partsNow hc (by split at * <;> omega) (by split at * <;> omega) (by omega)) kap_99 rfl (by decide) (Nat.le_of_ble_eq_true rfl) dX8_parts_33 rfl (fun z6 φ6 h6 => ?_)
        obtain ⟨g4, rfl⟩ := h6
        refine j_goto (t := 42) F dX8_parts_36 (by decide) ?_
        refine j_ireturn F E dX8_parts_42 ?_
        refine ⟨?_, hc.fr (g4 99 0 (by omega)) (g4 99 2 (by omega)) (fun a ha b => g4 a b (by omega)), g4.wk (fun a h => by omega)⟩
        rw [pubM_fr (φ := φ) (fun a ha b => g4 a b (by omega)) (fun b hb => g4 99 b (by omega))]
        unfold spPar pubM
        dsimp only
        rw [if_neg (c := ¬ 0 < φ 99 2) (by omega), if_neg (c := ¬ ((1 ≤ x ∧ x ≤ 24) ∧ (0 ≤ y ∧ y ≤ 2))) (by split at * <;> omega)]
  · refine j_sipush (n' := 10) F dX8_parts_7 (by decide) rfl ?_
    exact j_ireturn F E dX8_parts_10 (⟨by unfold spPar pubM; dsimp only; rw [if_pos (by omega)], hc, frC.rf⟩)
