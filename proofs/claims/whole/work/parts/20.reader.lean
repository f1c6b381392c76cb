set_option maxRecDepth 20000 in
theorem c_Rea_make {l : Launch} {G : jG} {B0 : Nat} {φ : jPhi} {x : Int} {md : List Int} (hm : mdIs φ 3 4 2 md) (hl : md.length < 24) : jC l G B0 κF 113 yX1_make cX1_make 2 none 0 [rf B0 3, iv x] φ mkV (fun z φ' => mdIs φ' 3 4 2 (md ++ [x]) ∧ (∀ b, b ≠ 2 → φ' 3 b = φ 3 b) ∧ frC (fun a => a = 3 ∨ a = 4) φ φ') := by
  refine jC_start RX1 [some (rf B0 3), some (iv x)] (by decide) rfl (Nat.le_of_ble_eq_true rfl) rfl (fun X Q F E => ?_)
  have h1 := hm.1
  refine j_aload_0 (n' := 1) F dX1_make_0 rfl ?_
  refine j_getI (n' := 4) F 2 rfl fl_X1_22 kap_3 rfl dX1_make_1 rfl ?_
  refine j_bipush (n' := 6) F dX1_make_4 (by decide) rfl ?_
  refine j_icmp_lt (t := 10) (n' := 9) F (by omega) (by omega) dX1_make_6 (by decide) rfl (fun c6_0 => ?_) (fun c6_0 => ?_)
  · refine j_aload_0 (n' := 11) F dX1_make_10 rfl ?_
    refine j_getR (n' := 14) F fl_X1_9 kap_3 rfl dX1_make_11 rfl ?_
    refine j_aload_0 (n' := 15) F dX1_make_14 rfl ?_
    refine j_getI (n' := 18) F 2 rfl fl_X1_22 kap_3 rfl dX1_make_15 rfl ?_
    refine j_iload_1 (n' := 19) F dX1_make_18 rfl ?_
    refine j_iast (n' := 20) F kap_4 (by decide) (by omega) dX1_make_19 rfl (fun φ2 e2 => ?_)
    refine j_aload_0 (n' := 21) F dX1_make_20 rfl ?_
    refine j_dup (n' := 22) F rfl dX1_make_21 rfl ?_
    refine j_getI (n' := 25) F 2 rfl fl_X1_22 kap_3 rfl dX1_make_22 rfl ?_
    refine j_iconst (n' := 26) F dX1_make_25 rfl ?_
    refine j_iadd (n' := 27) F dX1_make_26 rfl ?_
    refine j_putI (n' := 30) F 2 rfl fp_X1_22 kap_3 rfl rfl dX1_make_27 rfl (fun φ3 e3 => ?_)
    exact j_return F E dX1_make_30 (⟨hm.push (by rw [e3, e2]; simp [zU]) (by rw [e3, e2]; simp [zU]) (fun b hb => by rw [e3, e2]; simp [zU, hb]), fun b hb => by rw [e3, e2]; simp [zU, hb], by rw [e3, e2]; exact (frC.rf.put (Or.inr rfl)).put (Or.inl rfl)⟩)
  · exact j_return F E dX1_make_9 (by omega)
set_option maxRecDepth 20000 in
theorem c_Rea_madeAt {l : Launch} {G : jG} {B0 : Nat} {φ : jPhi} {x : Int} (hs : 0 ≤ φ 3 2 ∧ φ 3 2 ≤ 24) (hx : -2147483648 ≤ x ∧ x ≤ 2147483647) : jC l G B0 κF 113 yX1_madeAt cX1_madeAt 2 (some .int) 0 [rf B0 3, iv x] φ mkI (fun z φ' => φ = φ' ∧ z = (if 0 ≤ x ∧ x < φ 3 2 then φ 4 x else 0)) := by
  refine jC_start RX1 [some (rf B0 3), some (iv x)] (by decide) rfl (Nat.le_of_ble_eq_true rfl) rfl (fun X Q F E => ?_)
  refine j_iload_1 (n' := 1) F dX1_madeAt_0 rfl ?_
  refine j_if_lt (t := 21) (n' := 4) F (by omega) dX1_madeAt_1 (by decide) rfl (fun c1_0 => ?_) (fun c1_0 => ?_)
  · refine j_iconst (n' := 22) F dX1_madeAt_21 rfl ?_
    exact j_ireturn F E dX1_madeAt_22 (⟨rfl, by first | rfl | omega | (simp; omega) | (split <;> omega)⟩)
  · refine j_iload_1 (n' := 5) F dX1_madeAt_4 rfl ?_
    refine j_aload_0 (n' := 6) F dX1_madeAt_5 rfl ?_
    refine j_getI (n' := 9) F 2 rfl fl_X1_22 kap_3 rfl dX1_madeAt_6 rfl ?_
    refine j_icmp_ge (t := 21) (n' := 12) F (by omega) (by omega) dX1_madeAt_9 (by decide) rfl (fun c9_1 => ?_) (fun c9_1 => ?_)
    · refine j_iconst (n' := 22) F dX1_madeAt_21 rfl ?_
      exact j_ireturn F E dX1_madeAt_22 (⟨rfl, by first | rfl | omega | (simp; omega) | (split <;> omega)⟩)
    · refine j_aload_0 (n' := 13) F dX1_madeAt_12 rfl ?_
      refine j_getR (n' := 16) F fl_X1_9 kap_3 rfl dX1_madeAt_13 rfl ?_
      refine j_iload_1 (n' := 17) F dX1_madeAt_16 rfl ?_
      refine j_iald (n' := 18) F kap_4 (by decide) (by omega) dX1_madeAt_17 rfl ?_
      refine j_goto (t := 22) F dX1_madeAt_18 (by decide) ?_
      exact j_ireturn F E dX1_madeAt_22 (⟨rfl, by first | rfl | omega | (simp; omega) | (split <;> omega)⟩)
set_option maxRecDepth 20000 in
theorem c_Rea_madeSize {l : Launch} {G : jG} {B0 : Nat} {φ : jPhi}   : jC l G B0 κF 113 yX1_madeSize cX1_madeSize 1 (some .int) 0 [rf B0 3] φ mkI (fun z φ' => φ = φ' ∧ z = φ 3 2) := by
  refine jC_start RX1 [some (rf B0 3)] (by decide) rfl (Nat.le_of_ble_eq_true rfl) rfl (fun X Q F E => ?_)
  refine j_aload_0 (n' := 1) F dX1_madeSize_0 rfl ?_
  refine j_getI (n' := 4) F 2 rfl fl_X1_22 kap_3 rfl dX1_madeSize_1 rfl ?_
  exact j_ireturn F E dX1_madeSize_4 (⟨rfl, by first | rfl | omega | (simp; omega) | (split <;> omega)⟩)
set_option maxRecDepth 20000 in
theorem c_Rea_faultPlace {l : Launch} {G : jG} {B0 : Nat} {φ : jPhi}   : jC l G B0 κF 113 yX1_faultPlace cX1_faultPlace 1 (some .int) 0 [rf B0 3] φ mkI (fun z φ' => φ = φ' ∧ z = φ 3 6) := by
  refine jC_start RX1 [some (rf B0 3)] (by decide) rfl (Nat.le_of_ble_eq_true rfl) rfl (fun X Q F E => ?_)
  refine j_aload_0 (n' := 1) F dX1_faultPlace_0 rfl ?_
  refine j_getI (n' := 4) F 6 rfl fl_X1_36 kap_3 rfl dX1_faultPlace_1 rfl ?_
  exact j_ireturn F E dX1_faultPlace_4 (⟨rfl, by first | rfl | omega | (simp; omega) | (split <;> omega)⟩)
set_option maxRecDepth 20000 in
theorem c_Rea_tokens {l : Launch} {G : jG} {B0 : Nat} {φ : jPhi}   : jC l G B0 κF 113 yX1_tokens cX1_tokens 1 (some (.object "PricedCopies$TokenRow")) 0 [rf B0 3] φ (mkR B0) (fun z φ' => φ = φ' ∧ z = 5) := by
  refine jC_start RX1 [some (rf B0 3)] (by decide) rfl (Nat.le_of_ble_eq_true rfl) rfl (fun X Q F E => ?_)
  refine j_aload_0 (n' := 1) F dX1_tokens_0 rfl ?_
  refine j_getR (n' := 4) F fl_X1_18 kap_3 rfl dX1_tokens_1 rfl ?_
  exact j_areturn F E dX1_tokens_4 (⟨rfl, rfl⟩)
set_option maxRecDepth 20000 in
theorem c_Rea_isCode {l : Launch} {G : jG} {B0 : Nat} {φ : jPhi}  (h5 : 0 ≤ φ 5 1 ∧ φ 5 1 ≤ 24) (h4 : 0 ≤ φ 3 4 ∧ φ 3 4 ≤ 24) (h7 : 0 ≤ φ 3 7 ∧ φ 3 7 ≤ 1) : jC l G B0 κF 113 yX1_isCode cX1_isCode 1 (some .boolean) 1 [rf B0 3] φ mkI (fun z φ' => φ = φ' ∧ z = (if φ 3 7 ≠ 0 ∧ φ 3 4 = 0 ∧ 0 < φ 5 1 then 1 else 0)) := by
  refine jC_start RX1 [some (rf B0 3)] (by decide) rfl (Nat.le_of_ble_eq_true rfl) rfl (fun X Q F E => ?_)
  refine j_aload_0 (n' := 1) F dX1_isCode_0 rfl ?_
  refine j_getI (n' := 4) F 7 rfl fl_X1_39 kap_3 rfl dX1_isCode_1 rfl ?_
  refine j_if_eq (t := 28) (n' := 7) F (by omega) dX1_isCode_4 (by decide) rfl (fun c4_0 => ?_) (fun c4_0 => ?_)
  · refine j_iconst (n' := 29) F dX1_isCode_28 rfl ?_
    exact j_zreturn F E (by omega) dX1_isCode_29 (⟨rfl, by first | rw [if_neg (by omega)] | rw [if_pos (by omega)]⟩)
  · refine j_aload_0 (n' := 8) F dX1_isCode_7 rfl ?_
    refine j_getI (n' := 11) F 4 rfl fl_X1_29 kap_3 rfl dX1_isCode_8 rfl ?_
    refine j_if_ne (t := 28) (n' := 14) F (by omega) dX1_isCode_11 (by decide) rfl (fun c11_1 => ?_) (fun c11_1 => ?_)
    · refine j_iconst (n' := 29) F dX1_isCode_28 rfl ?_
      exact j_zreturn F E (by omega) dX1_isCode_29 (⟨rfl, by first | rw [if_neg (by omega)] | rw [if_pos (by omega)]⟩)
    · refine j_aload_0 (n' := 15) F dX1_isCode_14 rfl ?_
      refine j_getR (n' := 18) F fl_X1_18 kap_3 rfl dX1_isCode_15 rfl ?_
      refine j_cV0i (n' := 21) F kl_X1_59 (c_Row_size kap_5) kap_5 rfl (by decide) (Nat.le_of_ble_eq_true rfl) dX1_isCode_18 rfl (fun z3 φ3 h3 => ?_)
      obtain ⟨rfl, rfl⟩ := h3
      refine j_if_le (t := 28) (n' := 24) F (by omega) dX1_isCode_21 (by decide) rfl (fun c21_3 => ?_) (fun c21_3 => ?_)
      · refine j_iconst (n' := 29) F dX1_isCode_28 rfl ?_
        exact j_zreturn F E (by omega) dX1_isCode_29 (⟨rfl, by first | rw [if_neg (by omega)] | rw [if_pos (by omega)]⟩)
      · refine j_iconst (n' := 25) F dX1_isCode_24 rfl ?_
        refine j_goto (t := 29) F dX1_isCode_25 (by decide) ?_
        exact j_zreturn F E (by omega) dX1_isCode_29 (⟨rfl, by first | rw [if_neg (by omega)] | rw [if_pos (by omega)]⟩)
set_option maxRecDepth 20000 in
theorem c_Rea_opens {l : Launch} {G : jG} {B0 : Nat} {φ : jPhi} {x : Int} (hs : 0 ≤ φ 3 2 ∧ φ 3 2 ≤ 24) (hx : -2147483648 ≤ x ∧ x ≤ 2147483647) : jC l G B0 κF 113 yX1_opens cX1_opens 2 (some .boolean) 0 [rf B0 3, iv x] φ mkI (fun z φ' => (z = 0 ∨ z = 1) ∧ ((1 ≤ x ∧ x ≤ φ 3 2) → z = 1 ∧ φ' = zU φ 3 4 x) ∧ (¬ (1 ≤ x ∧ x ≤ φ 3 2) → z = 0 ∧ φ' = φ)) := by
  refine jC_start RX1 [some (rf B0 3), some (iv x)] (by decide) rfl (Nat.le_of_ble_eq_true rfl) rfl (fun X Q F E => ?_)
  refine j_iload_1 (n' := 1) F dX1_opens_0 rfl ?_
  refine j_iconst (n' := 2) F dX1_opens_1 rfl ?_
  refine j_icmp_lt (t := 19) (n' := 5) F (by omega) (by omega) dX1_opens_2 (by decide) rfl (fun c2_0 => ?_) (fun c2_0 => ?_)
  · refine j_iconst (n' := 20) F dX1_opens_19 rfl ?_
    exact j_zreturn F E (by omega) dX1_opens_20 (⟨Or.inl rfl, fun h => by omega, fun h => ⟨rfl, rfl⟩⟩)
  · refine j_iload_1 (n' := 6) F dX1_opens_5 rfl ?_
    refine j_bipush (n' := 8) F dX1_opens_6 (by decide) rfl ?_
    refine j_icmp_gt (t := 19) (n' := 11) F (by omega) (by omega) dX1_opens_8 (by decide) rfl (fun c8_1 => ?_) (fun c8_1 => ?_)
    · refine j_iconst (n' := 20) F dX1_opens_19 rfl ?_
      exact j_zreturn F E (by omega) dX1_opens_20 (⟨Or.inl rfl, fun h => by omega, fun h => ⟨rfl, rfl⟩⟩)
    · refine j_iload_1 (n' := 12) F dX1_opens_11 rfl ?_
      refine j_aload_0 (n' := 13) F dX1_opens_12 rfl ?_
      refine j_getI (n' := 16) F 2 rfl fl_X1_22 kap_3 rfl dX1_opens_13 rfl ?_
      refine j_icmp_le (t := 21) (n' := 19) F (by omega) (by omega) dX1_opens_16 (by decide) rfl (fun c16_2 => ?_) (fun c16_2 => ?_)
      · refine j_aload_0 (n' := 22) F dX1_opens_21 rfl ?_
        refine j_iload_1 (n' := 23) F dX1_opens_22 rfl ?_
        refine j_putI (n' := 26) F 4 rfl fp_X1_29 kap_3 rfl rfl dX1_opens_23 rfl (fun φ4 e4 => ?_)
        refine j_iconst (n' := 27) F dX1_opens_26 rfl ?_
        exact j_zreturn F E (by omega) dX1_opens_27 (⟨Or.inr rfl, fun h => ⟨rfl, e4⟩, fun h => by omega⟩)
      · refine j_iconst (n' := 20) F dX1_opens_19 rfl ?_
        exact j_zreturn F E (by omega) dX1_opens_20 (⟨Or.inl rfl, fun h => by omega, fun h => ⟨rfl, rfl⟩⟩)
set_option maxRecDepth 20000 in
theorem c_Rea_takesLetter {l : Launch} {G : jG} {B0 : Nat} {φ : jPhi} {x : Int} {md ts : List Int} (hm : mdIs φ 3 4 2 md) (hr : rowIs φ 5 6 ts) (hts : ts.length ≤ md.length) (hml : md.length ≤ 24) (hx : 0 ≤ x ∧ x ≤ 3) : jC l G B0 κF 113 yX1_takesLetter cX1_takesLetter 2 (some .boolean) 2 [rf B0 3, iv x] φ mkI (fun z φ' => (z = 0 ∨ z = 1) ∧ (md.length < 24 → z = 1 ∧ mdIs φ' 3 4 2 (md ++ [x]) ∧ rowIs φ' 5 6 (ts ++ [x])) ∧ (¬ md.length < 24 → z = 0 ∧ mdIs φ' 3 4 2 md ∧ rowIs φ' 5 6 ts) ∧ (∀ b, b ≠ 2 → φ' 3 b = φ 3 b) ∧ frC (fun a => a = 3 ∨ a = 4 ∨ a = 5 ∨ a = 6) φ φ') := by
  refine jC_start RX1 [some (rf B0 3), some (iv x)] (by decide) rfl (Nat.le_of_ble_eq_true rfl) rfl (fun X Q F E => ?_)
  have h1 := hm.1
  refine j_aload_0 (n' := 1) F dX1_takesLetter_0 rfl ?_
  refine j_getI (n' := 4) F 2 rfl fl_X1_22 kap_3 rfl dX1_takesLetter_1 rfl ?_
  refine j_bipush (n' := 6) F dX1_takesLetter_4 (by decide) rfl ?_
  refine j_icmp_lt (t := 11) (n' := 9) F (by omega) (by omega) dX1_takesLetter_6 (by decide) rfl (fun c6_0 => ?_) (fun c6_0 => ?_)
  · refine j_aload_0 (n' := 12) F dX1_takesLetter_11 rfl ?_
    refine j_iload_1 (n' := 13) F dX1_takesLetter_12 rfl ?_
    refine j_cV1v (n' := 16) F kl_X1_69 (c_Rea_make hm (by omega)) kap_3 rfl (by decide) (Nat.le_of_ble_eq_true rfl) dX1_takesLetter_13 rfl (fun z2 φ2 h2 => ?_)
    obtain ⟨hmA, hgA, hfA⟩ := h2
    refine j_aload_0 (n' := 17) F dX1_takesLetter_16 rfl ?_
    refine j_getR (n' := 20) F fl_X1_18 kap_3 rfl dX1_takesLetter_17 rfl ?_
    refine j_iload_1 (n' := 21) F dX1_takesLetter_20 rfl ?_
    refine j_cV1v (n' := 24) F kl_X1_73 (c_Row_add kap_5 kap_6 (by decide) (hr.fr (fun b => hfA 5 b (by omega)) (fun b => hfA 6 b (by omega))) (by omega) (by omega)) kap_5 rfl (by decide) (Nat.le_of_ble_eq_true rfl) dX1_takesLetter_21 rfl (fun z3 φ3 h3 => ?_)
    obtain ⟨hrB, hfB⟩ := h3
    refine j_iconst (n' := 25) F dX1_takesLetter_24 rfl ?_
    exact j_zreturn F E (by omega) dX1_takesLetter_25 (⟨Or.inr rfl, fun _ => ⟨rfl, hmA.fr (hfB 3 2 (by omega)) (fun b => hfB 4 b (by omega)), hrB⟩, fun h => by omega, fun b hb => (hfB 3 b (by omega)).trans (hgA b hb), (hfA.wk (fun a h => by omega)).tr (hfB.wk (fun a h => by omega))⟩)
  · refine j_iconst (n' := 10) F dX1_takesLetter_9 rfl ?_
    exact j_zreturn F E (by omega) dX1_takesLetter_10 (⟨Or.inl rfl, fun h => by omega, fun _ => ⟨rfl, hm, hr⟩, fun _ _ => rfl, frC.rf⟩)
set_option maxRecDepth 20000 in
theorem c_Rea_takesFigure {l : Launch} {G : jG} {B0 : Nat} {φ : jPhi} {x : Int} {md ts : List Int} (hm : mdIs φ 3 4 2 md) (hr : rowIs φ 5 6 ts) (hts : ts.length ≤ md.length) (hml : md.length ≤ 24) (hx : -2147483648 ≤ x ∧ x ≤ 2147483647) (hd : 1 ≤ φ 3 4 ∧ φ 3 4 ≤ md.length) (ha : φ 3 5 = 0 ∨ φ 3 5 = 1) : jC l G B0 κF 113 yX1_takesFigure cX1_takesFigure 3 (some .boolean) 2 [rf B0 3, iv x] φ mkI (fun z φ' => (z = 0 ∨ z = 1) ∧ ((2 ≤ x ∧ x ≤ 8 ∧ md.length + x ≤ 24) → z = 1 ∧ mdIs φ' 3 4 2 (cpN md (φ 3 4) x.toNat) ∧ rowIs φ' 5 6 (ts ++ [(if φ 3 5 = 0 then 1000 + 10 * φ 3 4 + x else 100 + x)]) ∧ φ' 3 3 = φ 3 4 ∧ φ' 3 4 = 0) ∧ (¬ (2 ≤ x ∧ x ≤ 8 ∧ md.length + x ≤ 24) → z = 0 ∧ φ' = φ) ∧ (∀ b, 5 ≤ b → φ' 3 b = φ 3 b) ∧ frC (fun a => a = 3 ∨ a = 4 ∨ a = 5 ∨ a = 6) φ φ') := by
  refine jC_start RX1 [some (rf B0 3), some (iv x), none] (by decide) rfl (Nat.le_of_ble_eq_true rfl) rfl (fun X Q F E => ?_)
  have h1 := hm.1
  have loop : ∀ (m : Nat) (i : Int) (mc : List Int) (ψ : jPhi), (2 ≤ x ∧ x ≤ 8 ∧ md.length + x ≤ 24) → i + m = x → 0 ≤ i → (mc.length : Int) = md.length + i → mdIs ψ 3 4 2 mc → cpN mc (φ 3 4) m = cpN md (φ 3 4) x.toNat → rowIs ψ 5 6 (ts ++ [(if φ 3 5 = 0 then 1000 + 10 * φ 3 4 + x else 100 + x)]) → (∀ b, b ≠ 2 → ψ 3 b = φ 3 b) → frC (fun a => a = 3 ∨ a = 4 ∨ a = 5 ∨ a = 6) φ ψ → jJ X G B0 κF 113 0 0 Q 3 ψ 55 [some (rf B0 3), some (iv x), some (iv i)] [] := by
    intro m
    induction m with
    | zero =>
      intro i mc ψ g1 g2 g3 g4 g5 g6 g7 g8 g9
      have u4 := g8 4 (by omega)
      refine j_iload_2 (n' := 56) F dX1_takesFigure_55 rfl ?_
      refine j_iload_1 (n' := 57) F dX1_takesFigure_56 rfl ?_
      refine j_icmp_ge (t := 83) (n' := 60) F (by omega) (by omega) dX1_takesFigure_57 (by decide) rfl (fun c57_0 => ?_) (fun c57_0 => ?_)
      · refine j_aload_0 (n' := 84) F dX1_takesFigure_83 rfl ?_
        refine j_aload_0 (n' := 85) F dX1_takesFigure_84 rfl ?_
        refine j_getI (n' := 88) F 4 rfl fl_X1_29 kap_3 rfl dX1_takesFigure_85 rfl ?_
        refine j_putI (n' := 91) F 3 rfl fp_X1_26 kap_3 rfl rfl dX1_takesFigure_88 rfl (fun φ2 e2 => ?_)
        refine j_aload_0 (n' := 92) F dX1_takesFigure_91 rfl ?_
        refine j_iconst (n' := 93) F dX1_takesFigure_92 rfl ?_
        refine j_putI (n' := 96) F 4 rfl fp_X1_29 kap_3 rfl rfl dX1_takesFigure_93 rfl (fun φ3 e3 => ?_)
        refine j_iconst (n' := 97) F dX1_takesFigure_96 rfl ?_
        refine j_zreturn F E (by omega) dX1_takesFigure_97 ?_
        have q2 : mdIs φ3 3 4 2 mc := g5.fr (by rw [e3, e2]; simp [zU]) (fun b => by rw [e3, e2]; simp [zU])
        rw [cpN] at g6
        rw [g6] at q2
        exact ⟨Or.inr rfl, fun _ => ⟨rfl, q2, g7.fr (fun b => by rw [e3, e2]; simp [zU]) (fun b => by rw [e3, e2]; simp [zU]), by rw [e3, e2]; simp [zU, u4], by rw [e3, e2]; simp [zU]⟩, fun h => absurd g1 h, fun b hb => by rw [e3, e2, zU_ne (by omega), zU_ne (by omega)]; exact g8 b (by omega), by rw [e3, e2]; exact (g9.put (by omega)).put (by omega)⟩
      · omega
    | succ m ih =>
      intro i mc ψ g1 g2 g3 g4 g5 g6 g7 g8 g9
      have u4 := g8 4 (by omega)
      have u2 := g5.1
      rw [cpN] at g6
      refine j_iload_2 (n' := 56) F dX1_takesFigure_55 rfl ?_
      refine j_iload_1 (n' := 57) F dX1_takesFigure_56 rfl ?_
      refine j_icmp_ge (t := 83) (n' := 60) F (by omega) (by omega) dX1_takesFigure_57 (by decide) rfl (fun c57_0 => ?_) (fun c57_0 => ?_)
      · omega
      · refine j_aload_0 (n' := 61) F dX1_takesFigure_60 rfl ?_
        refine j_aload_0 (n' := 62) F dX1_takesFigure_61 rfl ?_
        refine j_aload_0 (n' := 63) F dX1_takesFigure_62 rfl ?_
        refine j_getI (n' := 66) F 2 rfl fl_X1_22 kap_3 rfl dX1_takesFigure_63 rfl ?_
        refine j_aload_0 (n' := 67) F dX1_takesFigure_66 rfl ?_
        refine j_getI (n' := 70) F 4 rfl fl_X1_29 kap_3 rfl dX1_takesFigure_67 rfl ?_
        refine j_isub (n' := 71) F dX1_takesFigure_70 rfl ?_
        refine j_cV1i (n' := 74) F kl_X1_85 (c_Rea_madeAt (by omega) (by omega)) kap_3 rfl (by decide) (Nat.le_of_ble_eq_true rfl) dX1_takesFigure_71 rfl (fun z2 φ2 h2 => ?_)
        obtain ⟨rfl, rfl⟩ := h2
        rw [if_pos (by omega), g5.at (by omega) (by omega), u2, u4]
        refine j_cV1v (n' := 77) F kl_X1_69 (c_Rea_make g5 (by omega)) kap_3 rfl (by decide) (Nat.le_of_ble_eq_true rfl) dX1_takesFigure_74 rfl (fun z3 φ3 h3 => ?_)
        obtain ⟨hm3, hg3, hf3⟩ := h3
        refine j_iinc_2 (n' := 80) F (by decide) jc_i dX1_takesFigure_77 rfl ?_
        refine j_goto (t := 55) F dX1_takesFigure_80 (by decide) ?_
        refine ih (i + 1) _ φ3 g1 (by omega) (by omega) (by simp; omega) hm3 g6 (g7.fr (fun b => hf3 5 b (by omega)) (fun b => hf3 6 b (by omega))) (fun b hb => (hg3 b hb).trans (g8 b hb)) (g9.tr (hf3.wk (fun a h => by omega)))
  refine j_iload_1 (n' := 1) F dX1_takesFigure_0 rfl ?_
  refine j_iconst (n' := 2) F dX1_takesFigure_1 rfl ?_
  refine j_icmp_lt (t := 22) (n' := 5) F (by omega) (by omega) dX1_takesFigure_2 (by decide) rfl (fun c2_0 => ?_) (fun c2_0 => ?_)
  · refine j_iconst (n' := 23) F dX1_takesFigure_22 rfl ?_
    exact j_zreturn F E (by omega) dX1_takesFigure_23 (⟨Or.inl rfl, fun h => by omega, fun _ => ⟨rfl, rfl⟩, fun _ _ => rfl, frC.rf⟩)
  · refine j_iload_1 (n' := 6) F dX1_takesFigure_5 rfl ?_
    refine j_bipush (n' := 8) F dX1_takesFigure_6 (by decide) rfl ?_
    refine j_icmp_gt (t := 22) (n' := 11) F (by omega) (by omega) dX1_takesFigure_8 (by decide) rfl (fun c8_1 => ?_) (fun c8_1 => ?_)
    · refine j_iconst (n' := 23) F dX1_takesFigure_22 rfl ?_
      exact j_zreturn F E (by omega) dX1_takesFigure_23 (⟨Or.inl rfl, fun h => by omega, fun _ => ⟨rfl, rfl⟩, fun _ _ => rfl, frC.rf⟩)
    · refine j_aload_0 (n' := 12) F dX1_takesFigure_11 rfl ?_
      refine j_getI (n' := 15) F 2 rfl fl_X1_22 kap_3 rfl dX1_takesFigure_12 rfl ?_
      refine j_iload_1 (n' := 16) F dX1_takesFigure_15 rfl ?_
      refine j_iadd (n' := 17) F dX1_takesFigure_16 rfl ?_
      refine j_bipush (n' := 19) F dX1_takesFigure_17 (by decide) rfl ?_
      refine j_icmp_le (t := 24) (n' := 22) F (by omega) (by omega) dX1_takesFigure_19 (by decide) rfl (fun c19_2 => ?_) (fun c19_2 => ?_)
      · refine j_aload_0 (n' := 25) F dX1_takesFigure_24 rfl ?_
        refine j_getR (n' := 28) F fl_X1_18 kap_3 rfl dX1_takesFigure_25 rfl ?_
        refine j_aload_0 (n' := 29) F dX1_takesFigure_28 rfl ?_
        refine j_getI (n' := 32) F 5 rfl fl_X1_32 kap_3 rfl dX1_takesFigure_29 rfl ?_
        refine j_if_eq (t := 42) (n' := 35) F (by omega) dX1_takesFigure_32 (by decide) rfl (fun c32_3 => ?_) (fun c32_3 => ?_)
        · refine j_aload_0 (n' := 43) F dX1_takesFigure_42 rfl ?_
          refine j_getI (n' := 46) F 4 rfl fl_X1_29 kap_3 rfl dX1_takesFigure_43 rfl ?_
          refine j_iload_1 (n' := 47) F dX1_takesFigure_46 rfl ?_
          refine j_cS2i (n' := 50) F kl_X1_81 (c_Tok_copy) (by decide) (Nat.le_of_ble_eq_true rfl) dX1_takesFigure_47 rfl (fun z5 φ5 h5 => ?_)
          obtain ⟨rfl, rfl⟩ := h5
          refine j_cV1v (n' := 53) F kl_X1_73 (c_Row_add kap_5 kap_6 (by decide) hr (by omega) (by omega)) kap_5 rfl (by decide) (Nat.le_of_ble_eq_true rfl) dX1_takesFigure_50 rfl (fun z6 φ6 h6 => ?_)
          obtain ⟨hr6, hf6⟩ := h6
          refine j_iconst (n' := 54) F dX1_takesFigure_53 rfl ?_
          refine j_istore_2 (n' := 55) F (by decide) jc_i dX1_takesFigure_54 rfl ?_
          exact loop x.toNat 0 md φ6 (by omega) (by omega) (by omega) (by omega) (hm.fr (hf6 3 2 (by omega)) (fun b => hf6 4 b (by omega))) rfl (by first | (rw [if_pos (by omega)]; exact hr6) | (rw [if_neg (by omega)]; exact hr6)) (fun b hb => hf6 3 b (by omega)) (hf6.wk (fun a h => by omega))
        · refine j_iload_1 (n' := 36) F dX1_takesFigure_35 rfl ?_
          refine j_cS1i (n' := 39) F kl_X1_76 (c_Tok_again) (by decide) (Nat.le_of_ble_eq_true rfl) dX1_takesFigure_36 rfl (fun z7 φ7 h7 => ?_)
          obtain ⟨rfl, rfl⟩ := h7
          refine j_goto (t := 50) F dX1_takesFigure_39 (by decide) ?_
          refine j_cV1v (n' := 53) F kl_X1_73 (c_Row_add kap_5 kap_6 (by decide) hr (by omega) (by omega)) kap_5 rfl (by decide) (Nat.le_of_ble_eq_true rfl) dX1_takesFigure_50 rfl (fun z8 φ8 h8 => ?_)
          obtain ⟨hr8, hf8⟩ := h8
          refine j_iconst (n' := 54) F dX1_takesFigure_53 rfl ?_
          refine j_istore_2 (n' := 55) F (by decide) jc_i dX1_takesFigure_54 rfl ?_
          exact loop x.toNat 0 md φ8 (by omega) (by omega) (by omega) (by omega) (hm.fr (hf8 3 2 (by omega)) (fun b => hf8 4 b (by omega))) rfl (by first | (rw [if_pos (by omega)]; exact hr8) | (rw [if_neg (by omega)]; exact hr8)) (fun b hb => hf8 3 b (by omega)) (hf8.wk (fun a h => by omega))
      · refine j_iconst (n' := 23) F dX1_takesFigure_22 rfl ?_
        exact j_zreturn F E (by omega) dX1_takesFigure_23 (⟨Or.inl rfl, fun h => by omega, fun _ => ⟨rfl, rfl⟩, fun _ _ => rfl, frC.rf⟩)
set_option maxRecDepth 20000 in
theorem c_Rea_takes_fig {l : Launch} {G : jG} {B0 : Nat} {φ : jPhi} {x : Int} {md ts : List Int} (hm : mdIs φ 3 4 2 md) (hr : rowIs φ 5 6 ts) (hts : ts.length ≤ md.length) (hml : md.length ≤ 24) (hc : 32 ≤ x ∧ x ≤ 126) (hd : 1 ≤ φ 3 4 ∧ φ 3 4 ≤ md.length) (ha : φ 3 5 = 0 ∨ φ 3 5 = 1) : jC l G B0 κF 113 yX1_takes cX1_takes 3 (some .boolean) 3 [rf B0 3, iv x] φ mkI (fun z φ' => (z = 0 ∨ z = 1) ∧ ((2 ≤ (x - 48) ∧ (x - 48) ≤ 8 ∧ md.length + (x - 48) ≤ 24) → z = 1 ∧ mdIs φ' 3 4 2 (cpN md (φ 3 4) (x - 48).toNat) ∧ rowIs φ' 5 6 (ts ++ [(if φ 3 5 = 0 then 1000 + 10 * φ 3 4 + (x - 48) else 100 + (x - 48))]) ∧ φ' 3 3 = φ 3 4 ∧ φ' 3 4 = 0) ∧ (¬ (2 ≤ (x - 48) ∧ (x - 48) ≤ 8 ∧ md.length + (x - 48) ≤ 24) → z = 0 ∧ φ' = φ) ∧ (∀ b, 5 ≤ b → φ' 3 b = φ 3 b) ∧ frC (fun a => a = 3 ∨ a = 4 ∨ a = 5 ∨ a = 6) φ φ') := by
  refine jC_start RX1 [some (rf B0 3), some (iv x), none] (by decide) rfl (Nat.le_of_ble_eq_true rfl) rfl (fun X Q F E => ?_)
  refine j_aload_0 (n' := 1) F dX1_takes_0 rfl ?_
  refine j_getI (n' := 4) F 4 rfl fl_X1_29 kap_3 rfl dX1_takes_1 rfl ?_
  refine j_if_le (t := 16) (n' := 7) F (by omega) dX1_takes_4 (by decide) rfl (fun c4_0 => ?_) (fun c4_0 => ?_)
  · omega
  · refine j_aload_0 (n' := 8) F dX1_takes_7 rfl ?_
    refine j_iload_1 (n' := 9) F dX1_takes_8 rfl ?_
    refine j_bipush (n' := 11) F dX1_takes_9 (by decide) rfl ?_
    refine j_isub (n' := 12) F dX1_takes_11 rfl ?_
    refine j_cV1i (n' := 15) F kl_X1_60 (c_Rea_takesFigure hm hr hts hml (by omega) hd ha) kap_3 rfl (by decide) (Nat.le_of_ble_eq_true rfl) dX1_takes_12 rfl (fun z2 φ2 h2 => ?_)
    have hz2 := (h2).1
    exact j_zreturn F E (by omega) dX1_takes_15 (h2)
set_option maxRecDepth 20000 in
theorem c_Rea_takes_let {l : Launch} {G : jG} {B0 : Nat} {φ : jPhi} {x : Int} {md ts : List Int} (hm : mdIs φ 3 4 2 md) (hr : rowIs φ 5 6 ts) (hts : ts.length ≤ md.length) (hml : md.length ≤ 24) (hc : 32 ≤ x ∧ x ≤ 126) (hd : φ 3 4 = 0) (hx : 97 ≤ x ∧ x ≤ 100) : jC l G B0 κF 113 yX1_takes cX1_takes 3 (some .boolean) 3 [rf B0 3, iv x] φ mkI (fun z φ' => (z = 0 ∨ z = 1) ∧ (md.length < 24 → z = 1 ∧ mdIs φ' 3 4 2 (md ++ [x - 97]) ∧ rowIs φ' 5 6 (ts ++ [x - 97])) ∧ (¬ md.length < 24 → z = 0 ∧ mdIs φ' 3 4 2 md ∧ rowIs φ' 5 6 ts) ∧ (∀ b, b ≠ 2 → φ' 3 b = φ 3 b) ∧ frC (fun a => a = 3 ∨ a = 4 ∨ a = 5 ∨ a = 6) φ φ') := by
  refine jC_start RX1 [some (rf B0 3), some (iv x), none] (by decide) rfl (Nat.le_of_ble_eq_true rfl) rfl (fun X Q F E => ?_)
  refine j_aload_0 (n' := 1) F dX1_takes_0 rfl ?_
  refine j_getI (n' := 4) F 4 rfl fl_X1_29 kap_3 rfl dX1_takes_1 rfl ?_
  refine j_if_le (t := 16) (n' := 7) F (by omega) dX1_takes_4 (by decide) rfl (fun c4_0 => ?_) (fun c4_0 => ?_)
  · refine j_iload_1 (n' := 17) F dX1_takes_16 rfl ?_
    refine j_bipush (n' := 19) F dX1_takes_17 (by decide) rfl ?_
    refine j_isub (n' := 20) F dX1_takes_19 rfl ?_
    refine j_istore_2 (n' := 21) F (by decide) jc_i dX1_takes_20 rfl ?_
    refine j_iload_2 (n' := 22) F dX1_takes_21 rfl ?_
    refine j_if_lt (t := 36) (n' := 25) F (by omega) dX1_takes_22 (by decide) rfl (fun c22_1 => ?_) (fun c22_1 => ?_)
    · omega
    · refine j_iload_2 (n' := 26) F dX1_takes_25 rfl ?_
      refine j_iconst (n' := 27) F dX1_takes_26 rfl ?_
      refine j_icmp_ge (t := 36) (n' := 30) F (by omega) (by omega) dX1_takes_27 (by decide) rfl (fun c27_2 => ?_) (fun c27_2 => ?_)
      · omega
      · refine j_aload_0 (n' := 31) F dX1_takes_30 rfl ?_
        refine j_iload_2 (n' := 32) F dX1_takes_31 rfl ?_
        refine j_cV1i (n' := 35) F kl_X1_63 (c_Rea_takesLetter hm hr hts hml (by omega)) kap_3 rfl (by decide) (Nat.le_of_ble_eq_true rfl) dX1_takes_32 rfl (fun z4 φ4 h4 => ?_)
        have hz4 := (h4).1
        exact j_zreturn F E (by omega) dX1_takes_35 (h4)
  · omega
set_option maxRecDepth 20000 in
theorem c_Rea_takes_opn {l : Launch} {G : jG} {B0 : Nat} {φ : jPhi} {x : Int} {md : List Int} (hm : mdIs φ 3 4 2 md) (hml : md.length ≤ 24) (hc : 32 ≤ x ∧ x ≤ 126) (hd : φ 3 4 = 0) (hla : 0 ≤ φ 3 3 ∧ φ 3 3 ≤ 24) (hx : ¬ (97 ≤ x ∧ x ≤ 100)) : jC l G B0 κF 113 yX1_takes cX1_takes 3 (some .boolean) 3 [rf B0 3, iv x] φ mkI (fun z φ' => (z = 0 ∨ z = 1) ∧ φ' 3 5 = (if x = 61 then 1 else 0) ∧ ((1 ≤ (if x = 61 then φ 3 3 else x - 64) ∧ (if x = 61 then φ 3 3 else x - 64) ≤ md.length) → z = 1 ∧ φ' 3 4 = (if x = 61 then φ 3 3 else x - 64)) ∧ (¬ (1 ≤ (if x = 61 then φ 3 3 else x - 64) ∧ (if x = 61 then φ 3 3 else x - 64) ≤ md.length) → z = 0 ∧ φ' 3 4 = 0) ∧ (∀ b, b ≠ 4 → b ≠ 5 → φ' 3 b = φ 3 b) ∧ frC (fun a => a = 3) φ φ') := by
  refine jC_start RX1 [some (rf B0 3), some (iv x), none] (by decide) rfl (Nat.le_of_ble_eq_true rfl) rfl (fun X Q F E => ?_)
  have h1 := hm.1
  refine j_aload_0 (n' := 1) F dX1_takes_0 rfl ?_
  refine j_getI (n' := 4) F 4 rfl fl_X1_29 kap_3 rfl dX1_takes_1 rfl ?_
  refine j_if_le (t := 16) (n' := 7) F (by omega) dX1_takes_4 (by decide) rfl (fun c4_0 => ?_) (fun c4_0 => ?_)
  · refine j_iload_1 (n' := 17) F dX1_takes_16 rfl ?_
    refine j_bipush (n' := 19) F dX1_takes_17 (by decide) rfl ?_
    refine j_isub (n' := 20) F dX1_takes_19 rfl ?_
    refine j_istore_2 (n' := 21) F (by decide) jc_i dX1_takes_20 rfl ?_
    refine j_iload_2 (n' := 22) F dX1_takes_21 rfl ?_
    refine j_if_lt (t := 36) (n' := 25) F (by omega) dX1_takes_22 (by decide) rfl (fun c22_1 => ?_) (fun c22_1 => ?_)
    · refine j_aload_0 (n' := 37) F dX1_takes_36 rfl ?_
      refine j_iload_1 (n' := 38) F dX1_takes_37 rfl ?_
      refine j_bipush (n' := 40) F dX1_takes_38 (by decide) rfl ?_
      refine j_icmp_ne (t := 47) (n' := 43) F (by omega) (by omega) dX1_takes_40 (by decide) rfl (fun c40_2 => ?_) (fun c40_2 => ?_)
      · refine j_iconst (n' := 48) F dX1_takes_47 rfl ?_
        refine j_putB (n' := 51) F 5 rfl (by omega) fp_X1_32 kap_3 rfl rfl dX1_takes_48 rfl (fun φ4 e4 => ?_)
        have v2 : φ4 3 2 = φ 3 2 := by rw [e4]; simp [zU]
        have v3 : φ4 3 3 = φ 3 3 := by rw [e4]; simp [zU]
        have v4 : φ4 3 4 = φ 3 4 := by rw [e4]; simp [zU]
        have v5 := congrFun (congrFun e4 3) 5
        rw [zU_self] at v5
        refine j_aload_0 (n' := 52) F dX1_takes_51 rfl ?_
        refine j_aload_0 (n' := 53) F dX1_takes_52 rfl ?_
        refine j_getI (n' := 56) F 5 rfl fl_X1_32 kap_3 rfl dX1_takes_53 rfl ?_
        refine j_if_eq (t := 66) (n' := 59) F (by omega) dX1_takes_56 (by decide) rfl (fun c56_4 => ?_) (fun c56_4 => ?_)
        · refine j_iload_1 (n' := 67) F dX1_takes_66 rfl ?_
          refine j_bipush (n' := 69) F dX1_takes_67 (by decide) rfl ?_
          refine j_isub (n' := 70) F dX1_takes_69 rfl ?_
          refine j_iconst (n' := 71) F dX1_takes_70 rfl ?_
          refine j_iadd (n' := 72) F dX1_takes_71 rfl ?_
          refine j_cV1i (n' := 75) F kl_X1_66 (c_Rea_opens (by omega) (by omega)) kap_3 rfl (by decide) (Nat.le_of_ble_eq_true rfl) dX1_takes_72 rfl (fun z6 φ6 h6 => ?_)
          have hz6 := (h6).1
          refine j_zreturn F E (by omega) dX1_takes_75 ?_
          have hx1 : φ4 3 5 = if x = 61 then 1 else 0 := by rw [e4, zU_self]; first | rw [if_pos (by omega)] | rw [if_neg (by omega)]
          obtain ⟨z0, zt, zf⟩ := h6
          refine ⟨z0, ?_, fun h => ?_, fun h => ?_, fun b q1 q2 => ?_, ?_⟩
          · by_cases g : 1 ≤ (x - 65 + 1) ∧ (x - 65 + 1) ≤ φ4 3 2
            · rw [(zt g).2, zU_ne (by omega)]
              exact hx1
            · rw [(zf g).2]
              exact hx1
          · have g : 1 ≤ (x - 65 + 1) ∧ (x - 65 + 1) ≤ φ4 3 2 := by split at h <;> omega
            refine ⟨(zt g).1, ?_⟩
            rw [(zt g).2, zU_self]
            split <;> omega
          · have g : ¬ (1 ≤ (x - 65 + 1) ∧ (x - 65 + 1) ≤ φ4 3 2) := by split at h <;> omega
            refine ⟨(zf g).1, ?_⟩
            rw [(zf g).2]
            omega
          · by_cases g : 1 ≤ (x - 65 + 1) ∧ (x - 65 + 1) ≤ φ4 3 2
            · rw [(zt g).2, zU_ne (by omega), e4, zU_ne (by omega)]
            · rw [(zf g).2, e4, zU_ne (by omega)]
          · by_cases g : 1 ≤ (x - 65 + 1) ∧ (x - 65 + 1) ≤ φ4 3 2
            · rw [(zt g).2, e4]
              exact frC.put (S := fun a => a = 3) (frC.put (S := fun a => a = 3) frC.rf rfl) rfl
            · rw [(zf g).2, e4]
              exact frC.put (S := fun a => a = 3) frC.rf rfl
        · omega
      · refine j_iconst (n' := 44) F dX1_takes_43 rfl ?_
        refine j_goto (t := 48) F dX1_takes_44 (by decide) ?_
        refine j_putB (n' := 51) F 5 rfl (by omega) fp_X1_32 kap_3 rfl rfl dX1_takes_48 rfl (fun φ7 e7 => ?_)
        have v2 : φ7 3 2 = φ 3 2 := by rw [e7]; simp [zU]
        have v3 : φ7 3 3 = φ 3 3 := by rw [e7]; simp [zU]
        have v4 : φ7 3 4 = φ 3 4 := by rw [e7]; simp [zU]
        have v5 := congrFun (congrFun e7 3) 5
        rw [zU_self] at v5
        refine j_aload_0 (n' := 52) F dX1_takes_51 rfl ?_
        refine j_aload_0 (n' := 53) F dX1_takes_52 rfl ?_
        refine j_getI (n' := 56) F 5 rfl fl_X1_32 kap_3 rfl dX1_takes_53 rfl ?_
        refine j_if_eq (t := 66) (n' := 59) F (by omega) dX1_takes_56 (by decide) rfl (fun c56_7 => ?_) (fun c56_7 => ?_)
        · omega
        · refine j_aload_0 (n' := 60) F dX1_takes_59 rfl ?_
          refine j_getI (n' := 63) F 3 rfl fl_X1_26 kap_3 rfl dX1_takes_60 rfl ?_
          refine j_goto (t := 72) F dX1_takes_63 (by decide) ?_
          refine j_cV1i (n' := 75) F kl_X1_66 (c_Rea_opens (by omega) (by omega)) kap_3 rfl (by decide) (Nat.le_of_ble_eq_true rfl) dX1_takes_72 rfl (fun z9 φ9 h9 => ?_)
          have hz9 := (h9).1
          refine j_zreturn F E (by omega) dX1_takes_75 ?_
          have hx1 : φ7 3 5 = if x = 61 then 1 else 0 := by rw [e7, zU_self]; first | rw [if_pos (by omega)] | rw [if_neg (by omega)]
          obtain ⟨z0, zt, zf⟩ := h9
          refine ⟨z0, ?_, fun h => ?_, fun h => ?_, fun b q1 q2 => ?_, ?_⟩
          · by_cases g : 1 ≤ φ7 3 3 ∧ φ7 3 3 ≤ φ7 3 2
            · rw [(zt g).2, zU_ne (by omega)]
              exact hx1
            · rw [(zf g).2]
              exact hx1
          · have g : 1 ≤ φ7 3 3 ∧ φ7 3 3 ≤ φ7 3 2 := by split at h <;> omega
            refine ⟨(zt g).1, ?_⟩
            rw [(zt g).2, zU_self]
            split <;> omega
          · have g : ¬ (1 ≤ φ7 3 3 ∧ φ7 3 3 ≤ φ7 3 2) := by split at h <;> omega
            refine ⟨(zf g).1, ?_⟩
            rw [(zf g).2]
            omega
          · by_cases g : 1 ≤ φ7 3 3 ∧ φ7 3 3 ≤ φ7 3 2
            · rw [(zt g).2, zU_ne (by omega), e7, zU_ne (by omega)]
            · rw [(zf g).2, e7, zU_ne (by omega)]
          · by_cases g : 1 ≤ φ7 3 3 ∧ φ7 3 3 ≤ φ7 3 2
            · rw [(zt g).2, e7]
              exact frC.put (S := fun a => a = 3) (frC.put (S := fun a => a = 3) frC.rf rfl) rfl
            · rw [(zf g).2, e7]
              exact frC.put (S := fun a => a = 3) frC.rf rfl
    · refine j_iload_2 (n' := 26) F dX1_takes_25 rfl ?_
      refine j_iconst (n' := 27) F dX1_takes_26 rfl ?_
      refine j_icmp_ge (t := 36) (n' := 30) F (by omega) (by omega) dX1_takes_27 (by decide) rfl (fun c27_9 => ?_) (fun c27_9 => ?_)
      · refine j_aload_0 (n' := 37) F dX1_takes_36 rfl ?_
        refine j_iload_1 (n' := 38) F dX1_takes_37 rfl ?_
        refine j_bipush (n' := 40) F dX1_takes_38 (by decide) rfl ?_
        refine j_icmp_ne (t := 47) (n' := 43) F (by omega) (by omega) dX1_takes_40 (by decide) rfl (fun c40_10 => ?_) (fun c40_10 => ?_)
        · refine j_iconst (n' := 48) F dX1_takes_47 rfl ?_
          refine j_putB (n' := 51) F 5 rfl (by omega) fp_X1_32 kap_3 rfl rfl dX1_takes_48 rfl (fun φ12 e12 => ?_)
          have v2 : φ12 3 2 = φ 3 2 := by rw [e12]; simp [zU]
          have v3 : φ12 3 3 = φ 3 3 := by rw [e12]; simp [zU]
          have v4 : φ12 3 4 = φ 3 4 := by rw [e12]; simp [zU]
          have v5 := congrFun (congrFun e12 3) 5
          rw [zU_self] at v5
          refine j_aload_0 (n' := 52) F dX1_takes_51 rfl ?_
          refine j_aload_0 (n' := 53) F dX1_takes_52 rfl ?_
          refine j_getI (n' := 56) F 5 rfl fl_X1_32 kap_3 rfl dX1_takes_53 rfl ?_
          refine j_if_eq (t := 66) (n' := 59) F (by omega) dX1_takes_56 (by decide) rfl (fun c56_12 => ?_) (fun c56_12 => ?_)
          · refine j_iload_1 (n' := 67) F dX1_takes_66 rfl ?_
            refine j_bipush (n' := 69) F dX1_takes_67 (by decide) rfl ?_
            refine j_isub (n' := 70) F dX1_takes_69 rfl ?_
            refine j_iconst (n' := 71) F dX1_takes_70 rfl ?_
            refine j_iadd (n' := 72) F dX1_takes_71 rfl ?_
            refine j_cV1i (n' := 75) F kl_X1_66 (c_Rea_opens (by omega) (by omega)) kap_3 rfl (by decide) (Nat.le_of_ble_eq_true rfl) dX1_takes_72 rfl (fun z14 φ14 h14 => ?_)
            have hz14 := (h14).1
            refine j_zreturn F E (by omega) dX1_takes_75 ?_
            have hx1 : φ12 3 5 = if x = 61 then 1 else 0 := by rw [e12, zU_self]; first | rw [if_pos (by omega)] | rw [if_neg (by omega)]
            obtain ⟨z0, zt, zf⟩ := h14
            refine ⟨z0, ?_, fun h => ?_, fun h => ?_, fun b q1 q2 => ?_, ?_⟩
            · by_cases g : 1 ≤ (x - 65 + 1) ∧ (x - 65 + 1) ≤ φ12 3 2
              · rw [(zt g).2, zU_ne (by omega)]
                exact hx1
              · rw [(zf g).2]
                exact hx1
            · have g : 1 ≤ (x - 65 + 1) ∧ (x - 65 + 1) ≤ φ12 3 2 := by split at h <;> omega
              refine ⟨(zt g).1, ?_⟩
              rw [(zt g).2, zU_self]
              split <;> omega
            · have g : ¬ (1 ≤ (x - 65 + 1) ∧ (x - 65 + 1) ≤ φ12 3 2) := by split at h <;> omega
              refine ⟨(zf g).1, ?_⟩
              rw [(zf g).2]
              omega
            · by_cases g : 1 ≤ (x - 65 + 1) ∧ (x - 65 + 1) ≤ φ12 3 2
              · rw [(zt g).2, zU_ne (by omega), e12, zU_ne (by omega)]
              · rw [(zf g).2, e12, zU_ne (by omega)]
            · by_cases g : 1 ≤ (x - 65 + 1) ∧ (x - 65 + 1) ≤ φ12 3 2
              · rw [(zt g).2, e12]
                exact frC.put (S := fun a => a = 3) (frC.put (S := fun a => a = 3) frC.rf rfl) rfl
              · rw [(zf g).2, e12]
                exact frC.put (S := fun a => a = 3) frC.rf rfl
          · omega
        · refine j_iconst (n' := 44) F dX1_takes_43 rfl ?_
          refine j_goto (t := 48) F dX1_takes_44 (by decide) ?_
          refine j_putB (n' := 51) F 5 rfl (by omega) fp_X1_32 kap_3 rfl rfl dX1_takes_48 rfl (fun φ15 e15 => ?_)
          have v2 : φ15 3 2 = φ 3 2 := by rw [e15]; simp [zU]
          have v3 : φ15 3 3 = φ 3 3 := by rw [e15]; simp [zU]
          have v4 : φ15 3 4 = φ 3 4 := by rw [e15]; simp [zU]
          have v5 := congrFun (congrFun e15 3) 5
          rw [zU_self] at v5
          refine j_aload_0 (n' := 52) F dX1_takes_51 rfl ?_
          refine j_aload_0 (n' := 53) F dX1_takes_52 rfl ?_
          refine j_getI (n' := 56) F 5 rfl fl_X1_32 kap_3 rfl dX1_takes_53 rfl ?_
          refine j_if_eq (t := 66) (n' := 59) F (by omega) dX1_takes_56 (by decide) rfl (fun c56_15 => ?_) (fun c56_15 => ?_)
          · omega
          · refine j_aload_0 (n' := 60) F dX1_takes_59 rfl ?_
            refine j_getI (n' := 63) F 3 rfl fl_X1_26 kap_3 rfl dX1_takes_60 rfl ?_
            refine j_goto (t := 72) F dX1_takes_63 (by decide) ?_
            refine j_cV1i (n' := 75) F kl_X1_66 (c_Rea_opens (by omega) (by omega)) kap_3 rfl (by decide) (Nat.le_of_ble_eq_true rfl) dX1_takes_72 rfl (fun z17 φ17 h17 => ?_)
            have hz17 := (h17).1
            refine j_zreturn F E (by omega) dX1_takes_75 ?_
            have hx1 : φ15 3 5 = if x = 61 then 1 else 0 := by rw [e15, zU_self]; first | rw [if_pos (by omega)] | rw [if_neg (by omega)]
            obtain ⟨z0, zt, zf⟩ := h17
            refine ⟨z0, ?_, fun h => ?_, fun h => ?_, fun b q1 q2 => ?_, ?_⟩
            · by_cases g : 1 ≤ φ15 3 3 ∧ φ15 3 3 ≤ φ15 3 2
              · rw [(zt g).2, zU_ne (by omega)]
                exact hx1
              · rw [(zf g).2]
                exact hx1
            · have g : 1 ≤ φ15 3 3 ∧ φ15 3 3 ≤ φ15 3 2 := by split at h <;> omega
              refine ⟨(zt g).1, ?_⟩
              rw [(zt g).2, zU_self]
              split <;> omega
            · have g : ¬ (1 ≤ φ15 3 3 ∧ φ15 3 3 ≤ φ15 3 2) := by split at h <;> omega
              refine ⟨(zf g).1, ?_⟩
              rw [(zf g).2]
              omega
            · by_cases g : 1 ≤ φ15 3 3 ∧ φ15 3 3 ≤ φ15 3 2
              · rw [(zt g).2, zU_ne (by omega), e15, zU_ne (by omega)]
              · rw [(zf g).2, e15, zU_ne (by omega)]
            · by_cases g : 1 ≤ φ15 3 3 ∧ φ15 3 3 ≤ φ15 3 2
              · rw [(zt g).2, e15]
                exact frC.put (S := fun a => a = 3) (frC.put (S := fun a => a = 3) frC.rf rfl) rfl
              · rw [(zf g).2, e15]
                exact frC.put (S := fun a => a = 3) frC.rf rfl
      · omega
  · omega
