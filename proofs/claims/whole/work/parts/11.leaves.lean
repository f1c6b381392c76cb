theorem tfl_bd {g : Int → Int} {n : Int} : ∀ (k : Nat) (i : Int), 0 ≤ i → i ≤ n → i ≤ tfl g n k i ∧ tfl g n k i ≤ n
  | 0, i, _, h2 => ⟨by simp [tfl], by simpa [tfl] using h2⟩
  | k + 1, i, h1, h2 => by
    unfold tfl
    split
    · rename_i q
      have := tfl_bd (g := g) (n := n) k (i + 1) (by omega) (by omega)
      omega
    · omega
set_option maxRecDepth 20000 in
theorem c_Pag_isText {l : Launch} {G : jG} {B0 : Nat} {φ : jPhi}  (hs : 0 ≤ φ 1 1 ∧ φ 1 1 ≤ 30) (hp : ∀ k, 0 ≤ k → k < φ 1 1 → 32 ≤ φ 2 k ∧ φ 2 k ≤ 126) : jC l G B0 κF 113 yX2_isText cX2_isText 1 (some .boolean) 2 [rf B0 1] φ mkI (fun z φ' => φ = φ' ∧ z = (if 0 < φ 1 1 ∧ tfl (φ 2) (φ 1 1) 25 0 = φ 1 1 then 1 else 0)) := by
  refine jC_start RX2 [some (rf B0 1)] (by decide) rfl (Nat.le_of_ble_eq_true rfl) rfl (fun X Q F E => ?_)
  refine j_aload_0 (n' := 1) F dX2_isText_0 rfl ?_
  refine j_getI (n' := 4) F 1 rfl fl_X2_15 kap_1 rfl dX2_isText_1 rfl ?_
  refine j_if_le (t := 22) (n' := 7) F (by omega) dX2_isText_4 (by decide) rfl (fun c4_0 => ?_) (fun c4_0 => ?_)
  · refine j_iconst (n' := 23) F dX2_isText_22 rfl ?_
    exact j_zreturn F E (by omega) dX2_isText_23 (⟨rfl, by first | rfl | omega | (simp; omega) | (split <;> omega)⟩)
  · refine j_aload_0 (n' := 8) F dX2_isText_7 rfl ?_
    refine j_cV0i (n' := 11) F kl_X2_27 (c_Pag_textFault hs hp) kap_1 rfl (by decide) (Nat.le_of_ble_eq_true rfl) dX2_isText_8 rfl (fun z2 φ2 h2 => ?_)
    obtain ⟨rfl, rfl⟩ := h2
    have hb := tfl_bd (g := φ 2) (n := φ 1 1) 25 0 (by omega) (by omega)
    refine j_aload_0 (n' := 12) F dX2_isText_11 rfl ?_
    refine j_getI (n' := 15) F 1 rfl fl_X2_15 kap_1 rfl dX2_isText_12 rfl ?_
    refine j_icmp_ne (t := 22) (n' := 18) F (by omega) (by omega) dX2_isText_15 (by decide) rfl (fun c15_2 => ?_) (fun c15_2 => ?_)
    · refine j_iconst (n' := 23) F dX2_isText_22 rfl ?_
      exact j_zreturn F E (by omega) dX2_isText_23 (⟨rfl, by first | rfl | omega | (simp; omega) | (split <;> omega)⟩)
    · refine j_iconst (n' := 19) F dX2_isText_18 rfl ?_
      refine j_goto (t := 23) F dX2_isText_19 (by decide) ?_
      exact j_zreturn F E (by omega) dX2_isText_23 (⟨rfl, by first | rfl | omega | (simp; omega) | (split <;> omega)⟩)
set_option maxRecDepth 20000 in
theorem c_Txt_size {l : Launch} {G : jG} {B0 : Nat} {φ : jPhi}   : jC l G B0 κF 113 yX4_size cX4_size 1 (some .int) 0 [rf B0 7] φ mkI (fun z φ' => φ = φ' ∧ z = φ 7 2) := by
  refine jC_start RX4 [some (rf B0 7)] (by decide) rfl (Nat.le_of_ble_eq_true rfl) rfl (fun X Q F E => ?_)
  refine j_aload_0 (n' := 1) F dX4_size_0 rfl ?_
  refine j_getI (n' := 4) F 2 rfl fl_X4_20 kap_7 rfl dX4_size_1 rfl ?_
  exact j_ireturn F E dX4_size_4 (⟨rfl, by first | rfl | omega | (simp; omega) | (split <;> omega)⟩)
set_option maxRecDepth 20000 in
theorem c_Txt_clear {l : Launch} {G : jG} {B0 : Nat} {φ : jPhi}   : jC l G B0 κF 113 yX4_clear cX4_clear 1 none 0 [rf B0 7] φ mkV (fun z φ' => φ' = zU φ 7 2 0) := by
  refine jC_start RX4 [some (rf B0 7)] (by decide) rfl (Nat.le_of_ble_eq_true rfl) rfl (fun X Q F E => ?_)
  refine j_aload_0 (n' := 1) F dX4_clear_0 rfl ?_
  refine j_iconst (n' := 2) F dX4_clear_1 rfl ?_
  refine j_putI (n' := 5) F 2 rfl fp_X4_20 kap_7 rfl rfl dX4_clear_2 rfl (fun φ1 e1 => ?_)
  exact j_return F E dX4_clear_5 (e1)
set_option maxRecDepth 20000 in
theorem c_Txt_add {l : Launch} {G : jG} {B0 : Nat} {φ : jPhi} {x : Int} (hs : 0 ≤ φ 7 2 ∧ φ 7 2 ≤ 24) (hn : φ 7 2 < 24) : jC l G B0 κF 113 yX4_add cX4_add 2 none 0 [rf B0 7, iv x] φ mkV (fun z φ' => φ' = zU (zU φ 8 (φ 7 2) x) 7 2 (φ 7 2 + 1)) := by
  refine jC_start RX4 [some (rf B0 7), some (iv x)] (by decide) rfl (Nat.le_of_ble_eq_true rfl) rfl (fun X Q F E => ?_)
  refine j_aload_0 (n' := 1) F dX4_add_0 rfl ?_
  refine j_getI (n' := 4) F 2 rfl fl_X4_20 kap_7 rfl dX4_add_1 rfl ?_
  refine j_bipush (n' := 6) F dX4_add_4 (by decide) rfl ?_
  refine j_icmp_lt (t := 10) (n' := 9) F (by omega) (by omega) dX4_add_6 (by decide) rfl (fun c6_0 => ?_) (fun c6_0 => ?_)
  · refine j_aload_0 (n' := 11) F dX4_add_10 rfl ?_
    refine j_getR (n' := 14) F fl_X4_9 kap_7 rfl dX4_add_11 rfl ?_
    refine j_aload_0 (n' := 15) F dX4_add_14 rfl ?_
    refine j_getI (n' := 18) F 2 rfl fl_X4_20 kap_7 rfl dX4_add_15 rfl ?_
    refine j_iload_1 (n' := 19) F dX4_add_18 rfl ?_
    refine j_iast (n' := 20) F kap_8 (by decide) (by omega) dX4_add_19 rfl (fun φ2 e2 => ?_)
    refine j_aload_0 (n' := 21) F dX4_add_20 rfl ?_
    refine j_dup (n' := 22) F rfl dX4_add_21 rfl ?_
    refine j_getI (n' := 25) F 2 rfl fl_X4_20 kap_7 rfl dX4_add_22 rfl ?_
    refine j_iconst (n' := 26) F dX4_add_25 rfl ?_
    refine j_iadd (n' := 27) F dX4_add_26 rfl ?_
    refine j_putI (n' := 30) F 2 rfl fp_X4_20 kap_7 rfl rfl dX4_add_27 rfl (fun φ3 e3 => ?_)
    exact j_return F E dX4_add_30 (by rw [e3, e2, zU_ne (a := 7) (b := 2) (by omega)])
  · exact j_return F E dX4_add_9 (by omega)
set_option maxRecDepth 20000 in
theorem c_Txt_has {l : Launch} {G : jG} {B0 : Nat} {φ : jPhi} {x : Int} (hs : 0 ≤ φ 7 2 ∧ φ 7 2 ≤ 24) (hx : -2147483648 ≤ x ∧ x ≤ 2147483647) : jC l G B0 κF 113 yX4_has cX4_has 2 (some .boolean) 0 [rf B0 7, iv x] φ mkI (fun z φ' => φ = φ' ∧ z = (if 0 ≤ x ∧ x < φ 7 2 then 1 else 0)) := by
  refine jC_start RX4 [some (rf B0 7), some (iv x)] (by decide) rfl (Nat.le_of_ble_eq_true rfl) rfl (fun X Q F E => ?_)
  refine j_iload_1 (n' := 1) F dX4_has_0 rfl ?_
  refine j_if_lt (t := 16) (n' := 4) F (by omega) dX4_has_1 (by decide) rfl (fun c1_0 => ?_) (fun c1_0 => ?_)
  · refine j_iconst (n' := 17) F dX4_has_16 rfl ?_
    exact j_zreturn F E (by omega) dX4_has_17 (⟨rfl, by first | rfl | omega | (simp; omega) | (split <;> omega)⟩)
  · refine j_iload_1 (n' := 5) F dX4_has_4 rfl ?_
    refine j_aload_0 (n' := 6) F dX4_has_5 rfl ?_
    refine j_getI (n' := 9) F 2 rfl fl_X4_20 kap_7 rfl dX4_has_6 rfl ?_
    refine j_icmp_ge (t := 16) (n' := 12) F (by omega) (by omega) dX4_has_9 (by decide) rfl (fun c9_1 => ?_) (fun c9_1 => ?_)
    · refine j_iconst (n' := 17) F dX4_has_16 rfl ?_
      exact j_zreturn F E (by omega) dX4_has_17 (⟨rfl, by first | rfl | omega | (simp; omega) | (split <;> omega)⟩)
    · refine j_iconst (n' := 13) F dX4_has_12 rfl ?_
      refine j_goto (t := 17) F dX4_has_13 (by decide) ?_
      exact j_zreturn F E (by omega) dX4_has_17 (⟨rfl, by first | rfl | omega | (simp; omega) | (split <;> omega)⟩)
set_option maxRecDepth 20000 in
theorem c_Txt_letterAt {l : Launch} {G : jG} {B0 : Nat} {φ : jPhi} {x : Int} (hs : 0 ≤ φ 7 2 ∧ φ 7 2 ≤ 24) (hx : -2147483648 ≤ x ∧ x ≤ 2147483647) : jC l G B0 κF 113 yX4_letterAt cX4_letterAt 2 (some .int) 1 [rf B0 7, iv x] φ mkI (fun z φ' => φ = φ' ∧ z = (if 0 ≤ x ∧ x < φ 7 2 then φ 8 x else 0)) := by
  refine jC_start RX4 [some (rf B0 7), some (iv x)] (by decide) rfl (Nat.le_of_ble_eq_true rfl) rfl (fun X Q F E => ?_)
  refine j_aload_0 (n' := 1) F dX4_letterAt_0 rfl ?_
  refine j_iload_1 (n' := 2) F dX4_letterAt_1 rfl ?_
  refine j_cV1i (n' := 5) F kl_X4_24 (c_Txt_has hs hx) kap_7 rfl (by decide) (Nat.le_of_ble_eq_true rfl) dX4_letterAt_2 rfl (fun z1 φ1 h1 => ?_)
  obtain ⟨rfl, rfl⟩ := h1
  refine j_if_eq (t := 17) (n' := 8) F (by first | omega | (split <;> omega)) dX4_letterAt_5 (by decide) rfl (fun c5_1 => ?_) (fun c5_1 => ?_)
  · refine j_iconst (n' := 18) F dX4_letterAt_17 rfl ?_
    exact j_ireturn F E dX4_letterAt_18 (⟨rfl, by first | rfl | omega | (simp; omega) | (split <;> omega)⟩)
  · refine j_aload_0 (n' := 9) F dX4_letterAt_8 rfl ?_
    refine j_getR (n' := 12) F fl_X4_9 kap_7 rfl dX4_letterAt_9 rfl ?_
    refine j_iload_1 (n' := 13) F dX4_letterAt_12 rfl ?_
    refine j_iald (n' := 14) F kap_8 (by decide) (by first | omega | (split <;> omega)) dX4_letterAt_13 rfl ?_
    refine j_goto (t := 18) F dX4_letterAt_14 (by decide) ?_
    exact j_ireturn F E dX4_letterAt_18 (⟨rfl, by first | rfl | omega | (simp; omega) | (split <;> omega)⟩)
set_option maxRecDepth 20000 in
theorem c_Txt_likeness {l : Launch} {G : jG} {B0 : Nat} {φ : jPhi} {x y : Int} (hs : 0 ≤ φ 7 2 ∧ φ 7 2 ≤ 24) (hx : -2147483648 ≤ x ∧ x ≤ 2147483647) (hy : -2147483648 ≤ y ∧ y ≤ 2147483647) : jC l G B0 κF 113 yX4_likeness cX4_likeness 3 (some .int) 0 [rf B0 7, iv x, iv y] φ mkI (fun z φ' => φ = φ' ∧ z = (if x < φ 7 2 ∧ 1 ≤ y ∧ y ≤ x then φ (10 + x) y else 0)) := by
  refine jC_start RX4 [some (rf B0 7), some (iv x), some (iv y)] (by decide) rfl (Nat.le_of_ble_eq_true rfl) rfl (fun X Q F E => ?_)
  refine j_iload_1 (n' := 1) F dX4_likeness_0 rfl ?_
  refine j_aload_0 (n' := 2) F dX4_likeness_1 rfl ?_
  refine j_getI (n' := 5) F 2 rfl fl_X4_20 kap_7 rfl dX4_likeness_2 rfl ?_
  refine j_icmp_ge (t := 29) (n' := 8) F (by omega) (by omega) dX4_likeness_5 (by decide) rfl (fun c5_0 => ?_) (fun c5_0 => ?_)
  · refine j_iconst (n' := 30) F dX4_likeness_29 rfl ?_
    exact j_ireturn F E dX4_likeness_30 (⟨rfl, by first | rfl | omega | (simp; omega) | (split <;> omega)⟩)
  · refine j_iload_2 (n' := 9) F dX4_likeness_8 rfl ?_
    refine j_iconst (n' := 10) F dX4_likeness_9 rfl ?_
    refine j_icmp_lt (t := 29) (n' := 13) F (by omega) (by omega) dX4_likeness_10 (by decide) rfl (fun c10_1 => ?_) (fun c10_1 => ?_)
    · refine j_iconst (n' := 30) F dX4_likeness_29 rfl ?_
      exact j_ireturn F E dX4_likeness_30 (⟨rfl, by first | rfl | omega | (simp; omega) | (split <;> omega)⟩)
    · refine j_iload_2 (n' := 14) F dX4_likeness_13 rfl ?_
      refine j_iload_1 (n' := 15) F dX4_likeness_14 rfl ?_
      refine j_icmp_gt (t := 29) (n' := 18) F (by omega) (by omega) dX4_likeness_15 (by decide) rfl (fun c15_2 => ?_) (fun c15_2 => ?_)
      · refine j_iconst (n' := 30) F dX4_likeness_29 rfl ?_
        exact j_ireturn F E dX4_likeness_30 (⟨rfl, by first | rfl | omega | (simp; omega) | (split <;> omega)⟩)
      · refine j_aload_0 (n' := 19) F dX4_likeness_18 rfl ?_
        refine j_getR (n' := 22) F fl_X4_17 kap_7 rfl dX4_likeness_19 rfl ?_
        refine j_iload_1 (n' := 23) F dX4_likeness_22 rfl ?_
        refine j_aald (n' := 24) F kap_9 (by decide) (by omega) dX4_likeness_23 rfl ?_
        refine j_iload_2 (n' := 25) F dX4_likeness_24 rfl ?_
        refine j_iald (n' := 26) F (kap_al (by omega)) (by decide) (by omega) dX4_likeness_25 rfl ?_
        refine j_goto (t := 30) F dX4_likeness_26 (by decide) ?_
        exact j_ireturn F E dX4_likeness_30 (⟨rfl, by first | rfl | omega | (simp; omega) | (split <;> omega)⟩)
set_option maxRecDepth 20000 in
theorem c_Row_size {l : Launch} {G : jG} {B0 : Nat} {φ : jPhi} {o r : Int} (hk : κF o = some (.inl (5, [.inl r, .inr 0, .inr 0, .inr 0]))) : jC l G B0 κF 113 yX6_size cX6_size 1 (some .int) 0 [rf B0 o] φ mkI (fun z φ' => φ = φ' ∧ z = φ o 1) := by
  refine jC_start RX6 [some (rf B0 o)] (by decide) rfl (Nat.le_of_ble_eq_true rfl) rfl (fun X Q F E => ?_)
  refine j_aload_0 (n' := 1) F dX6_size_0 rfl ?_
  refine j_getI (n' := 4) F 1 rfl fl_X6_15 hk rfl dX6_size_1 rfl ?_
  exact j_ireturn F E dX6_size_4 (⟨rfl, by first | rfl | omega | (simp; omega) | (split <;> omega)⟩)
set_option maxRecDepth 20000 in
theorem c_Row_plains {l : Launch} {G : jG} {B0 : Nat} {φ : jPhi} {o r : Int} (hk : κF o = some (.inl (5, [.inl r, .inr 0, .inr 0, .inr 0]))) : jC l G B0 κF 113 yX6_plains cX6_plains 1 (some .int) 0 [rf B0 o] φ mkI (fun z φ' => φ = φ' ∧ z = φ o 2) := by
  refine jC_start RX6 [some (rf B0 o)] (by decide) rfl (Nat.le_of_ble_eq_true rfl) rfl (fun X Q F E => ?_)
  refine j_aload_0 (n' := 1) F dX6_plains_0 rfl ?_
  refine j_getI (n' := 4) F 2 rfl fl_X6_19 hk rfl dX6_plains_1 rfl ?_
  exact j_ireturn F E dX6_plains_4 (⟨rfl, by first | rfl | omega | (simp; omega) | (split <;> omega)⟩)
set_option maxRecDepth 20000 in
theorem c_Row_copies {l : Launch} {G : jG} {B0 : Nat} {φ : jPhi} {o r : Int} (hk : κF o = some (.inl (5, [.inl r, .inr 0, .inr 0, .inr 0]))) : jC l G B0 κF 113 yX6_copies cX6_copies 1 (some .int) 0 [rf B0 o] φ mkI (fun z φ' => φ = φ' ∧ z = φ o 3) := by
  refine jC_start RX6 [some (rf B0 o)] (by decide) rfl (Nat.le_of_ble_eq_true rfl) rfl (fun X Q F E => ?_)
  refine j_aload_0 (n' := 1) F dX6_copies_0 rfl ?_
  refine j_getI (n' := 4) F 3 rfl fl_X6_22 hk rfl dX6_copies_1 rfl ?_
  exact j_ireturn F E dX6_copies_4 (⟨rfl, by first | rfl | omega | (simp; omega) | (split <;> omega)⟩)
set_option maxRecDepth 20000 in
theorem c_Row_agains {l : Launch} {G : jG} {B0 : Nat} {φ : jPhi} {o r : Int} (hk : κF o = some (.inl (5, [.inl r, .inr 0, .inr 0, .inr 0]))) : jC l G B0 κF 113 yX6_agains cX6_agains 1 (some .int) 0 [rf B0 o] φ mkI (fun z φ' => φ = φ' ∧ z = φ o 1 - φ o 2 - φ o 3) := by
  refine jC_start RX6 [some (rf B0 o)] (by decide) rfl (Nat.le_of_ble_eq_true rfl) rfl (fun X Q F E => ?_)
  refine j_aload_0 (n' := 1) F dX6_agains_0 rfl ?_
  refine j_getI (n' := 4) F 1 rfl fl_X6_15 hk rfl dX6_agains_1 rfl ?_
  refine j_aload_0 (n' := 5) F dX6_agains_4 rfl ?_
  refine j_getI (n' := 8) F 2 rfl fl_X6_19 hk rfl dX6_agains_5 rfl ?_
  refine j_isub (n' := 9) F dX6_agains_8 rfl ?_
  refine j_aload_0 (n' := 10) F dX6_agains_9 rfl ?_
  refine j_getI (n' := 13) F 3 rfl fl_X6_22 hk rfl dX6_agains_10 rfl ?_
  refine j_isub (n' := 14) F dX6_agains_13 rfl ?_
  exact j_ireturn F E dX6_agains_14 (⟨rfl, by first | rfl | omega | (simp; omega) | (split <;> omega)⟩)
set_option maxRecDepth 20000 in
theorem c_Row_clear {l : Launch} {G : jG} {B0 : Nat} {φ : jPhi} {o r : Int} (hk : κF o = some (.inl (5, [.inl r, .inr 0, .inr 0, .inr 0]))) : jC l G B0 κF 113 yX6_clear cX6_clear 1 none 0 [rf B0 o] φ mkV (fun z φ' => rowIs φ' o r [] ∧ frC (fun a => a = o) φ φ') := by
  refine jC_start RX6 [some (rf B0 o)] (by decide) rfl (Nat.le_of_ble_eq_true rfl) rfl (fun X Q F E => ?_)
  refine j_aload_0 (n' := 1) F dX6_clear_0 rfl ?_
  refine j_iconst (n' := 2) F dX6_clear_1 rfl ?_
  refine j_putI (n' := 5) F 1 rfl fp_X6_15 hk rfl rfl dX6_clear_2 rfl (fun φ1 e1 => ?_)
  refine j_aload_0 (n' := 6) F dX6_clear_5 rfl ?_
  refine j_iconst (n' := 7) F dX6_clear_6 rfl ?_
  refine j_putI (n' := 10) F 2 rfl fp_X6_19 hk rfl rfl dX6_clear_7 rfl (fun φ2 e2 => ?_)
  refine j_aload_0 (n' := 11) F dX6_clear_10 rfl ?_
  refine j_iconst (n' := 12) F dX6_clear_11 rfl ?_
  refine j_putI (n' := 15) F 3 rfl fp_X6_22 hk rfl rfl dX6_clear_12 rfl (fun φ3 e3 => ?_)
  exact j_return F E dX6_clear_15 (⟨⟨by simp [e3, e2, e1, zU], by simp [e3, e2, e1, zU, rwSum], by simp [e3, e2, e1, zU, rwSum], fun k hk => by simp at hk⟩, by rw [e3, e2, e1]; repeat (first | exact frC.rf | refine frC.put ?_ (by first | simp | omega))⟩)
set_option maxRecDepth 20000 in
theorem c_Row_get {l : Launch} {G : jG} {B0 : Nat} {φ : jPhi} {o r : Int} {x : Int} (hk : κF o = some (.inl (5, [.inl r, .inr 0, .inr 0, .inr 0]))) (hr : κF r = some (.inr (.inl 24))) (hs : 0 ≤ φ o 1 ∧ φ o 1 ≤ 24) (hx : -2147483648 ≤ x ∧ x ≤ 2147483647) : jC l G B0 κF 113 yX6_get cX6_get 2 (some .int) 0 [rf B0 o, iv x] φ mkI (fun z φ' => φ = φ' ∧ z = (if 0 ≤ x ∧ x < φ o 1 then φ r x else -1)) := by
  refine jC_start RX6 [some (rf B0 o), some (iv x)] (by decide) rfl (Nat.le_of_ble_eq_true rfl) rfl (fun X Q F E => ?_)
  refine j_iload_1 (n' := 1) F dX6_get_0 rfl ?_
  refine j_if_lt (t := 21) (n' := 4) F (by omega) dX6_get_1 (by decide) rfl (fun c1_0 => ?_) (fun c1_0 => ?_)
  · refine j_iconst (n' := 22) F dX6_get_21 rfl ?_
    exact j_ireturn F E dX6_get_22 (⟨rfl, by first | rfl | omega | (simp; omega) | (split <;> omega)⟩)
  · refine j_iload_1 (n' := 5) F dX6_get_4 rfl ?_
    refine j_aload_0 (n' := 6) F dX6_get_5 rfl ?_
    refine j_getI (n' := 9) F 1 rfl fl_X6_15 hk rfl dX6_get_6 rfl ?_
    refine j_icmp_ge (t := 21) (n' := 12) F (by omega) (by omega) dX6_get_9 (by decide) rfl (fun c9_1 => ?_) (fun c9_1 => ?_)
    · refine j_iconst (n' := 22) F dX6_get_21 rfl ?_
      exact j_ireturn F E dX6_get_22 (⟨rfl, by first | rfl | omega | (simp; omega) | (split <;> omega)⟩)
    · refine j_aload_0 (n' := 13) F dX6_get_12 rfl ?_
      refine j_getR (n' := 16) F fl_X6_9 hk rfl dX6_get_13 rfl ?_
      refine j_iload_1 (n' := 17) F dX6_get_16 rfl ?_
      refine j_iald (n' := 18) F hr (by decide) (by omega) dX6_get_17 rfl ?_
      refine j_goto (t := 22) F dX6_get_18 (by decide) ?_
      exact j_ireturn F E dX6_get_22 (⟨rfl, by first | rfl | omega | (simp; omega) | (split <;> omega)⟩)
theorem rowIs.push {φ φ' : jPhi} {o r x : Int} {ts : List Int} (h : rowIs φ o r ts) (h1 : φ' o 1 = φ o 1 + 1) (h2 : φ' o 2 = φ o 2 + (if x < 100 then 1 else 0)) (h3 : φ' o 3 = φ o 3 + (if 1000 ≤ x then 1 else 0)) (h4 : φ' r (φ o 1) = x) (h5 : ∀ b, b ≠ φ o 1 → φ' r b = φ r b) : rowIs φ' o r (ts ++ [x]) := by
  obtain ⟨a1, a2, a3, a4⟩ := h
  refine ⟨by rw [h1, a1]; simp, by rw [h2, a2, rwSum_app, rwSum_cons]; simp [rwSum], by rw [h3, a3, rwSum_app, rwSum_cons]; simp [rwSum], fun k hk => ?_⟩
  by_cases e : k < ts.length
  · rw [h5 k (by omega), a4 k e]
    simp [List.getD, List.getElem?_append_left e]
  · have e2 : k = ts.length := by simp at hk; omega
    subst e2
    rw [← a1, h4]
    simp [List.getD]
set_option maxRecDepth 20000 in
theorem c_Row_add {l : Launch} {G : jG} {B0 : Nat} {φ : jPhi} {o r : Int} {x : Int} {ts : List Int} (hk : κF o = some (.inl (5, [.inl r, .inr 0, .inr 0, .inr 0]))) (hr : κF r = some (.inr (.inl 24))) (hro : r ≠ o) (ht : rowIs φ o r ts) (hl : ts.length < 24) (hx : -2147483648 ≤ x ∧ x ≤ 2147483647) : jC l G B0 κF 113 yX6_add cX6_add 2 none 1 [rf B0 o, iv x] φ mkV (fun z φ' => rowIs φ' o r (ts ++ [x]) ∧ frC (fun a => a = o ∨ a = r) φ φ') := by
  refine jC_start RX6 [some (rf B0 o), some (iv x)] (by decide) rfl (Nat.le_of_ble_eq_true rfl) rfl (fun X Q F E => ?_)
  have h1 := ht.1
  have hor : o ≠ r := Ne.symm hro
  refine j_aload_0 (n' := 1) F dX6_add_0 rfl ?_
  refine j_getI (n' := 4) F 1 rfl fl_X6_15 hk rfl dX6_add_1 rfl ?_
  refine j_bipush (n' := 6) F dX6_add_4 (by decide) rfl ?_
  refine j_icmp_lt (t := 10) (n' := 9) F (by first | omega | (split <;> omega)) (by first | omega | (split <;> omega)) dX6_add_6 (by decide) rfl (fun c6_0 => ?_) (fun c6_0 => ?_)
  · refine j_aload_0 (n' := 11) F dX6_add_10 rfl ?_
    refine j_getR (n' := 14) F fl_X6_9 hk rfl dX6_add_11 rfl ?_
    refine j_aload_0 (n' := 15) F dX6_add_14 rfl ?_
    refine j_getI (n' := 18) F 1 rfl fl_X6_15 hk rfl dX6_add_15 rfl ?_
    refine j_iload_1 (n' := 19) F dX6_add_18 rfl ?_
    refine j_iast (n' := 20) F hr (by decide) (by first | omega | (split <;> omega)) dX6_add_19 rfl (fun φ2 e2 => ?_)
    refine j_aload_0 (n' := 21) F dX6_add_20 rfl ?_
    refine j_dup (n' := 22) F rfl dX6_add_21 rfl ?_
    refine j_getI (n' := 25) F 1 rfl fl_X6_15 hk rfl dX6_add_22 rfl ?_
    refine j_iconst (n' := 26) F dX6_add_25 rfl ?_
    refine j_iadd (n' := 27) F dX6_add_26 rfl ?_
    refine j_putI (n' := 30) F 1 rfl fp_X6_15 hk rfl rfl dX6_add_27 rfl (fun φ3 e3 => ?_)
    refine j_iload_1 (n' := 31) F dX6_add_30 rfl ?_
    refine j_cS1i (n' := 34) F kl_X6_25 (c_Tok_isPlain hx) (by decide) (Nat.le_of_ble_eq_true rfl) dX6_add_31 rfl (fun z4 φ4 h4 => ?_)
    obtain ⟨rfl, rfl⟩ := h4
    refine j_if_eq (t := 47) (n' := 37) F (by first | omega | (split <;> omega)) dX6_add_34 (by decide) rfl (fun c34_4 => ?_) (fun c34_4 => ?_)
    · refine j_iload_1 (n' := 48) F dX6_add_47 rfl ?_
      refine j_cS1i (n' := 51) F kl_X6_31 (c_Tok_isCopy hx) (by decide) (Nat.le_of_ble_eq_true rfl) dX6_add_48 rfl (fun z6 φ6 h6 => ?_)
      obtain ⟨rfl, rfl⟩ := h6
      refine j_if_eq (t := 64) (n' := 54) F (by first | omega | (split <;> omega)) dX6_add_51 (by decide) rfl (fun c51_6 => ?_) (fun c51_6 => ?_)
      · exact j_return F E dX6_add_64 (⟨rowIs.push ht (by rw [e3, e2]; simp [zU, hro, hor]; try omega) (by rw [e3, e2]; simp [zU, hro, hor]; try omega) (by rw [e3, e2]; simp [zU, hro, hor]; try omega) (by rw [e3, e2]; simp [zU, hro, hor]; try omega) (fun b hb => by rw [e3, e2]; simp [zU, hro, hor, hb]), by rw [e3, e2]; repeat (first | exact frC.rf | refine frC.put ?_ (by first | simp | omega))⟩)
      · refine j_aload_0 (n' := 55) F dX6_add_54 rfl ?_
        refine j_dup (n' := 56) F rfl dX6_add_55 rfl ?_
        refine j_getI (n' := 59) F 3 rfl fl_X6_22 hk rfl dX6_add_56 rfl ?_
        refine j_iconst (n' := 60) F dX6_add_59 rfl ?_
        refine j_iadd (n' := 61) F dX6_add_60 rfl ?_
        refine j_putI (n' := 64) F 3 rfl fp_X6_22 hk rfl rfl dX6_add_61 rfl (fun φ8 e8 => ?_)
        exact j_return F E dX6_add_64 (⟨rowIs.push ht (by rw [e8, e3, e2]; simp [zU, hro, hor]; try omega) (by rw [e8, e3, e2]; simp [zU, hro, hor]; try omega) (by rw [e8, e3, e2]; simp [zU, hro, hor]; try omega) (by rw [e8, e3, e2]; simp [zU, hro, hor]; try omega) (fun b hb => by rw [e8, e3, e2]; simp [zU, hro, hor, hb]), by rw [e8, e3, e2]; repeat (first | exact frC.rf | refine frC.put ?_ (by first | simp | omega))⟩)
    · refine j_aload_0 (n' := 38) F dX6_add_37 rfl ?_
      refine j_dup (n' := 39) F rfl dX6_add_38 rfl ?_
      refine j_getI (n' := 42) F 2 rfl fl_X6_19 hk rfl dX6_add_39 rfl ?_
      refine j_iconst (n' := 43) F dX6_add_42 rfl ?_
      refine j_iadd (n' := 44) F dX6_add_43 rfl ?_
      refine j_putI (n' := 47) F 2 rfl fp_X6_19 hk rfl rfl dX6_add_44 rfl (fun φ9 e9 => ?_)
      refine j_iload_1 (n' := 48) F dX6_add_47 rfl ?_
      refine j_cS1i (n' := 51) F kl_X6_31 (c_Tok_isCopy hx) (by decide) (Nat.le_of_ble_eq_true rfl) dX6_add_48 rfl (fun z10 φ10 h10 => ?_)
      obtain ⟨rfl, rfl⟩ := h10
      refine j_if_eq (t := 64) (n' := 54) F (by first | omega | (split <;> omega)) dX6_add_51 (by decide) rfl (fun c51_10 => ?_) (fun c51_10 => ?_)
      · exact j_return F E dX6_add_64 (⟨rowIs.push ht (by rw [e9, e3, e2]; simp [zU, hro, hor]; try omega) (by rw [e9, e3, e2]; simp [zU, hro, hor]; try omega) (by rw [e9, e3, e2]; simp [zU, hro, hor]; try omega) (by rw [e9, e3, e2]; simp [zU, hro, hor]; try omega) (fun b hb => by rw [e9, e3, e2]; simp [zU, hro, hor, hb]), by rw [e9, e3, e2]; repeat (first | exact frC.rf | refine frC.put ?_ (by first | simp | omega))⟩)
      · refine j_aload_0 (n' := 55) F dX6_add_54 rfl ?_
        refine j_dup (n' := 56) F rfl dX6_add_55 rfl ?_
        refine j_getI (n' := 59) F 3 rfl fl_X6_22 hk rfl dX6_add_56 rfl ?_
        refine j_iconst (n' := 60) F dX6_add_59 rfl ?_
        refine j_iadd (n' := 61) F dX6_add_60 rfl ?_
        refine j_putI (n' := 64) F 3 rfl fp_X6_22 hk rfl rfl dX6_add_61 rfl (fun φ12 e12 => ?_)
        exact j_return F E dX6_add_64 (⟨rowIs.push ht (by rw [e12, e9, e3, e2]; simp [zU, hro, hor]; try omega) (by rw [e12, e9, e3, e2]; simp [zU, hro, hor]; try omega) (by rw [e12, e9, e3, e2]; simp [zU, hro, hor]; try omega) (by rw [e12, e9, e3, e2]; simp [zU, hro, hor]; try omega) (fun b hb => by rw [e12, e9, e3, e2]; simp [zU, hro, hor, hb]), by rw [e12, e9, e3, e2]; repeat (first | exact frC.rf | refine frC.put ?_ (by first | simp | omega))⟩)
  · exact j_return F E dX6_add_9 (by omega)
set_option maxRecDepth 20000 in
theorem c_Cla_isPrice {l : Launch} {G : jG} {B0 : Nat} {φ : jPhi} {x : Int} (hx : -2147483648 ≤ x ∧ x ≤ 2147483647) : jC l G B0 κF 113 yX7_isPrice cX7_isPrice 1 (some .boolean) 0 [iv x] φ mkI (fun z φ' => φ = φ' ∧ z = (if 0 ≤ x ∧ x < 18 then 1 else 0)) := by
  refine jC_start RX7 [some (iv x)] (by decide) rfl (Nat.le_of_ble_eq_true rfl) rfl (fun X Q F E => ?_)
  refine j_iload_0 (n' := 1) F dX7_isPrice_0 rfl ?_
  refine j_if_lt (t := 14) (n' := 4) F (by omega) dX7_isPrice_1 (by decide) rfl (fun c1_0 => ?_) (fun c1_0 => ?_)
  · refine j_iconst (n' := 15) F dX7_isPrice_14 rfl ?_
    exact j_zreturn F E (by omega) dX7_isPrice_15 (⟨rfl, by first | rfl | omega | (simp; omega) | (split <;> omega)⟩)
  · refine j_iload_0 (n' := 5) F dX7_isPrice_4 rfl ?_
    refine j_bipush (n' := 7) F dX7_isPrice_5 (by decide) rfl ?_
    refine j_icmp_ge (t := 14) (n' := 10) F (by omega) (by omega) dX7_isPrice_7 (by decide) rfl (fun c7_1 => ?_) (fun c7_1 => ?_)
    · refine j_iconst (n' := 15) F dX7_isPrice_14 rfl ?_
      exact j_zreturn F E (by omega) dX7_isPrice_15 (⟨rfl, by first | rfl | omega | (simp; omega) | (split <;> omega)⟩)
    · refine j_iconst (n' := 11) F dX7_isPrice_10 rfl ?_
      refine j_goto (t := 15) F dX7_isPrice_11 (by decide) ?_
      exact j_zreturn F E (by omega) dX7_isPrice_15 (⟨rfl, by first | rfl | omega | (simp; omega) | (split <;> omega)⟩)
set_option maxRecDepth 20000 in
theorem c_Pri_get {l : Launch} {G : jG} {B0 : Nat} {φ : jPhi} {o v w : Int} {x : Int} (hk : κF o = some (.inl (3, [.inl v, .inl w]))) (hv : κF v = some (.inr (.inl 18))) (hx : -2147483648 ≤ x ∧ x ≤ 2147483647) : jC l G B0 κF 113 yX3_get cX3_get 2 (some .int) 0 [rf B0 o, iv x] φ mkI (fun z φ' => φ = φ' ∧ z = pget (φ v) x) := by
  refine jC_start RX3 [some (rf B0 o), some (iv x)] (by decide) rfl (Nat.le_of_ble_eq_true rfl) rfl (fun X Q F E => ?_)
  refine j_iload_1 (n' := 1) F dX3_get_0 rfl ?_
  refine j_if_lt (t := 19) (n' := 4) F (by omega) dX3_get_1 (by decide) rfl (fun c1_0 => ?_) (fun c1_0 => ?_)
  · refine j_iconst (n' := 20) F dX3_get_19 rfl ?_
    exact j_ireturn F E dX3_get_20 (⟨rfl, by unfold pget; first | rw [if_neg (by omega)] | rw [if_pos (by omega)]⟩)
  · refine j_iload_1 (n' := 5) F dX3_get_4 rfl ?_
    refine j_bipush (n' := 7) F dX3_get_5 (by decide) rfl ?_
    refine j_icmp_ge (t := 19) (n' := 10) F (by omega) (by omega) dX3_get_7 (by decide) rfl (fun c7_1 => ?_) (fun c7_1 => ?_)
    · refine j_iconst (n' := 20) F dX3_get_19 rfl ?_
      exact j_ireturn F E dX3_get_20 (⟨rfl, by unfold pget; first | rw [if_neg (by omega)] | rw [if_pos (by omega)]⟩)
    · refine j_aload_0 (n' := 11) F dX3_get_10 rfl ?_
      refine j_getR (n' := 14) F fl_X3_18 hk rfl dX3_get_11 rfl ?_
      refine j_iload_1 (n' := 15) F dX3_get_14 rfl ?_
      refine j_iald (n' := 16) F hv (by decide) (by omega) dX3_get_15 rfl ?_
      refine j_goto (t := 20) F dX3_get_16 (by decide) ?_
      exact j_ireturn F E dX3_get_20 (⟨rfl, by unfold pget; first | rw [if_neg (by omega)] | rw [if_pos (by omega)]⟩)
set_option maxRecDepth 20000 in
theorem c_Pri_set {l : Launch} {G : jG} {B0 : Nat} {φ : jPhi} {o v w : Int} {x y : Int} (hk : κF o = some (.inl (3, [.inl v, .inl w]))) (hv : κF v = some (.inr (.inl 18))) (hx : 0 ≤ x ∧ x < 18) : jC l G B0 κF 113 yX3_set cX3_set 3 none 1 [rf B0 o, iv x, iv y] φ mkV (fun z φ' => φ' = zU φ v x y) := by
  refine jC_start RX3 [some (rf B0 o), some (iv x), some (iv y)] (by decide) rfl (Nat.le_of_ble_eq_true rfl) rfl (fun X Q F E => ?_)
  refine j_iload_1 (n' := 1) F dX3_set_0 rfl ?_
  refine j_cN1i (n' := 4) F kl_X3_26 (c_Cla_isPrice (by omega)) (by decide) (Nat.le_of_ble_eq_true rfl) dX3_set_1 rfl (fun z1 φ1 h1 => ?_)
  obtain ⟨rfl, rfl⟩ := h1
  refine j_if_eq (t := 14) (n' := 7) F (by first | omega | (split <;> omega)) dX3_set_4 (by decide) rfl (fun c4_1 => ?_) (fun c4_1 => ?_)
  · exact j_return F E dX3_set_14 (by rw [if_pos (by omega)] at *; omega)
  · refine j_aload_0 (n' := 8) F dX3_set_7 rfl ?_
    refine j_getR (n' := 11) F fl_X3_18 hk rfl dX3_set_8 rfl ?_
    refine j_iload_1 (n' := 12) F dX3_set_11 rfl ?_
    refine j_iload_2 (n' := 13) F dX3_set_12 rfl ?_
    refine j_iast (n' := 14) F hv (by decide) (by first | omega | (split <;> omega)) dX3_set_13 rfl (fun φ3 e3 => ?_)
    exact j_return F E dX3_set_14 (e3)
set_option maxRecDepth 20000 in
theorem c_Pri_ofToken {l : Launch} {G : jG} {B0 : Nat} {φ : jPhi} {o v w : Int} {x : Int} (hk : κF o = some (.inl (3, [.inl v, .inl w]))) (hv : κF v = some (.inr (.inl 18))) (hx : tkOk x) (hP : prOk (φ v)) : jC l G B0 κF 113 yX3_ofToken cX3_ofToken 3 (some .int) 1 [rf B0 o, iv x] φ mkI (fun z φ' => φ = φ' ∧ z = tkPrice (φ v) x) := by
  refine jC_start RX3 [some (rf B0 o), some (iv x), none] (by decide) rfl (Nat.le_of_ble_eq_true rfl) rfl (fun X Q F E => ?_)
  unfold tkOk at hx
  have hlen : 0 ≤ tkLen x ∧ tkLen x ≤ 9 := by unfold tkLen; split <;> omega
  have hdi : 0 ≤ tkDist x ∧ tkDist x ≤ 24 := by unfold tkDist; split <;> omega
  have hlg := zlog_bd 7 (tkDist x)
  refine j_iload_1 (n' := 1) F dX3_ofToken_0 rfl ?_
  refine j_cS1i (n' := 4) F kl_X3_34 (c_Tok_isPlain (by omega)) (by decide) (Nat.le_of_ble_eq_true rfl) dX3_ofToken_1 rfl (fun z1 φ1 h1 => ?_)
  obtain ⟨rfl, rfl⟩ := h1
  refine j_if_eq (t := 13) (n' := 7) F (by first | omega | (split <;> omega)) dX3_ofToken_4 (by decide) rfl (fun c4_1 => ?_) (fun c4_1 => ?_)
  · refine j_aload_0 (n' := 14) F dX3_ofToken_13 rfl ?_
    refine j_bipush (n' := 16) F dX3_ofToken_14 (by decide) rfl ?_
    refine j_iload_1 (n' := 17) F dX3_ofToken_16 rfl ?_
    refine j_cS1i (n' := 20) F kl_X3_39 (c_Tok_lengthOf (by omega)) (by decide) (Nat.le_of_ble_eq_true rfl) dX3_ofToken_17 rfl (fun z3 φ3 h3 => ?_)
    obtain ⟨rfl, rfl⟩ := h3
    refine j_iadd (n' := 21) F dX3_ofToken_20 rfl ?_
    refine j_iconst (n' := 22) F dX3_ofToken_21 rfl ?_
    refine j_isub (n' := 23) F dX3_ofToken_22 rfl ?_
    refine j_cV1i (n' := 26) F kl_X3_30 (c_Pri_get hk hv (by omega)) hk rfl (by decide) (Nat.le_of_ble_eq_true rfl) dX3_ofToken_23 rfl (fun z4 φ4 h4 => ?_)
    obtain ⟨rfl, rfl⟩ := h4
    refine j_istore_2 (n' := 27) F (by decide) jc_i dX3_ofToken_26 rfl ?_
    refine j_iload_1 (n' := 28) F dX3_ofToken_27 rfl ?_
    refine j_cS1i (n' := 31) F kl_X3_42 (c_Tok_isCopy (by omega)) (by decide) (Nat.le_of_ble_eq_true rfl) dX3_ofToken_28 rfl (fun z5 φ5 h5 => ?_)
    obtain ⟨rfl, rfl⟩ := h5
    refine j_if_ne (t := 43) (n' := 34) F (by first | omega | (split <;> omega)) dX3_ofToken_31 (by decide) rfl (fun c31_5 => ?_) (fun c31_5 => ?_)
    · refine j_aload_0 (n' := 44) F dX3_ofToken_43 rfl ?_
      refine j_iconst (n' := 45) F dX3_ofToken_44 rfl ?_
      refine j_cV1i (n' := 48) F kl_X3_30 (c_Pri_get hk hv (by omega)) hk rfl (by decide) (Nat.le_of_ble_eq_true rfl) dX3_ofToken_45 rfl (fun z7 φ7 h7 => ?_)
      obtain ⟨rfl, rfl⟩ := h7
      refine j_aload_0 (n' := 49) F dX3_ofToken_48 rfl ?_
      refine j_iconst (n' := 50) F dX3_ofToken_49 rfl ?_
      refine j_iload_1 (n' := 51) F dX3_ofToken_50 rfl ?_
      refine j_cS1i (n' := 54) F kl_X3_45 (c_Tok_distanceOf (by omega)) (by decide) (Nat.le_of_ble_eq_true rfl) dX3_ofToken_51 rfl (fun z8 φ8 h8 => ?_)
      obtain ⟨rfl, rfl⟩ := h8
      refine j_cN1i (n' := 57) F kl_X3_48 (c_Cla_log (by omega)) (by decide) (Nat.le_of_ble_eq_true rfl) dX3_ofToken_54 rfl (fun z9 φ9 h9 => ?_)
      obtain ⟨rfl, rfl⟩ := h9
      refine j_iadd (n' := 58) F dX3_ofToken_57 rfl ?_
      refine j_cV1i (n' := 61) F kl_X3_30 (c_Pri_get hk hv (by omega)) hk rfl (by decide) (Nat.le_of_ble_eq_true rfl) dX3_ofToken_58 rfl (fun z10 φ10 h10 => ?_)
      obtain ⟨rfl, rfl⟩ := h10
      refine j_iadd (n' := 62) F dX3_ofToken_61 rfl ?_
      refine j_iload_2 (n' := 63) F dX3_ofToken_62 rfl ?_
      refine j_iadd (n' := 64) F dX3_ofToken_63 rfl ?_
      exact j_ireturn F E dX3_ofToken_64 (⟨rfl, by unfold tkPrice; repeat (first | rfl | omega | split)⟩)
    · refine j_aload_0 (n' := 35) F dX3_ofToken_34 rfl ?_
      refine j_bipush (n' := 37) F dX3_ofToken_35 (by decide) rfl ?_
      refine j_cV1i (n' := 40) F kl_X3_30 (c_Pri_get hk hv (by omega)) hk rfl (by decide) (Nat.le_of_ble_eq_true rfl) dX3_ofToken_37 rfl (fun z11 φ11 h11 => ?_)
      obtain ⟨rfl, rfl⟩ := h11
      refine j_iload_2 (n' := 41) F dX3_ofToken_40 rfl ?_
      refine j_iadd (n' := 42) F dX3_ofToken_41 rfl ?_
      exact j_ireturn F E dX3_ofToken_42 (⟨rfl, by unfold tkPrice; repeat (first | rfl | omega | split)⟩)
  · refine j_aload_0 (n' := 8) F dX3_ofToken_7 rfl ?_
    refine j_iload_1 (n' := 9) F dX3_ofToken_8 rfl ?_
    refine j_cV1i (n' := 12) F kl_X3_30 (c_Pri_get hk hv (by omega)) hk rfl (by decide) (Nat.le_of_ble_eq_true rfl) dX3_ofToken_9 rfl (fun z12 φ12 h12 => ?_)
    obtain ⟨rfl, rfl⟩ := h12
    exact j_ireturn F E dX3_ofToken_12 (⟨rfl, by unfold tkPrice; repeat (first | rfl | omega | split)⟩)
set_option maxRecDepth 20000 in
theorem c_Pri_ofRow {l : Launch} {G : jG} {B0 : Nat} {φ : jPhi} {o v w : Int} {o2 r2 : Int} {ts : List Int} (hk : κF o = some (.inl (3, [.inl v, .inl w]))) (hv : κF v = some (.inr (.inl 18))) (hP : prOk (φ v)) (hk2 : κF o2 = some (.inl (5, [.inl r2, .inr 0, .inr 0, .inr 0]))) (hr2 : κF r2 = some (.inr (.inl 24))) (ht : rowIs φ o2 r2 ts) (hl : ts.length ≤ 24) (hok : rwOk ts) : jC l G B0 κF 113 yX3_ofRow cX3_ofRow 4 (some .int) 2 [rf B0 o, rf B0 o2] φ mkI (fun z φ' => φ = φ' ∧ z = rwSum (tkPrice (φ v)) ts) := by
  refine jC_start RX3 [some (rf B0 o), some (rf B0 o2), none, none] (by decide) rfl (Nat.le_of_ble_eq_true rfl) rfl (fun X Q F E => ?_)
  have h1 := ht.1
  have loop : ∀ (m k : Nat) (a : Int), k + m = ts.length → 0 ≤ a → a ≤ 90 * k → a + rwSum (tkPrice (φ v)) (ts.drop k) = rwSum (tkPrice (φ v)) ts → jJ X G B0 κF 113 0 0 Q 4 φ 4 [some (rf B0 o), some (rf B0 o2), some (iv a), some (iv (k : Int))] [] := by
    intro m
    induction m with
    | zero =>
      intro k a h2 h3 h4 h5
      rw [List.drop_eq_nil_of_le (by omega)] at h5
      refine j_iload_3 (n' := 5) F dX3_ofRow_4 rfl ?_
      refine j_aload_1 (n' := 6) F dX3_ofRow_5 rfl ?_
      refine j_cV0i (n' := 9) F kl_X3_51 (c_Row_size hk2) hk2 rfl (by decide) (Nat.le_of_ble_eq_true rfl) dX3_ofRow_6 rfl (fun z1 φ1 h1 => ?_)
      obtain ⟨rfl, rfl⟩ := h1
      refine j_icmp_ge (t := 30) (n' := 12) F (by omega) (by omega) dX3_ofRow_9 (by decide) rfl (fun c9_1 => ?_) (fun c9_1 => ?_)
      · refine j_iload_2 (n' := 31) F dX3_ofRow_30 rfl ?_
        exact j_ireturn F E dX3_ofRow_31 (⟨rfl, by simpa [rwSum] using h5⟩)
      · omega
    | succ m ih =>
      intro k a h2 h3 h4 h5
      rw [rwSum_drop (by omega)] at h5
      have hb := tkPrice_bd hP (ts.getD k 0)
      refine j_iload_3 (n' := 5) F dX3_ofRow_4 rfl ?_
      refine j_aload_1 (n' := 6) F dX3_ofRow_5 rfl ?_
      refine j_cV0i (n' := 9) F kl_X3_51 (c_Row_size hk2) hk2 rfl (by decide) (Nat.le_of_ble_eq_true rfl) dX3_ofRow_6 rfl (fun z1 φ1 h1 => ?_)
      obtain ⟨rfl, rfl⟩ := h1
      refine j_icmp_ge (t := 30) (n' := 12) F (by omega) (by omega) dX3_ofRow_9 (by decide) rfl (fun c9_1 => ?_) (fun c9_1 => ?_)
      · refine j_iload_2 (n' := 31) F dX3_ofRow_30 rfl ?_
        exact j_ireturn F E dX3_ofRow_31 (by omega)
      · refine j_iload_2 (n' := 13) F dX3_ofRow_12 rfl ?_
        refine j_aload_0 (n' := 14) F dX3_ofRow_13 rfl ?_
        refine j_aload_1 (n' := 15) F dX3_ofRow_14 rfl ?_
        refine j_iload_3 (n' := 16) F dX3_ofRow_15 rfl ?_
        refine j_cV1i (n' := 19) F kl_X3_57 (c_Row_get hk2 hr2 (by omega) (by omega)) hk2 rfl (by decide) (Nat.le_of_ble_eq_true rfl) dX3_ofRow_16 rfl (fun z3 φ3 h3 => ?_)
        obtain ⟨rfl, rfl⟩ := h3
        rw [if_pos (by omega), ht.2.2.2 k (by omega)]
        refine j_cV1i (n' := 22) F kl_X3_58 (c_Pri_ofToken hk hv (hok _ (rw_mem (by omega))) hP) hk rfl (by decide) (Nat.le_of_ble_eq_true rfl) dX3_ofRow_19 rfl (fun z4 φ4 h4 => ?_)
        obtain ⟨rfl, rfl⟩ := h4
        refine j_iadd (n' := 23) F dX3_ofRow_22 rfl ?_
        refine j_istore_2 (n' := 24) F (by decide) jc_r dX3_ofRow_23 rfl ?_
        refine j_iinc_3 (n' := 27) F (by decide) jc_i dX3_ofRow_24 rfl ?_
        refine j_goto (t := 4) F dX3_ofRow_27 (by decide) ?_
        exact ih (k + 1) (a + tkPrice (φ v) (ts.getD k 0)) (by omega) (by omega) (by omega) (by omega)
  refine j_iconst (n' := 1) F dX3_ofRow_0 rfl ?_
  refine j_istore_2 (n' := 2) F (by decide) jc_r dX3_ofRow_1 rfl ?_
  refine j_iconst (n' := 3) F dX3_ofRow_2 rfl ?_
  refine j_istore_3 (n' := 4) F (by decide) jc_i dX3_ofRow_3 rfl ?_
  exact loop ts.length 0 0 (by omega) (by omega) (by omega) (by simp)
