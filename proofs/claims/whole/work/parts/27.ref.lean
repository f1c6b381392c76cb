/-! ===== the reference ===== -/
def miOk (φ : jPhi) : Prop := (0 ≤ φ 99 0 ∧ φ 99 0 ≤ 30) ∧ (∀ k, 0 ≤ k → k < φ 99 0 → 32 ≤ φ 100 k ∧ φ 100 k ≤ 126) ∧ (0 ≤ φ 99 2 ∧ φ 99 2 ≤ 24) ∧ txOk (φ 101) (φ 99 2) ∧ prOk (φ 102)
theorem miOk.fr {φ φ' : jPhi} (h : miOk φ) (h0 : φ' 99 0 = φ 99 0) (h2 : φ' 99 2 = φ 99 2) (hf : ∀ a, (a = 100 ∨ a = 101 ∨ a = 102) → ∀ b, φ' a b = φ a b) : miOk φ' := by
  obtain ⟨c1, c2, c3, c4, c5⟩ := h
  have e0 : φ' 100 = φ 100 := funext (hf 100 (by omega))
  have e1 : φ' 101 = φ 101 := funext (hf 101 (by omega))
  have e2 : φ' 102 = φ 102 := funext (hf 102 (by omega))
  exact ⟨by rw [h0]; exact c1, by rw [h0, e0]; exact c2, by rw [h2]; exact c3, by rw [e1, h2]; exact c4, by rw [e2]; exact c5⟩
theorem pubM_fr {φ φ' : jPhi} (h : ∀ a, (a = 100 ∨ a = 101 ∨ a = 102) → ∀ b, φ' a b = φ a b) (h0 : ∀ b, (b = 0 ∨ b = 2 ∨ b = 5 ∨ b = 6 ∨ b = 7) → φ' 99 b = φ 99 b) : pubM φ' = pubM φ := by
  unfold pubM
  rw [funext (h 100 (by omega)), h0 0 (by omega), funext (h 101 (by omega)), h0 2 (by omega), funext (h 102 (by omega)), h0 5 (by omega), h0 6 (by omega), h0 7 (by omega)]
theorem zlog_tab0 : ∀ k : Fin 24, zlog 7 (((k : Nat) : Int) + 1) = if (((k : Nat) : Int) + 1) = 1 then 0 else if (((k : Nat) : Int) + 1) < 4 then 1 else if (((k : Nat) : Int) + 1) < 8 then 2 else if (((k : Nat) : Int) + 1) < 16 then 3 else 4 := by decide +kernel
theorem zlog_tab {d : Int} (h : 1 ≤ d ∧ d ≤ 24) : zlog 7 d = if d = 1 then 0 else if d < 4 then 1 else if d < 8 then 2 else if d < 16 then 3 else 4 := by
  have h1 := zlog_tab0 ⟨(d - 1).toNat, by omega⟩
  have e : (((d - 1).toNat : Nat) : Int) + 1 = d := by omega
  simp only [e] at h1
  exact h1
theorem tkPrice_copy {P : Int → Int} {d j : Int} (h : 2 ≤ j ∧ j ≤ 8) (hd : 1 ≤ d ∧ d ≤ 24) : tkPrice P (1000 + 10 * d + j) = P 4 + P (5 + zlog 7 d) + P (10 + j - 2) := by
  obtain ⟨a1, a2, a3, a4⟩ := tk_copy (d := d) h hd 0
  have hz := zlog_tab hd
  have hz2 : 0 ≤ zlog 7 d ∧ zlog 7 d ≤ 4 := by
    rw [hz]
    repeat (first | omega | split)
  unfold tkPrice
  rw [if_neg (by omega), if_neg (by omega), a2, a3]
  unfold pget
  rw [if_pos (by omega), if_pos (by omega), if_pos (by omega)]
theorem tkPrice_again {P : Int → Int} {j : Int} (h : 2 ≤ j ∧ j ≤ 8) : tkPrice P (100 + j) = P 17 + P (10 + j - 2) := by
  obtain ⟨a1, a2, a3⟩ := tk_again h 0
  unfold tkPrice
  rw [if_neg (by omega), if_pos (by omega), a2]
  unfold pget
  rw [if_pos (by omega), if_pos (by omega)]
theorem tkPrice_plain {P : Int → Int} {c : Int} (h : 0 ≤ c ∧ c ≤ 3) : tkPrice P c = P c := by
  unfold tkPrice
  rw [if_pos (by omega), pget, if_pos (by omega)]
set_option maxRecDepth 20000 in
theorem c_Mod_within {l : Launch} {G : jG} {B0 : Nat} {φ : jPhi} {x y w : Int} (hx : -2147483648 ≤ x ∧ x ≤ 2147483647) (hy : -2147483648 ≤ y ∧ y ≤ 2147483647) (hw : -2147483648 ≤ w ∧ w ≤ 2147483647) : jC l G B0 κF 113 yX8_within cX8_within 3 (some .boolean) 0 [iv x, iv y, iv w] φ mkI (fun z φ' => φ = φ' ∧ z = (if y ≤ x ∧ x ≤ w then 1 else 0)) := by
  refine jC_start RX8 [some (iv x), some (iv y), some (iv w)] (by decide) rfl (Nat.le_of_ble_eq_true rfl) rfl (fun X Q F E => ?_)
  refine j_iload_0 (n' := 1) F dX8_within_0 rfl ?_
  refine j_iload_1 (n' := 2) F dX8_within_1 rfl ?_
  refine j_icmp_lt (t := 14) (n' := 5) F (by omega) (by omega) dX8_within_2 (by decide) rfl (fun c2_0 => ?_) (fun c2_0 => ?_)
  · refine j_iconst (n' := 15) F dX8_within_14 rfl ?_
    exact j_zreturn F E (by omega) dX8_within_15 (⟨rfl, by first | rfl | omega | (simp; omega) | (split <;> omega)⟩)
  · refine j_iload_0 (n' := 6) F dX8_within_5 rfl ?_
    refine j_iload_2 (n' := 7) F dX8_within_6 rfl ?_
    refine j_icmp_gt (t := 14) (n' := 10) F (by omega) (by omega) dX8_within_7 (by decide) rfl (fun c7_1 => ?_) (fun c7_1 => ?_)
    · refine j_iconst (n' := 15) F dX8_within_14 rfl ?_
      exact j_zreturn F E (by omega) dX8_within_15 (⟨rfl, by first | rfl | omega | (simp; omega) | (split <;> omega)⟩)
    · refine j_iconst (n' := 11) F dX8_within_10 rfl ?_
      refine j_goto (t := 15) F dX8_within_11 (by decide) ?_
      exact j_zreturn F E (by omega) dX8_within_15 (⟨rfl, by first | rfl | omega | (simp; omega) | (split <;> omega)⟩)
set_option maxRecDepth 20000 in
theorem c_Mod_isPrice {l : Launch} {G : jG} {B0 : Nat} {φ : jPhi} {x : Int} (hx : -2147483648 ≤ x ∧ x ≤ 2147483647) : jC l G B0 κF 113 yX8_isPrice cX8_isPrice 1 (some .boolean) 1 [iv x] φ mkI (fun z φ' => φ = φ' ∧ z = (if 0 ≤ x ∧ x ≤ 17 then 1 else 0)) := by
  refine jC_start RX8 [some (iv x)] (by decide) rfl (Nat.le_of_ble_eq_true rfl) rfl (fun X Q F E => ?_)
  refine j_iload_0 (n' := 1) F dX8_isPrice_0 rfl ?_
  refine j_iconst (n' := 2) F dX8_isPrice_1 rfl ?_
  refine j_bipush (n' := 4) F dX8_isPrice_2 (by decide) rfl ?_
  refine j_cS3i (n' := 7) F kl_X8_49 (c_Mod_within hx (by omega) (by omega)) (by decide) (Nat.le_of_ble_eq_true rfl) dX8_isPrice_4 rfl (fun z1 φ1 h1 => ?_)
  obtain ⟨rfl, rfl⟩ := h1
  exact j_zreturn F E (by split <;> omega) dX8_isPrice_7 (⟨rfl, rfl⟩)
set_option maxRecDepth 20000 in
theorem c_Mod_lengthOf {l : Launch} {G : jG} {B0 : Nat} {φ : jPhi} {x : Int} (hx : -2147483648 ≤ x ∧ x ≤ 2147483647) : jC l G B0 κF 113 yX8_lengthOf cX8_lengthOf 1 (some .int) 0 [iv x] φ mkI (fun z φ' => φ = φ' ∧ z = tkLen x) := by
  refine jC_start RX8 [some (iv x)] (by decide) rfl (Nat.le_of_ble_eq_true rfl) rfl (fun X Q F E => ?_)
  refine j_iload_0 (n' := 1) F dX8_lengthOf_0 rfl ?_
  refine j_bipush (n' := 3) F dX8_lengthOf_1 (by decide) rfl ?_
  refine j_icmp_ge (t := 10) (n' := 6) F (by omega) (by omega) dX8_lengthOf_3 (by decide) rfl (fun c3_0 => ?_) (fun c3_0 => ?_)
  · refine j_iload_0 (n' := 11) F dX8_lengthOf_10 rfl ?_
    refine j_bipush (n' := 13) F dX8_lengthOf_11 (by decide) rfl ?_
    refine j_irem (n' := 14) F (by omega) (by omega) dX8_lengthOf_13 rfl ?_
    exact j_ireturn F E dX8_lengthOf_14 (⟨rfl, by unfold tkLen; split <;> omega⟩)
  · refine j_iconst (n' := 7) F dX8_lengthOf_6 rfl ?_
    refine j_goto (t := 14) F dX8_lengthOf_7 (by decide) ?_
    exact j_ireturn F E dX8_lengthOf_14 (⟨rfl, by unfold tkLen; split <;> omega⟩)
set_option maxRecDepth 20000 in
theorem c_Mod_letter {l : Launch} {G : jG} {B0 : Nat} {φ : jPhi} {x : Int} (hc : miOk φ) (hx : -2147483648 ≤ x ∧ x ≤ 2147483647) : jC l G B0 κF 113 yX8_letter cX8_letter 2 (some .int) 1 [rf B0 99, iv x] φ mkI (fun z φ' => (z, pubM φ') = spLet (pubM φ) x ∧ miOk φ' ∧ frC (fun a => 99 ≤ a) φ φ') := by
  refine jC_start RX8 [some (rf B0 99), some (iv x)] (by decide) rfl (Nat.le_of_ble_eq_true rfl) rfl (fun X Q F E => ?_)
  have hc0 := hc
  obtain ⟨c1, c2, c3, c5, c6⟩ := hc0
  refine j_iload_1 (n' := 1) F dX8_letter_0 rfl ?_
  refine j_bipush (n' := 3) F dX8_letter_1 (by decide) rfl ?_
  refine j_bipush (n' := 5) F dX8_letter_3 (by decide) rfl ?_
  refine j_cS3i (n' := 8) F kl_X8_49 (c_Mod_within hx (by omega) (by omega)) (by decide) (Nat.le_of_ble_eq_true rfl) dX8_letter_5 rfl (fun z1 φ1 h1 => ?_)
  obtain ⟨rfl, rfl⟩ := h1
  refine j_if_ne (t := 15) (n' := 11) F (by first | omega | (split <;> omega)) dX8_letter_8 (by decide) rfl (fun c8_1 => ?_) (fun c8_1 => ?_)
  · refine j_aload_0 (n' := 16) F dX8_letter_15 rfl ?_
    refine j_getI (n' := 19) F 0 rfl fl_X8_53 kap_99 rfl dX8_letter_16 rfl ?_
    refine j_bipush (n' := 21) F dX8_letter_19 (by decide) rfl ?_
    refine j_icmp_ne (t := 28) (n' := 24) F (by first | omega | (split <;> omega)) (by first | omega | (split <;> omega)) dX8_letter_21 (by decide) rfl (fun c21_2 => ?_) (fun c21_2 => ?_)
    · refine j_aload_0 (n' := 29) F dX8_letter_28 rfl ?_
      refine j_getR (n' := 32) F fl_X8_7 kap_99 rfl dX8_letter_29 rfl ?_
      refine j_aload_0 (n' := 33) F dX8_letter_32 rfl ?_
      refine j_getI (n' := 36) F 0 rfl fl_X8_53 kap_99 rfl dX8_letter_33 rfl ?_
      refine j_iload_1 (n' := 37) F dX8_letter_36 rfl ?_
      refine j_iast (n' := 38) F kap_100 (by decide) (by first | omega | (split <;> omega)) dX8_letter_37 rfl (fun φ4 e4 => ?_)
      refine j_aload_0 (n' := 39) F dX8_letter_38 rfl ?_
      refine j_dup (n' := 40) F rfl dX8_letter_39 rfl ?_
      refine j_getI (n' := 43) F 0 rfl fl_X8_53 kap_99 rfl dX8_letter_40 rfl ?_
      refine j_iconst (n' := 44) F dX8_letter_43 rfl ?_
      refine j_iadd (n' := 45) F dX8_letter_44 rfl ?_
      refine j_putI (n' := 48) F 0 rfl fp_X8_53 kap_99 rfl rfl dX8_letter_45 rfl (fun φ5 e5 => ?_)
      refine j_aload_0 (n' := 49) F dX8_letter_48 rfl ?_
      refine j_getI (n' := 52) F 0 rfl fl_X8_53 kap_99 rfl dX8_letter_49 rfl ?_
      refine j_ireturn F E dX8_letter_52 ?_
      have hin : 32 ≤ x ∧ x ≤ 126 := by split at * <;> omega
      have w1 : φ5 99 0 = φ 99 0 + 1 := by rw [e5, zU_self, e4, zU_ne (by omega)]
      have q2 : φ5 100 = fun k => if k = φ 99 0 then x else φ 100 k := by rw [e5, zU_off (by omega), e4, zU_row]
      have q0 : ∀ a, a ≠ 99 → a ≠ 100 → φ5 a = φ a := fun a k1 k2 => by rw [e5, zU_off k1, e4, zU_off k2]
      have q9 : ∀ b, b ≠ 0 → φ5 99 b = φ 99 b := fun b k1 => by rw [e5, zU_ne (by omega), e4, zU_ne (by omega)]
      refine ⟨?_, ⟨by omega, fun k k1 k2 => ?_, by rw [q9 2 (by omega)]; exact c3, by rw [q0 101 (by omega) (by omega), q9 2 (by omega)]; exact c5, by rw [q0 102 (by omega) (by omega)]; exact c6⟩, ?_⟩
      · unfold spLet pubM
        dsimp only
        rw [if_neg (by omega), if_neg (by omega), q2, w1, q0 101 (by omega) (by omega), q9 2 (by omega), q0 102 (by omega) (by omega), q9 5 (by omega), q9 6 (by omega), q9 7 (by omega)]
      · rw [q2]
        dsimp only
        split
        · omega
        · exact c2 k k1 (by omega)
      · rw [e5, e4]
        exact (frC.put frC.rf (by omega)).put (by omega)
    · refine j_sipush (n' := 27) F dX8_letter_24 (by decide) rfl ?_
      exact j_ireturn F E dX8_letter_27 (⟨by unfold spLet pubM; dsimp only; rw [if_neg (by split at * <;> omega), if_pos (by omega)], hc, frC.rf⟩)
  · refine j_sipush (n' := 14) F dX8_letter_11 (by decide) rfl ?_
    exact j_ireturn F E dX8_letter_14 (⟨by unfold spLet pubM; dsimp only; rw [if_pos (by split at * <;> omega)], hc, frC.rf⟩)
set_option maxRecDepth 20000 in
theorem c_Mod_blank {l : Launch} {G : jG} {B0 : Nat} {φ : jPhi}  (hc : miOk φ) : jC l G B0 κF 113 yX8_blank cX8_blank 2 (some .int) 0 [rf B0 99] φ mkI (fun z φ' => (z, pubM φ') = spBlank (pubM φ) ∧ miOk φ' ∧ frC (fun a => 99 ≤ a) φ φ') := by
  refine jC_start RX8 [some (rf B0 99), none] (by decide) rfl (Nat.le_of_ble_eq_true rfl) rfl (fun X Q F E => ?_)
  have hc0 := hc
  obtain ⟨c1, c2, c3, c5, c6⟩ := hc0
  refine j_aload_0 (n' := 1) F dX8_blank_0 rfl ?_
  refine j_getI (n' := 4) F 0 rfl fl_X8_53 kap_99 rfl dX8_blank_1 rfl ?_
  refine j_istore_1 (n' := 5) F (by decide) jc_r dX8_blank_4 rfl ?_
  refine j_aload_0 (n' := 6) F dX8_blank_5 rfl ?_
  refine j_iconst (n' := 7) F dX8_blank_6 rfl ?_
  refine j_putI (n' := 10) F 0 rfl fp_X8_53 kap_99 rfl rfl dX8_blank_7 rfl (fun φ1 e1 => ?_)
  refine j_iload_1 (n' := 11) F dX8_blank_10 rfl ?_
  refine j_ireturn F E dX8_blank_11 ?_
  have q0 : ∀ a, a ≠ 99 → φ1 a = φ a := fun a k1 => by rw [e1, zU_off k1]
  have q9 : ∀ b, b ≠ 0 → φ1 99 b = φ 99 b := fun b k1 => by rw [e1, zU_ne (by omega)]
  have w1 : φ1 99 0 = 0 := by rw [e1, zU_self]
  refine ⟨?_, ⟨by omega, fun k k1 k2 => by omega, by rw [q9 2 (by omega)]; exact c3, by rw [q0 101 (by omega), q9 2 (by omega)]; exact c5, by rw [q0 102 (by omega)]; exact c6⟩, by rw [e1]; exact frC.put frC.rf (by omega)⟩
  unfold spBlank pubM
  dsimp only
  rw [q0 100 (by omega), w1, q0 101 (by omega), q9 2 (by omega), q0 102 (by omega), q9 5 (by omega), q9 6 (by omega), q9 7 (by omega)]
set_option maxRecDepth 20000 in
theorem c_Mod_textFault {l : Launch} {G : jG} {B0 : Nat} {φ : jPhi}  (hc : miOk φ) : jC l G B0 κF 113 yX8_textFault cX8_textFault 2 (some .int) 1 [rf B0 99] φ mkI (fun z φ' => φ = φ' ∧ z = tfl (φ 100) (φ 99 0) 25 0) := by
  refine jC_start RX8 [some (rf B0 99), none] (by decide) rfl (Nat.le_of_ble_eq_true rfl) rfl (fun X Q F E => ?_)
  have hc0 := hc
  obtain ⟨c1, c2, c3, c5, c6⟩ := hc0
  have loop : ∀ (k : Nat) (i : Int), i + k = 25 → 0 ≤ i → i ≤ 24 → tfl (φ 100) (φ 99 0) k i = tfl (φ 100) (φ 99 0) 25 0 → jJ X G B0 κF 113 0 0 Q 2 φ 2 [some (rf B0 99), some (iv i)] [] := by
    intro k
    induction k with
    | zero => intro i h1 h2 h3; omega
    | succ k ih =>
      intro i h1 h2 h3 h5
      rw [tfl] at h5
      refine j_iload_1 (n' := 3) F dX8_textFault_2 rfl ?_
      refine j_aload_0 (n' := 4) F dX8_textFault_3 rfl ?_
      refine j_getI (n' := 7) F 0 rfl fl_X8_53 kap_99 rfl dX8_textFault_4 rfl ?_
      refine j_icmp_ge (t := 38) (n' := 10) F (by first | omega | (split <;> omega)) (by first | omega | (split <;> omega)) dX8_textFault_7 (by decide) rfl (fun c7_0 => ?_) (fun c7_0 => ?_)
      · refine j_iload_1 (n' := 39) F dX8_textFault_38 rfl ?_
        exact j_ireturn F E dX8_textFault_39 (⟨rfl, by rw [if_neg (by split at * <;> omega)] at h5; exact h5⟩)
      · refine j_iload_1 (n' := 11) F dX8_textFault_10 rfl ?_
        refine j_bipush (n' := 13) F dX8_textFault_11 (by decide) rfl ?_
        refine j_icmp_ge (t := 38) (n' := 16) F (by first | omega | (split <;> omega)) (by first | omega | (split <;> omega)) dX8_textFault_13 (by decide) rfl (fun c13_1 => ?_) (fun c13_1 => ?_)
        · refine j_iload_1 (n' := 39) F dX8_textFault_38 rfl ?_
          exact j_ireturn F E dX8_textFault_39 (⟨rfl, by rw [if_neg (by split at * <;> omega)] at h5; exact h5⟩)
        · refine j_aload_0 (n' := 17) F dX8_textFault_16 rfl ?_
          refine j_getR (n' := 20) F fl_X8_7 kap_99 rfl dX8_textFault_17 rfl ?_
          refine j_iload_1 (n' := 21) F dX8_textFault_20 rfl ?_
          refine j_iald (n' := 22) F kap_100 (by decide) (by first | omega | (split <;> omega)) dX8_textFault_21 rfl ?_
          refine j_bipush (n' := 24) F dX8_textFault_22 (by decide) rfl ?_
          refine j_bipush (n' := 26) F dX8_textFault_24 (by decide) rfl ?_
          refine j_cS3i (n' := 29) F kl_X8_49 (c_Mod_within (by have := c2 i h2 (by omega); omega) (by omega) (by omega)) (by decide) (Nat.le_of_ble_eq_true rfl) dX8_textFault_26 rfl (fun z3 φ3 h3 => ?_)
          obtain ⟨rfl, rfl⟩ := h3
          refine j_if_eq (t := 38) (n' := 32) F (by first | omega | (split <;> omega)) dX8_textFault_29 (by decide) rfl (fun c29_3 => ?_) (fun c29_3 => ?_)
          · refine j_iload_1 (n' := 39) F dX8_textFault_38 rfl ?_
            exact j_ireturn F E dX8_textFault_39 (⟨rfl, by rw [if_neg (by split at * <;> omega)] at h5; exact h5⟩)
          · refine j_iinc_1 (n' := 35) F (by decide) jc_r dX8_textFault_32 rfl ?_
            refine j_goto (t := 2) F dX8_textFault_35 (by decide) ?_
            exact ih (i + 1) (by omega) (by omega) (by omega) (by rw [if_pos (by split at * <;> omega)] at h5; exact h5)
  refine j_iconst (n' := 1) F dX8_textFault_0 rfl ?_
  refine j_istore_1 (n' := 2) F (by decide) jc_r dX8_textFault_1 rfl ?_
  exact loop 25 0 (by omega) (by omega) (by omega) rfl
set_option maxRecDepth 20000 in
theorem c_Mod_farOf {l : Launch} {G : jG} {B0 : Nat} {φ : jPhi} {d : Int} (hd : 1 ≤ d ∧ d ≤ 24) : jC l G B0 κF 113 yX8_farOf cX8_farOf 1 (some .int) 0 [iv d] φ mkI (fun z φ' => φ = φ' ∧ z = zlog 7 d) := by
  refine jC_start RX8 [some (iv d)] (by decide) rfl (Nat.le_of_ble_eq_true rfl) rfl (fun X Q F E => ?_)
  refine j_iload_0 (n' := 1) F dX8_farOf_0 rfl ?_
  refine j_iconst (n' := 2) F dX8_farOf_1 rfl ?_
  refine j_icmp_ne (t := 9) (n' := 5) F (by omega) (by omega) dX8_farOf_2 (by decide) rfl (fun c2_0 => ?_) (fun c2_0 => ?_)
  · refine j_iload_0 (n' := 10) F dX8_farOf_9 rfl ?_
    refine j_iconst (n' := 11) F dX8_farOf_10 rfl ?_
    refine j_icmp_ge (t := 18) (n' := 14) F (by omega) (by omega) dX8_farOf_11 (by decide) rfl (fun c11_1 => ?_) (fun c11_1 => ?_)
    · refine j_iload_0 (n' := 19) F dX8_farOf_18 rfl ?_
      refine j_bipush (n' := 21) F dX8_farOf_19 (by decide) rfl ?_
      refine j_icmp_ge (t := 28) (n' := 24) F (by omega) (by omega) dX8_farOf_21 (by decide) rfl (fun c21_2 => ?_) (fun c21_2 => ?_)
      · refine j_iload_0 (n' := 29) F dX8_farOf_28 rfl ?_
        refine j_bipush (n' := 31) F dX8_farOf_29 (by decide) rfl ?_
        refine j_icmp_ge (t := 38) (n' := 34) F (by omega) (by omega) dX8_farOf_31 (by decide) rfl (fun c31_3 => ?_) (fun c31_3 => ?_)
        · refine j_iconst (n' := 39) F dX8_farOf_38 rfl ?_
          exact j_ireturn F E dX8_farOf_39 (⟨rfl, by rw [zlog_tab hd]; repeat (first | omega | rfl | split)⟩)
        · refine j_iconst (n' := 35) F dX8_farOf_34 rfl ?_
          refine j_goto (t := 39) F dX8_farOf_35 (by decide) ?_
          exact j_ireturn F E dX8_farOf_39 (⟨rfl, by rw [zlog_tab hd]; repeat (first | omega | rfl | split)⟩)
      · refine j_iconst (n' := 25) F dX8_farOf_24 rfl ?_
        refine j_goto (t := 39) F dX8_farOf_25 (by decide) ?_
        exact j_ireturn F E dX8_farOf_39 (⟨rfl, by rw [zlog_tab hd]; repeat (first | omega | rfl | split)⟩)
    · refine j_iconst (n' := 15) F dX8_farOf_14 rfl ?_
      refine j_goto (t := 39) F dX8_farOf_15 (by decide) ?_
      exact j_ireturn F E dX8_farOf_39 (⟨rfl, by rw [zlog_tab hd]; repeat (first | omega | rfl | split)⟩)
  · refine j_iconst (n' := 6) F dX8_farOf_5 rfl ?_
    refine j_goto (t := 39) F dX8_farOf_6 (by decide) ?_
    exact j_ireturn F E dX8_farOf_39 (⟨rfl, by rw [zlog_tab hd]; repeat (first | omega | rfl | split)⟩)
set_option maxRecDepth 20000 in
theorem c_Mod_copyPrice {l : Launch} {G : jG} {B0 : Nat} {φ : jPhi} {d j : Int} (hd : 1 ≤ d ∧ d ≤ 24) (hj : 2 ≤ j ∧ j ≤ 8) : jC l G B0 κF 113 yX8_copyPrice cX8_copyPrice 3 (some .int) 1 [rf B0 99, iv d, iv j] φ mkI (fun z φ' => φ = φ' ∧ z = tkPrice (φ 102) (1000 + 10 * d + j)) := by
  refine jC_start RX8 [some (rf B0 99), some (iv d), some (iv j)] (by decide) rfl (Nat.le_of_ble_eq_true rfl) rfl (fun X Q F E => ?_)
  have hz2 : 0 ≤ zlog 7 d ∧ zlog 7 d ≤ 4 := by
    rw [zlog_tab hd]
    repeat (first | omega | split)
  refine j_aload_0 (n' := 1) F dX8_copyPrice_0 rfl ?_
  refine j_getR (n' := 4) F fl_X8_16 kap_99 rfl dX8_copyPrice_1 rfl ?_
  refine j_iconst (n' := 5) F dX8_copyPrice_4 rfl ?_
  refine j_iald (n' := 6) F kap_102 (by decide) (by omega) dX8_copyPrice_5 rfl ?_
  refine j_aload_0 (n' := 7) F dX8_copyPrice_6 rfl ?_
  refine j_getR (n' := 10) F fl_X8_16 kap_99 rfl dX8_copyPrice_7 rfl ?_
  refine j_iconst (n' := 11) F dX8_copyPrice_10 rfl ?_
  refine j_iload_1 (n' := 12) F dX8_copyPrice_11 rfl ?_
  refine j_cS1i (n' := 15) F kl_X8_57 (c_Mod_farOf hd) (by decide) (Nat.le_of_ble_eq_true rfl) dX8_copyPrice_12 rfl (fun z1 φ1 h1 => ?_)
  obtain ⟨rfl, rfl⟩ := h1
  refine j_iadd (n' := 16) F dX8_copyPrice_15 rfl ?_
  refine j_iald (n' := 17) F kap_102 (by decide) (by omega) dX8_copyPrice_16 rfl ?_
  refine j_iadd (n' := 18) F dX8_copyPrice_17 rfl ?_
  refine j_aload_0 (n' := 19) F dX8_copyPrice_18 rfl ?_
  refine j_getR (n' := 22) F fl_X8_16 kap_99 rfl dX8_copyPrice_19 rfl ?_
  refine j_bipush (n' := 24) F dX8_copyPrice_22 (by decide) rfl ?_
  refine j_iload_2 (n' := 25) F dX8_copyPrice_24 rfl ?_
  refine j_iadd (n' := 26) F dX8_copyPrice_25 rfl ?_
  refine j_iconst (n' := 27) F dX8_copyPrice_26 rfl ?_
  refine j_isub (n' := 28) F dX8_copyPrice_27 rfl ?_
  refine j_iald (n' := 29) F kap_102 (by decide) (by omega) dX8_copyPrice_28 rfl ?_
  refine j_iadd (n' := 30) F dX8_copyPrice_29 rfl ?_
  exact j_ireturn F E dX8_copyPrice_30 (⟨rfl, (tkPrice_copy hj hd).symm⟩)
set_option maxRecDepth 20000 in
theorem c_Mod_againPrice {l : Launch} {G : jG} {B0 : Nat} {φ : jPhi} {j : Int} (hj : 2 ≤ j ∧ j ≤ 8) : jC l G B0 κF 113 yX8_againPrice cX8_againPrice 2 (some .int) 0 [rf B0 99, iv j] φ mkI (fun z φ' => φ = φ' ∧ z = tkPrice (φ 102) (100 + j)) := by
  refine jC_start RX8 [some (rf B0 99), some (iv j)] (by decide) rfl (Nat.le_of_ble_eq_true rfl) rfl (fun X Q F E => ?_)
  refine j_aload_0 (n' := 1) F dX8_againPrice_0 rfl ?_
  refine j_getR (n' := 4) F fl_X8_16 kap_99 rfl dX8_againPrice_1 rfl ?_
  refine j_bipush (n' := 6) F dX8_againPrice_4 (by decide) rfl ?_
  refine j_iald (n' := 7) F kap_102 (by decide) (by omega) dX8_againPrice_6 rfl ?_
  refine j_aload_0 (n' := 8) F dX8_againPrice_7 rfl ?_
  refine j_getR (n' := 11) F fl_X8_16 kap_99 rfl dX8_againPrice_8 rfl ?_
  refine j_bipush (n' := 13) F dX8_againPrice_11 (by decide) rfl ?_
  refine j_iload_1 (n' := 14) F dX8_againPrice_13 rfl ?_
  refine j_iadd (n' := 15) F dX8_againPrice_14 rfl ?_
  refine j_iconst (n' := 16) F dX8_againPrice_15 rfl ?_
  refine j_isub (n' := 17) F dX8_againPrice_16 rfl ?_
  refine j_iald (n' := 18) F kap_102 (by decide) (by omega) dX8_againPrice_17 rfl ?_
  refine j_iadd (n' := 19) F dX8_againPrice_18 rfl ?_
  exact j_ireturn F E dX8_againPrice_19 (⟨rfl, (tkPrice_again hj).symm⟩)
set_option maxRecDepth 20000 in
theorem c_Mod_copy {l : Launch} {G : jG} {B0 : Nat} {φ : jPhi} {d x : Int} {md : List Int} (hm : mdIs φ 99 103 9 md) (hd : 1 ≤ d ∧ d ≤ md.length) (hx : 2 ≤ x ∧ x ≤ 8 ∧ md.length + x ≤ 24) : jC l G B0 κF 113 yX8_copy cX8_copy 4 none 0 [rf B0 99, iv d, iv x] φ mkV (fun z φ' => mdIs φ' 99 103 9 (cpN md d x.toNat) ∧ (∀ b, b ≠ 9 → φ' 99 b = φ 99 b) ∧ frC (fun a => a = 99 ∨ a = 103) φ φ') := by
  refine jC_start RX8 [some (rf B0 99), some (iv d), some (iv x), none] (by decide) rfl (Nat.le_of_ble_eq_true rfl) rfl (fun X Q F E => ?_)
  have loop : ∀ (m : Nat) (i : Int) (mc : List Int) (ψ : jPhi), i + m = x → 0 ≤ i → (mc.length : Int) = md.length + i → mdIs ψ 99 103 9 mc → cpN mc d m = cpN md d x.toNat → (∀ b, b ≠ 9 → ψ 99 b = φ 99 b) → frC (fun a => a = 99 ∨ a = 103) φ ψ → jJ X G B0 κF 113 0 0 Q 4 ψ 2 [some (rf B0 99), some (iv d), some (iv x), some (iv i)] [] := by
    intro m
    induction m with
    | zero =>
      intro i mc ψ g2 g3 g4 g5 g6 g7 g8
      rw [cpN] at g6
      refine j_iload_3 (n' := 3) F dX8_copy_2 rfl ?_
      refine j_iload_2 (n' := 4) F dX8_copy_3 rfl ?_
      refine j_icmp_ge (t := 43) (n' := 7) F (by omega) (by omega) dX8_copy_4 (by decide) rfl (fun c4_0 => ?_) (fun c4_0 => ?_)
      · exact j_return F E dX8_copy_43 (⟨g6 ▸ g5, g7, g8⟩)
      · omega
    | succ m ih =>
      intro i mc ψ g2 g3 g4 g5 g6 g7 g8
      have u2 := g5.1
      rw [cpN] at g6
      refine j_iload_3 (n' := 3) F dX8_copy_2 rfl ?_
      refine j_iload_2 (n' := 4) F dX8_copy_3 rfl ?_
      refine j_icmp_ge (t := 43) (n' := 7) F (by omega) (by omega) dX8_copy_4 (by decide) rfl (fun c4_0 => ?_) (fun c4_0 => ?_)
      · omega
      · refine j_aload_0 (n' := 8) F dX8_copy_7 rfl ?_
        refine j_getR (n' := 11) F fl_X8_19 kap_99 rfl dX8_copy_8 rfl ?_
        refine j_aload_0 (n' := 12) F dX8_copy_11 rfl ?_
        refine j_getI (n' := 15) F 9 rfl fl_X8_61 kap_99 rfl dX8_copy_12 rfl ?_
        refine j_aload_0 (n' := 16) F dX8_copy_15 rfl ?_
        refine j_getR (n' := 19) F fl_X8_19 kap_99 rfl dX8_copy_16 rfl ?_
        refine j_aload_0 (n' := 20) F dX8_copy_19 rfl ?_
        refine j_getI (n' := 23) F 9 rfl fl_X8_61 kap_99 rfl dX8_copy_20 rfl ?_
        refine j_iload_1 (n' := 24) F dX8_copy_23 rfl ?_
        refine j_isub (n' := 25) F dX8_copy_24 rfl ?_
        refine j_iald (n' := 26) F kap_103 (by decide) (by omega) dX8_copy_25 rfl ?_
        refine j_iast (n' := 27) F kap_103 (by decide) (by omega) dX8_copy_26 rfl (fun φ2 e2 => ?_)
        refine j_aload_0 (n' := 28) F dX8_copy_27 rfl ?_
        refine j_dup (n' := 29) F rfl dX8_copy_28 rfl ?_
        refine j_getI (n' := 32) F 9 rfl fl_X8_61 kap_99 rfl dX8_copy_29 rfl ?_
        refine j_iconst (n' := 33) F dX8_copy_32 rfl ?_
        refine j_iadd (n' := 34) F dX8_copy_33 rfl ?_
        refine j_putI (n' := 37) F 9 rfl fp_X8_61 kap_99 rfl rfl dX8_copy_34 rfl (fun φ3 e3 => ?_)
        refine j_iinc_3 (n' := 40) F (by decide) jc_i dX8_copy_37 rfl ?_
        refine j_goto (t := 2) F dX8_copy_40 (by decide) ?_
        refine ih (i + 1) (mc ++ [mc.getD (mc.length - d).toNat 0]) φ3 (by omega) (by omega) (by simp; omega) ?_ g6 (fun b hb => ?_) ?_
        · refine g5.push (by rw [e3, zU_self, e2, zU_ne (by omega)]) ?_ (fun b hb => by rw [e3, zU_ne (by omega), e2, zU_ne (by omega)])
          rw [e3, zU_ne (by omega), e2, zU_self, g5.at (by omega) (by omega), u2]
        · rw [e3, zU_ne (by omega), e2, zU_ne (by omega)]
          exact g7 b hb
        · rw [e3, e2]
          exact (g8.put (by omega)).put (by omega)
  refine j_iconst (n' := 1) F dX8_copy_0 rfl ?_
  refine j_istore_3 (n' := 2) F (by decide) jc_i dX8_copy_1 rfl ?_
  exact loop x.toNat 0 md φ (by omega) (by omega) (by omega) hm rfl (fun _ _ => rfl) frC.rf
set_option maxRecDepth 20000 in
theorem c_Mod_priceOf {l : Launch} {G : jG} {B0 : Nat} {φ : jPhi} {x : Int} (hc : miOk φ) (hx : -2147483648 ≤ x ∧ x ≤ 2147483647) : jC l G B0 κF 113 yX8_priceOf cX8_priceOf 2 (some .int) 2 [rf B0 99, iv x] φ mkI (fun z φ' => (z, pubM φ') = spPriceOf (pubM φ) x ∧ miOk φ' ∧ frC (fun a => 99 ≤ a) φ φ') := by
  refine jC_start RX8 [some (rf B0 99), some (iv x)] (by decide) rfl (Nat.le_of_ble_eq_true rfl) rfl (fun X Q F E => ?_)
  have hc0 := hc
  obtain ⟨c1, c2, c3, c5, c6⟩ := hc0
  refine j_iload_1 (n' := 1) F dX8_priceOf_0 rfl ?_
  refine j_cS1i (n' := 4) F kl_X8_101 (c_Mod_isPrice hx) (by decide) (Nat.le_of_ble_eq_true rfl) dX8_priceOf_1 rfl (fun z1 φ1 h1 => ?_)
  obtain ⟨rfl, rfl⟩ := h1
  refine j_if_eq (t := 16) (n' := 7) F (by first | omega | (split <;> omega)) dX8_priceOf_4 (by decide) rfl (fun c4_1 => ?_) (fun c4_1 => ?_)
  · refine j_sipush (n' := 19) F dX8_priceOf_16 (by decide) rfl ?_
    exact j_ireturn F E dX8_priceOf_19 (⟨by unfold spPriceOf pubM; dsimp only; first | (rw [if_neg (by split at * <;> omega)]; done) | (rw [if_pos (by split at * <;> omega)]; done), hc, frC.rf⟩)
  · refine j_aload_0 (n' := 8) F dX8_priceOf_7 rfl ?_
    refine j_getR (n' := 11) F fl_X8_16 kap_99 rfl dX8_priceOf_8 rfl ?_
    refine j_iload_1 (n' := 12) F dX8_priceOf_11 rfl ?_
    refine j_iald (n' := 13) F kap_102 (by decide) (by first | omega | (split <;> omega)) dX8_priceOf_12 rfl ?_
    refine j_goto (t := 19) F dX8_priceOf_13 (by decide) ?_
    exact j_ireturn F E dX8_priceOf_19 (⟨by unfold spPriceOf pubM; dsimp only; first | (rw [if_neg (by split at * <;> omega)]; done) | (rw [if_pos (by split at * <;> omega)]; done), hc, frC.rf⟩)
set_option maxRecDepth 20000 in
theorem c_Mod_price {l : Launch} {G : jG} {B0 : Nat} {φ : jPhi} {x y : Int} (hc : miOk φ) (hx : -2147483648 ≤ x ∧ x ≤ 2147483647) (hy : -2147483648 ≤ y ∧ y ≤ 2147483647) : jC l G B0 κF 113 yX8_price cX8_price 4 (some .int) 2 [rf B0 99, iv x, iv y] φ mkI (fun z φ' => (z, pubM φ') = spPrice (pubM φ) x y ∧ miOk φ' ∧ frC (fun a => 99 ≤ a) φ φ') := by
  refine jC_start RX8 [some (rf B0 99), some (iv x), some (iv y), none] (by decide) rfl (Nat.le_of_ble_eq_true rfl) rfl (fun X Q F E => ?_)
  have hc0 := hc
  obtain ⟨c1, c2, c3, c5, c6⟩ := hc0
  refine j_iload_1 (n' := 1) F dX8_price_0 rfl ?_
  refine j_cS1i (n' := 4) F kl_X8_101 (c_Mod_isPrice hx) (by decide) (Nat.le_of_ble_eq_true rfl) dX8_price_1 rfl (fun z1 φ1 h1 => ?_)
  obtain ⟨rfl, rfl⟩ := h1
  refine j_if_ne (t := 11) (n' := 7) F (by first | omega | (split <;> omega)) dX8_price_4 (by decide) rfl (fun c4_1 => ?_) (fun c4_1 => ?_)
  · refine j_iload_2 (n' := 12) F dX8_price_11 rfl ?_
    refine j_iconst (n' := 13) F dX8_price_12 rfl ?_
    refine j_bipush (n' := 15) F dX8_price_13 (by decide) rfl ?_
    refine j_cS3i (n' := 18) F kl_X8_49 (c_Mod_within hy (by omega) (by omega)) (by decide) (Nat.le_of_ble_eq_true rfl) dX8_price_15 rfl (fun z3 φ3 h3 => ?_)
    obtain ⟨rfl, rfl⟩ := h3
    refine j_if_ne (t := 25) (n' := 21) F (by first | omega | (split <;> omega)) dX8_price_18 (by decide) rfl (fun c18_3 => ?_) (fun c18_3 => ?_)
    · refine j_aload_0 (n' := 26) F dX8_price_25 rfl ?_
      refine j_getR (n' := 29) F fl_X8_16 kap_99 rfl dX8_price_26 rfl ?_
      refine j_iload_1 (n' := 30) F dX8_price_29 rfl ?_
      refine j_iald (n' := 31) F kap_102 (by decide) (by first | omega | (split <;> omega)) dX8_price_30 rfl ?_
      refine j_istore_3 (n' := 32) F (by decide) jc_i dX8_price_31 rfl ?_
      refine j_aload_0 (n' := 33) F dX8_price_32 rfl ?_
      refine j_getR (n' := 36) F fl_X8_16 kap_99 rfl dX8_price_33 rfl ?_
      refine j_iload_1 (n' := 37) F dX8_price_36 rfl ?_
      refine j_iload_2 (n' := 38) F dX8_price_37 rfl ?_
      refine j_iast (n' := 39) F kap_102 (by decide) (by first | omega | (split <;> omega)) dX8_price_38 rfl (fun φ5 e5 => ?_)
      refine j_iload_3 (n' := 40) F dX8_price_39 rfl ?_
      refine j_ireturn F E dX8_price_40 ?_
      have hin : 0 ≤ x ∧ x < 18 := by split at * <;> omega
      have hin2 : 1 ≤ y ∧ y ≤ 30 := by split at * <;> omega
      have q35 : φ5 102 = fun k => if k = x then y else φ 102 k := by rw [e5, zU_row]
      have q0 : ∀ a, a ≠ 102 → φ5 a = φ a := fun a k1 => by rw [e5, zU_off k1]
      refine ⟨?_, ⟨by rw [q0 99 (by omega)]; exact c1, by rw [q0 99 (by omega), q0 100 (by omega)]; exact c2, by rw [q0 99 (by omega)]; exact c3, by rw [q0 101 (by omega), q0 99 (by omega)]; exact c5, fun k k1 k2 => ?_⟩, by rw [e5]; exact frC.put frC.rf (by omega)⟩
      · unfold spPrice pubM
        dsimp only
        rw [if_neg (by omega), if_neg (by omega), q35, q0 99 (by omega), q0 100 (by omega), q0 101 (by omega)]
      · rw [q35]
        dsimp only
        split
        · omega
        · exact c6 k k1 k2
    · refine j_sipush (n' := 24) F dX8_price_21 (by decide) rfl ?_
      exact j_ireturn F E dX8_price_24 (⟨by unfold spPrice pubM; dsimp only; rw [if_neg (by split at * <;> omega), if_pos (by split at * <;> omega)], hc, frC.rf⟩)
  · refine j_sipush (n' := 10) F dX8_price_7 (by decide) rfl ?_
    exact j_ireturn F E dX8_price_10 (⟨by unfold spPrice pubM; dsimp only; rw [if_pos (by split at * <;> omega)], hc, frC.rf⟩)
set_option maxRecDepth 20000 in
theorem c_Mod_likeness {l : Launch} {G : jG} {B0 : Nat} {φ : jPhi} {p d e : Int} (h1 : 1 ≤ d ∧ d ≤ p) (h2 : p ≤ 24 ∧ 0 ≤ e ∧ e ≤ 24) (ht : txOk (φ 101) e) : jC l G B0 κF 113 yX8_likeness cX8_likeness 5 (some .int) 0 [rf B0 99, iv p, iv d, iv e] φ mkI (fun z φ' => φ = φ' ∧ z = lik (φ 101) e 8 p d) := by
  refine jC_start RX8 [some (rf B0 99), some (iv p), some (iv d), some (iv e), none] (by decide) rfl (Nat.le_of_ble_eq_true rfl) rfl (fun X Q F E => ?_)
  have loop : ∀ (k : Nat) (n : Int), n + k = 8 → 0 ≤ n → n + lik (φ 101) e k (p + n) d = lik (φ 101) e 8 p d → jJ X G B0 κF 113 0 0 Q 5 φ 3 [some (rf B0 99), some (iv p), some (iv d), some (iv e), some (iv n)] [] := by
    intro k
    induction k with
    | zero =>
      intro n g1 g2 g3
      rw [lik] at g3
      refine j_iload_4 (n' := 5) F dX8_likeness_3 rfl ?_
      refine j_bipush (n' := 7) F dX8_likeness_5 (by decide) rfl ?_
      refine j_icmp_ge (t := 47) (n' := 10) F (by omega) (by omega) dX8_likeness_7 (by decide) rfl (fun c7_0 => ?_) (fun c7_0 => ?_)
      · refine j_iload_4 (n' := 49) F dX8_likeness_47 rfl ?_
        exact j_ireturn F E dX8_likeness_49 (⟨rfl, by omega⟩)
      · omega
    | succ k ih =>
      intro n g1 g2 g3
      rw [lik] at g3
      have hb1 : p + n < e → 0 ≤ φ 101 (p + n) ∧ φ 101 (p + n) ≤ 3 := fun q => ht _ (by omega) q
      have hb2 : p + n < e → 0 ≤ φ 101 (p + n - d) ∧ φ 101 (p + n - d) ≤ 3 := fun q => ht _ (by omega) (by omega)
      refine j_iload_4 (n' := 5) F dX8_likeness_3 rfl ?_
      refine j_bipush (n' := 7) F dX8_likeness_5 (by decide) rfl ?_
      refine j_icmp_ge (t := 47) (n' := 10) F (by omega) (by omega) dX8_likeness_7 (by decide) rfl (fun c7_0 => ?_) (fun c7_0 => ?_)
      · refine j_iload_4 (n' := 49) F dX8_likeness_47 rfl ?_
        exact j_ireturn F E dX8_likeness_49 (⟨rfl, by rw [if_neg (by omega)] at g3; omega⟩)
      · refine j_iload_1 (n' := 11) F dX8_likeness_10 rfl ?_
        refine j_iload_4 (n' := 13) F dX8_likeness_11 rfl ?_
        refine j_iadd (n' := 14) F dX8_likeness_13 rfl ?_
        refine j_iload_3 (n' := 15) F dX8_likeness_14 rfl ?_
        refine j_icmp_ge (t := 47) (n' := 18) F (by omega) (by omega) dX8_likeness_15 (by decide) rfl (fun c15_1 => ?_) (fun c15_1 => ?_)
        · refine j_iload_4 (n' := 49) F dX8_likeness_47 rfl ?_
          exact j_ireturn F E dX8_likeness_49 (⟨rfl, by rw [if_neg (by omega)] at g3; omega⟩)
        · refine j_aload_0 (n' := 19) F dX8_likeness_18 rfl ?_
          refine j_getR (n' := 22) F fl_X8_13 kap_99 rfl dX8_likeness_19 rfl ?_
          refine j_iload_1 (n' := 23) F dX8_likeness_22 rfl ?_
          refine j_iload_4 (n' := 25) F dX8_likeness_23 rfl ?_
          refine j_iadd (n' := 26) F dX8_likeness_25 rfl ?_
          refine j_iald (n' := 27) F kap_101 (by decide) (by omega) dX8_likeness_26 rfl ?_
          refine j_aload_0 (n' := 28) F dX8_likeness_27 rfl ?_
          refine j_getR (n' := 31) F fl_X8_13 kap_99 rfl dX8_likeness_28 rfl ?_
          refine j_iload_1 (n' := 32) F dX8_likeness_31 rfl ?_
          refine j_iload_4 (n' := 34) F dX8_likeness_32 rfl ?_
          refine j_iadd (n' := 35) F dX8_likeness_34 rfl ?_
          refine j_iload_2 (n' := 36) F dX8_likeness_35 rfl ?_
          refine j_isub (n' := 37) F dX8_likeness_36 rfl ?_
          refine j_iald (n' := 38) F kap_101 (by decide) (by omega) dX8_likeness_37 rfl ?_
          refine j_icmp_ne (t := 47) (n' := 41) F (by omega) (by omega) dX8_likeness_38 (by decide) rfl (fun c38_2 => ?_) (fun c38_2 => ?_)
          · refine j_iload_4 (n' := 49) F dX8_likeness_47 rfl ?_
            exact j_ireturn F E dX8_likeness_49 (⟨rfl, by rw [if_neg (by omega)] at g3; omega⟩)
          · refine j_iinc_4 (n' := 44) F (by decide) jc_i dX8_likeness_41 rfl ?_
            refine j_goto (t := 3) F dX8_likeness_44 (by decide) ?_
            exact ih (n + 1) (by omega) (by omega) (by rw [if_pos (by omega)] at g3; rw [show p + (n + 1) = p + n + 1 by omega]; omega)
  refine j_iconst (n' := 1) F dX8_likeness_0 rfl ?_
  refine j_istore_4 (n' := 3) F (by decide) jc_i dX8_likeness_1 rfl ?_
  exact loop 8 0 (by omega) (by omega) (by rw [Int.add_zero, Int.zero_add])
set_option maxRecDepth 20000 in
theorem c_Mod_isPlace {l : Launch} {G : jG} {B0 : Nat} {φ : jPhi} {x : Int} (c3 : 0 ≤ φ 99 2 ∧ φ 99 2 ≤ 24) (hx : -2147483648 ≤ x ∧ x ≤ 2147483647) : jC l G B0 κF 113 yX8_isPlace cX8_isPlace 2 (some .boolean) 1 [rf B0 99, iv x] φ mkI (fun z φ' => φ = φ' ∧ z = (if 0 ≤ x ∧ x < φ 99 2 then 1 else 0)) := by
  refine jC_start RX8 [some (rf B0 99), some (iv x)] (by decide) rfl (Nat.le_of_ble_eq_true rfl) rfl (fun X Q F E => ?_)
  refine j_iload_1 (n' := 1) F dX8_isPlace_0 rfl ?_
  refine j_iconst (n' := 2) F dX8_isPlace_1 rfl ?_
  refine j_aload_0 (n' := 3) F dX8_isPlace_2 rfl ?_
  refine j_getI (n' := 6) F 2 rfl fl_X8_92 kap_99 rfl dX8_isPlace_3 rfl ?_
  refine j_iconst (n' := 7) F dX8_isPlace_6 rfl ?_
  refine j_isub (n' := 8) F dX8_isPlace_7 rfl ?_
  refine j_cS3i (n' := 11) F kl_X8_49 (c_Mod_within hx (by omega) (by omega)) (by decide) (Nat.le_of_ble_eq_true rfl) dX8_isPlace_8 rfl (fun z1 φ1 h1 => ?_)
  obtain ⟨rfl, rfl⟩ := h1
  exact j_zreturn F E (by split <;> omega) dX8_isPlace_11 (⟨rfl, by repeat (first | omega | split)⟩)
set_option maxRecDepth 20000 in
theorem c_Mod_at {l : Launch} {G : jG} {B0 : Nat} {φ : jPhi} {x : Int} (hc : miOk φ) (hx : -2147483648 ≤ x ∧ x ≤ 2147483647) : jC l G B0 κF 113 yX8_at cX8_at 2 (some .int) 2 [rf B0 99, iv x] φ mkI (fun z φ' => (z, pubM φ') = spAt (pubM φ) x ∧ miOk φ' ∧ frC (fun a => 99 ≤ a) φ φ') := by
  refine jC_start RX8 [some (rf B0 99), some (iv x)] (by decide) rfl (Nat.le_of_ble_eq_true rfl) rfl (fun X Q F E => ?_)
  have hc0 := hc
  obtain ⟨c1, c2, c3, c5, c6⟩ := hc0
  refine j_aload_0 (n' := 1) F dX8_at_0 rfl ?_
  refine j_iload_1 (n' := 2) F dX8_at_1 rfl ?_
  refine j_cV1i (n' := 5) F kl_X8_105 (c_Mod_isPlace c3 hx) kap_99 rfl (by decide) (Nat.le_of_ble_eq_true rfl) dX8_at_2 rfl (fun z1 φ1 h1 => ?_)
  obtain ⟨rfl, rfl⟩ := h1
  refine j_if_eq (t := 17) (n' := 8) F (by first | omega | (split <;> omega)) dX8_at_5 (by decide) rfl (fun c5_1 => ?_) (fun c5_1 => ?_)
  · refine j_sipush (n' := 20) F dX8_at_17 (by decide) rfl ?_
    exact j_ireturn F E dX8_at_20 (⟨by unfold spAt pubM; dsimp only; first | (rw [if_neg (by split at * <;> omega)]; done) | (rw [if_pos (by split at * <;> omega)]; done), hc, frC.rf⟩)
  · refine j_aload_0 (n' := 9) F dX8_at_8 rfl ?_
    refine j_getR (n' := 12) F fl_X8_13 kap_99 rfl dX8_at_9 rfl ?_
    refine j_iload_1 (n' := 13) F dX8_at_12 rfl ?_
    refine j_iald (n' := 14) F kap_101 (by decide) (by first | omega | (split <;> omega)) dX8_at_13 rfl ?_
    refine j_goto (t := 20) F dX8_at_14 (by decide) ?_
    exact j_ireturn F E dX8_at_20 (⟨by unfold spAt pubM; dsimp only; first | (rw [if_neg (by split at * <;> omega)]; done) | (rw [if_pos (by split at * <;> omega)]; done), hc, frC.rf⟩)
set_option maxRecDepth 20000 in
theorem c_Mod_farLongest {l : Launch} {G : jG} {B0 : Nat} {φ : jPhi} {x : Int} (hc : miOk φ) (hx : 0 ≤ x ∧ x < φ 99 2) : jC l G B0 κF 113 yX8_farLongest cX8_farLongest 6 (some .int) 1 [rf B0 99, iv x] φ mkI (fun z φ' => φ = φ' ∧ z = (farOf' (lik (φ 101) (φ 99 2) 8 x) x).1) := by
  refine jC_start RX8 [some (rf B0 99), some (iv x), none, none, none, none] (by decide) rfl (Nat.le_of_ble_eq_true rfl) rfl (fun X Q F E => ?_)
  have hc0 := hc
  obtain ⟨c1, c2, c3, c5, c6⟩ := hc0
  have loop : ∀ (m : Nat) (d b n : Int), d + m = x + 1 → 1 ≤ d → 0 ≤ n → n ≤ 8 → (lpI (farS (lik (φ 101) (φ 99 2) 8 x)) d (x + 1) (b, n)).1 = (farOf' (lik (φ 101) (φ 99 2) 8 x) x).1 → jJ X G B0 κF 113 0 0 Q 6 φ 7 [some (rf B0 99), some (iv x), some (iv b), some (iv n), some (iv d), none] [] := by
    intro m
    induction m with
    | zero =>
      intro d b n h1 h2 h3 h4 h5
      rw [lpI_end (by omega)] at h5
      refine j_iload_4 (n' := 9) F dX8_farLongest_7 rfl ?_
      refine j_iload_1 (n' := 10) F dX8_farLongest_9 rfl ?_
      refine j_icmp_gt (t := 58) (n' := 13) F (by omega) (by omega) dX8_farLongest_10 (by decide) rfl (fun c10_0 => ?_) (fun c10_0 => ?_)
      · refine j_iload_2 (n' := 59) F dX8_farLongest_58 rfl ?_
        exact j_ireturn F E dX8_farLongest_59 (⟨rfl, h5⟩)
      · omega
    | succ m ih =>
      intro d b n h1 h2 h3 h4 h5
      have hb := lik_bd (φ 101) (φ 99 2) 8 x d
      rw [lpI_step (by omega), farS] at h5
      refine j_iload_4 (n' := 9) F dX8_farLongest_7 rfl ?_
      refine j_iload_1 (n' := 10) F dX8_farLongest_9 rfl ?_
      refine j_icmp_gt (t := 58) (n' := 13) F (by omega) (by omega) dX8_farLongest_10 (by decide) rfl (fun c10_0 => ?_) (fun c10_0 => ?_)
      · omega
      · refine j_aload_0 (n' := 14) F dX8_farLongest_13 rfl ?_
        refine j_iload_1 (n' := 15) F dX8_farLongest_14 rfl ?_
        refine j_iload_4 (n' := 17) F dX8_farLongest_15 rfl ?_
        refine j_aload_0 (n' := 18) F dX8_farLongest_17 rfl ?_
        refine j_getI (n' := 21) F 2 rfl fl_X8_92 kap_99 rfl dX8_farLongest_18 rfl ?_
        refine j_cV3i (n' := 24) F kl_X8_108 (c_Mod_likeness (by omega) (by omega) c5) kap_99 rfl (by decide) (Nat.le_of_ble_eq_true rfl) dX8_farLongest_21 rfl (fun z2 φ2 h2 => ?_)
        obtain ⟨rfl, rfl⟩ := h2
        refine j_istore_5 (n' := 26) F (by decide) jc_i dX8_farLongest_24 rfl ?_
        refine j_iload_5 (n' := 28) F dX8_farLongest_26 rfl ?_
        refine j_iload_3 (n' := 29) F dX8_farLongest_28 rfl ?_
        refine j_icmp_le (t := 37) (n' := 32) F (by omega) (by omega) dX8_farLongest_29 (by decide) rfl (fun c29_2 => ?_) (fun c29_2 => ?_)
        · refine j_iload_2 (n' := 38) F dX8_farLongest_37 rfl ?_
          refine j_istore_2 (n' := 39) F (by decide) jc_i dX8_farLongest_38 rfl ?_
          refine j_iload_5 (n' := 41) F dX8_farLongest_39 rfl ?_
          refine j_iload_3 (n' := 42) F dX8_farLongest_41 rfl ?_
          refine j_icmp_le (t := 50) (n' := 45) F (by omega) (by omega) dX8_farLongest_42 (by decide) rfl (fun c42_3 => ?_) (fun c42_3 => ?_)
          · refine j_iload_3 (n' := 51) F dX8_farLongest_50 rfl ?_
            refine j_istore_3 (n' := 52) F (by decide) jc_i dX8_farLongest_51 rfl ?_
            refine j_iinc_4 (n' := 55) F (by decide) jc_i dX8_farLongest_52 rfl ?_
            refine j_goto (t := 7) F dX8_farLongest_55 (by decide) ?_
            first
              | exact j_weak (by exact ⟨rfl, rfl, rfl, rfl, rfl, trivial⟩) (ih (d + 1) d (lik (φ 101) (φ 99 2) 8 x d) (by omega) (by omega) (by omega) (by omega) (by rw [if_pos (by omega)] at h5; exact h5))
              | exact j_weak (by exact ⟨rfl, rfl, rfl, rfl, rfl, trivial⟩) (ih (d + 1) b n (by omega) (by omega) (by omega) (by omega) (by rw [if_neg (by omega)] at h5; exact h5))
              | omega
          · refine j_iload_5 (n' := 47) F dX8_farLongest_45 rfl ?_
            refine j_goto (t := 51) F dX8_farLongest_47 (by decide) ?_
            refine j_istore_3 (n' := 52) F (by decide) jc_i dX8_farLongest_51 rfl ?_
            refine j_iinc_4 (n' := 55) F (by decide) jc_i dX8_farLongest_52 rfl ?_
            refine j_goto (t := 7) F dX8_farLongest_55 (by decide) ?_
            first
              | exact j_weak (by exact ⟨rfl, rfl, rfl, rfl, rfl, trivial⟩) (ih (d + 1) d (lik (φ 101) (φ 99 2) 8 x d) (by omega) (by omega) (by omega) (by omega) (by rw [if_pos (by omega)] at h5; exact h5))
              | exact j_weak (by exact ⟨rfl, rfl, rfl, rfl, rfl, trivial⟩) (ih (d + 1) b n (by omega) (by omega) (by omega) (by omega) (by rw [if_neg (by omega)] at h5; exact h5))
              | omega
        · refine j_iload_4 (n' := 34) F dX8_farLongest_32 rfl ?_
          refine j_goto (t := 38) F dX8_farLongest_34 (by decide) ?_
          refine j_istore_2 (n' := 39) F (by decide) jc_i dX8_farLongest_38 rfl ?_
          refine j_iload_5 (n' := 41) F dX8_farLongest_39 rfl ?_
          refine j_iload_3 (n' := 42) F dX8_farLongest_41 rfl ?_
          refine j_icmp_le (t := 50) (n' := 45) F (by omega) (by omega) dX8_farLongest_42 (by decide) rfl (fun c42_4 => ?_) (fun c42_4 => ?_)
          · refine j_iload_3 (n' := 51) F dX8_farLongest_50 rfl ?_
            refine j_istore_3 (n' := 52) F (by decide) jc_i dX8_farLongest_51 rfl ?_
            refine j_iinc_4 (n' := 55) F (by decide) jc_i dX8_farLongest_52 rfl ?_
            refine j_goto (t := 7) F dX8_farLongest_55 (by decide) ?_
            first
              | exact j_weak (by exact ⟨rfl, rfl, rfl, rfl, rfl, trivial⟩) (ih (d + 1) d (lik (φ 101) (φ 99 2) 8 x d) (by omega) (by omega) (by omega) (by omega) (by rw [if_pos (by omega)] at h5; exact h5))
              | exact j_weak (by exact ⟨rfl, rfl, rfl, rfl, rfl, trivial⟩) (ih (d + 1) b n (by omega) (by omega) (by omega) (by omega) (by rw [if_neg (by omega)] at h5; exact h5))
              | omega
          · refine j_iload_5 (n' := 47) F dX8_farLongest_45 rfl ?_
            refine j_goto (t := 51) F dX8_farLongest_47 (by decide) ?_
            refine j_istore_3 (n' := 52) F (by decide) jc_i dX8_farLongest_51 rfl ?_
            refine j_iinc_4 (n' := 55) F (by decide) jc_i dX8_farLongest_52 rfl ?_
            refine j_goto (t := 7) F dX8_farLongest_55 (by decide) ?_
            first
              | exact j_weak (by exact ⟨rfl, rfl, rfl, rfl, rfl, trivial⟩) (ih (d + 1) d (lik (φ 101) (φ 99 2) 8 x d) (by omega) (by omega) (by omega) (by omega) (by rw [if_pos (by omega)] at h5; exact h5))
              | exact j_weak (by exact ⟨rfl, rfl, rfl, rfl, rfl, trivial⟩) (ih (d + 1) b n (by omega) (by omega) (by omega) (by omega) (by rw [if_neg (by omega)] at h5; exact h5))
              | omega
  refine j_iconst (n' := 1) F dX8_farLongest_0 rfl ?_
  refine j_istore_2 (n' := 2) F (by decide) jc_i dX8_farLongest_1 rfl ?_
  refine j_iconst (n' := 3) F dX8_farLongest_2 rfl ?_
  refine j_istore_3 (n' := 4) F (by decide) jc_i dX8_farLongest_3 rfl ?_
  refine j_iconst (n' := 5) F dX8_farLongest_4 rfl ?_
  refine j_istore_4 (n' := 7) F (by decide) jc_i dX8_farLongest_5 rfl ?_
  exact loop x.toNat 1 0 1 (by omega) (by omega) (by omega) (by omega) rfl
set_option maxRecDepth 20000 in
theorem c_Mod_longestNow {l : Launch} {G : jG} {B0 : Nat} {φ : jPhi} {x y : Int} (hc : miOk φ) (hx : 0 ≤ x ∧ x < φ 99 2) (hy : 0 ≤ y ∧ y ≤ 1) : jC l G B0 κF 113 yX8_longestNow cX8_longestNow 4 (some .int) 2 [rf B0 99, iv x, iv y] φ mkI (fun z φ' => φ = φ' ∧ z = lonV (φ 101) (φ 99 2) x y) := by
  refine jC_start RX8 [some (rf B0 99), some (iv x), some (iv y), none] (by decide) rfl (Nat.le_of_ble_eq_true rfl) rfl (fun X Q F E => ?_)
  have hc0 := hc
  obtain ⟨c1, c2, c3, c5, c6⟩ := hc0
  refine j_aload_0 (n' := 1) F dX8_longestNow_0 rfl ?_
  refine j_iload_1 (n' := 2) F dX8_longestNow_1 rfl ?_
  refine j_cV1i (n' := 5) F kl_X8_112 (c_Mod_farLongest hc hx) kap_99 rfl (by decide) (Nat.le_of_ble_eq_true rfl) dX8_longestNow_2 rfl (fun z1 φ1 h1 => ?_)
  obtain ⟨rfl, rfl⟩ := h1
  have hfb := far_bd (f := lik (φ 101) (φ 99 2) 8 x) (p := x) (by omega) (fun d => ⟨(lik_bd (φ 101) (φ 99 2) 8 x d).1, (lik_bd (φ 101) (φ 99 2) 8 x d).2.1⟩)
  refine j_istore_3 (n' := 6) F (by decide) jc_i dX8_longestNow_5 rfl ?_
  refine j_iload_2 (n' := 7) F dX8_longestNow_6 rfl ?_
  refine j_iconst (n' := 8) F dX8_longestNow_7 rfl ?_
  refine j_icmp_eq (t := 15) (n' := 11) F (by omega) (by omega) dX8_longestNow_8 (by decide) rfl (fun c8_1 => ?_) (fun c8_1 => ?_)
  · refine j_iload_3 (n' := 16) F dX8_longestNow_15 rfl ?_
    refine j_goto (t := 29) F dX8_longestNow_16 (by decide) ?_
    exact j_ireturn F E dX8_longestNow_29 (⟨rfl, by unfold lonV; repeat (first | rfl | omega | split)⟩)
  · refine j_iload_3 (n' := 12) F dX8_longestNow_11 rfl ?_
    refine j_if_ne (t := 19) (n' := 15) F (by omega) dX8_longestNow_12 (by decide) rfl (fun c12_2 => ?_) (fun c12_2 => ?_)
    · refine j_aload_0 (n' := 20) F dX8_longestNow_19 rfl ?_
      refine j_iload_1 (n' := 21) F dX8_longestNow_20 rfl ?_
      refine j_iload_3 (n' := 22) F dX8_longestNow_21 rfl ?_
      refine j_aload_0 (n' := 23) F dX8_longestNow_22 rfl ?_
      refine j_getI (n' := 26) F 2 rfl fl_X8_92 kap_99 rfl dX8_longestNow_23 rfl ?_
      refine j_cV3i (n' := 29) F kl_X8_108 (c_Mod_likeness (by omega) (by omega) c5) kap_99 rfl (by decide) (Nat.le_of_ble_eq_true rfl) dX8_longestNow_26 rfl (fun z4 φ4 h4 => ?_)
      obtain ⟨rfl, rfl⟩ := h4
      exact j_ireturn F E dX8_longestNow_29 (⟨rfl, by unfold lonV; repeat (first | rfl | omega | split)⟩)
    · refine j_iload_3 (n' := 16) F dX8_longestNow_15 rfl ?_
      refine j_goto (t := 29) F dX8_longestNow_16 (by decide) ?_
      exact j_ireturn F E dX8_longestNow_29 (⟨rfl, by unfold lonV; repeat (first | rfl | omega | split)⟩)
set_option maxRecDepth 20000 in
theorem c_Mod_longest {l : Launch} {G : jG} {B0 : Nat} {φ : jPhi} {x y : Int} (hc : miOk φ) (hx : -2147483648 ≤ x ∧ x ≤ 2147483647) (hy : -2147483648 ≤ y ∧ y ≤ 2147483647) : jC l G B0 κF 113 yX8_longest cX8_longest 3 (some .int) 3 [rf B0 99, iv x, iv y] φ mkI (fun z φ' => (z, pubM φ') = spLon (pubM φ) x y ∧ miOk φ' ∧ frC (fun a => 99 ≤ a) φ φ') := by
  refine jC_start RX8 [some (rf B0 99), some (iv x), some (iv y)] (by decide) rfl (Nat.le_of_ble_eq_true rfl) rfl (fun X Q F E => ?_)
  have hc0 := hc
  obtain ⟨c1, c2, c3, c5, c6⟩ := hc0
  refine j_aload_0 (n' := 1) F dX8_longest_0 rfl ?_
  refine j_iload_1 (n' := 2) F dX8_longest_1 rfl ?_
  refine j_cV1i (n' := 5) F kl_X8_105 (c_Mod_isPlace c3 hx) kap_99 rfl (by decide) (Nat.le_of_ble_eq_true rfl) dX8_longest_2 rfl (fun z1 φ1 h1 => ?_)
  obtain ⟨rfl, rfl⟩ := h1
  refine j_if_ne (t := 12) (n' := 8) F (by first | omega | (split <;> omega)) dX8_longest_5 (by decide) rfl (fun c5_1 => ?_) (fun c5_1 => ?_)
  · refine j_iload_2 (n' := 13) F dX8_longest_12 rfl ?_
    refine j_iconst (n' := 14) F dX8_longest_13 rfl ?_
    refine j_iconst (n' := 15) F dX8_longest_14 rfl ?_
    refine j_cS3i (n' := 18) F kl_X8_49 (c_Mod_within hy (by omega) (by omega)) (by decide) (Nat.le_of_ble_eq_true rfl) dX8_longest_15 rfl (fun z3 φ3 h3 => ?_)
    obtain ⟨rfl, rfl⟩ := h3
    refine j_if_eq (t := 30) (n' := 21) F (by first | omega | (split <;> omega)) dX8_longest_18 (by decide) rfl (fun c18_3 => ?_) (fun c18_3 => ?_)
    · refine j_sipush (n' := 33) F dX8_longest_30 (by decide) rfl ?_
      exact j_ireturn F E dX8_longest_33 (⟨by unfold spLon pubM; dsimp only; rw [if_neg (by split at * <;> omega)]; first | (rw [if_neg (by split at * <;> omega)]; done) | (rw [if_pos (by split at * <;> omega)]; done), hc, frC.rf⟩)
    · refine j_aload_0 (n' := 22) F dX8_longest_21 rfl ?_
      refine j_iload_1 (n' := 23) F dX8_longest_22 rfl ?_
      refine j_iload_2 (n' := 24) F dX8_longest_23 rfl ?_
      refine j_cV2i (n' := 27) F kl_X8_115 (c_Mod_longestNow hc (by split at * <;> omega) (by split at * <;> omega)) kap_99 rfl (by decide) (Nat.le_of_ble_eq_true rfl) dX8_longest_24 rfl (fun z5 φ5 h5 => ?_)
      obtain ⟨rfl, rfl⟩ := h5
      refine j_goto (t := 33) F dX8_longest_27 (by decide) ?_
      exact j_ireturn F E dX8_longest_33 (⟨by unfold spLon pubM; dsimp only; rw [if_neg (by split at * <;> omega)]; first | (rw [if_neg (by split at * <;> omega)]; done) | (rw [if_pos (by split at * <;> omega)]; done), hc, frC.rf⟩)
  · refine j_sipush (n' := 11) F dX8_longest_8 (by decide) rfl ?_
    exact j_ireturn F E dX8_longest_11 (⟨by unfold spLon pubM; dsimp only; rw [if_pos (by split at * <;> omega)], hc, frC.rf⟩)
theorem chF_neg {f : Int → Int} {p : Int} : ∀ (m : Nat) (d k : Int), k < 0 → chF f p m d k = -1
  | 0, _, _, _ => rfl
  | m + 1, d, k, h => by
    rw [chF]
    split
    · split
      · rw [if_neg (by omega)]
        exact chF_neg m (d + 1) (k - 1) (by omega)
      · exact chF_neg m (d + 1) k h
    · rfl
set_option maxRecDepth 20000 in
theorem c_Mod_chainNow {l : Launch} {G : jG} {B0 : Nat} {φ : jPhi} {x k : Int} (hc : miOk φ) (hx : 0 ≤ x ∧ x < φ 99 2) (hk : -2147483648 ≤ k ∧ k ≤ 2147483647) : jC l G B0 κF 113 yX8_chainNow cX8_chainNow 5 (some .int) 1 [rf B0 99, iv x, iv k] φ mkI (fun z φ' => φ = φ' ∧ z = chnV (φ 101) (φ 99 2) x k) := by
  refine jC_start RX8 [some (rf B0 99), some (iv x), some (iv k), none, none] (by decide) rfl (Nat.le_of_ble_eq_true rfl) rfl (fun X Q F E => ?_)
  have hc0 := hc
  obtain ⟨c1, c2, c3, c5, c6⟩ := hc0
  have loop : ∀ (m : Nat) (d n : Int), d + m = 26 → 1 ≤ d → d ≤ x + 1 → -2147483648 ≤ n → n ≤ 2147483647 → chF (lik (φ 101) (φ 99 2) 8 x) x m d n = chnV (φ 101) (φ 99 2) x k → jJ X G B0 κF 113 0 0 Q 5 φ 5 [some (rf B0 99), some (iv x), some (iv k), some (iv n), some (iv d)] [] := by
    intro m
    induction m with
    | zero =>
      intro d n h1 h2 h3 h4 h5
      omega
    | succ m ih =>
      intro d n h1 h2 h3 h4 h5 h6
      have hb := lik_bd (φ 101) (φ 99 2) 8 x d
      have hng := chF_neg (f := lik (φ 101) (φ 99 2) 8 x) (p := x) (m + 1) d n
      rw [chF] at h6 hng
      refine j_iload_4 (n' := 7) F dX8_chainNow_5 rfl ?_
      refine j_iload_1 (n' := 8) F dX8_chainNow_7 rfl ?_
      refine j_icmp_gt (t := 48) (n' := 11) F (by omega) (by omega) dX8_chainNow_8 (by decide) rfl (fun c8_0 => ?_) (fun c8_0 => ?_)
      · refine j_iconst (n' := 49) F dX8_chainNow_48 rfl ?_
        exact j_ireturn F E dX8_chainNow_49 (⟨rfl, by first | (rw [if_neg (by omega)] at h6; exact h6) | (rw [← h6]; exact (hng (by omega)).symm)⟩)
      · refine j_iload_3 (n' := 12) F dX8_chainNow_11 rfl ?_
        refine j_if_lt (t := 48) (n' := 15) F (by omega) dX8_chainNow_12 (by decide) rfl (fun c12_1 => ?_) (fun c12_1 => ?_)
        · refine j_iconst (n' := 49) F dX8_chainNow_48 rfl ?_
          exact j_ireturn F E dX8_chainNow_49 (⟨rfl, by first | (rw [if_neg (by omega)] at h6; exact h6) | (rw [← h6]; exact (hng (by omega)).symm)⟩)
        · refine j_aload_0 (n' := 16) F dX8_chainNow_15 rfl ?_
          refine j_iload_1 (n' := 17) F dX8_chainNow_16 rfl ?_
          refine j_iload_4 (n' := 19) F dX8_chainNow_17 rfl ?_
          refine j_aload_0 (n' := 20) F dX8_chainNow_19 rfl ?_
          refine j_getI (n' := 23) F 2 rfl fl_X8_92 kap_99 rfl dX8_chainNow_20 rfl ?_
          refine j_cV3i (n' := 26) F kl_X8_108 (c_Mod_likeness (by omega) (by omega) c5) kap_99 rfl (by decide) (Nat.le_of_ble_eq_true rfl) dX8_chainNow_23 rfl (fun z3 φ3 h3 => ?_)
          obtain ⟨rfl, rfl⟩ := h3
          refine j_iconst (n' := 27) F dX8_chainNow_26 rfl ?_
          refine j_icmp_le (t := 42) (n' := 30) F (by omega) (by omega) dX8_chainNow_27 (by decide) rfl (fun c27_3 => ?_) (fun c27_3 => ?_)
          · refine j_iinc_4 (n' := 45) F (by decide) jc_i dX8_chainNow_42 rfl ?_
            refine j_goto (t := 5) F dX8_chainNow_45 (by decide) ?_
            first
              | exact ih (d + 1) (n + -1) (by omega) (by omega) (by omega) (by omega) (by omega) (by rw [if_pos (by omega), if_pos (by omega), if_neg (by omega)] at h6; exact h6)
              | exact ih (d + 1) n (by omega) (by omega) (by omega) (by omega) (by omega) (by rw [if_pos (by omega), if_neg (by omega)] at h6; exact h6)
          · refine j_iload_3 (n' := 31) F dX8_chainNow_30 rfl ?_
            refine j_if_ne (t := 39) (n' := 34) F (by omega) dX8_chainNow_31 (by decide) rfl (fun c31_4 => ?_) (fun c31_4 => ?_)
            · refine j_iinc_3 (n' := 42) F (by decide) jc_i dX8_chainNow_39 rfl ?_
              refine j_iinc_4 (n' := 45) F (by decide) jc_i dX8_chainNow_42 rfl ?_
              refine j_goto (t := 5) F dX8_chainNow_45 (by decide) ?_
              first
                | exact ih (d + 1) (n + -1) (by omega) (by omega) (by omega) (by omega) (by omega) (by rw [if_pos (by omega), if_pos (by omega), if_neg (by omega)] at h6; exact h6)
                | exact ih (d + 1) n (by omega) (by omega) (by omega) (by omega) (by omega) (by rw [if_pos (by omega), if_neg (by omega)] at h6; exact h6)
            · refine j_iload_1 (n' := 35) F dX8_chainNow_34 rfl ?_
              refine j_iload_4 (n' := 37) F dX8_chainNow_35 rfl ?_
              refine j_isub (n' := 38) F dX8_chainNow_37 rfl ?_
              exact j_ireturn F E dX8_chainNow_38 (⟨rfl, by rw [if_pos (by omega), if_pos (by omega), if_pos (by omega)] at h6; exact h6⟩)
  refine j_iload_2 (n' := 1) F dX8_chainNow_0 rfl ?_
  refine j_istore_3 (n' := 2) F (by decide) jc_i dX8_chainNow_1 rfl ?_
  refine j_iconst (n' := 3) F dX8_chainNow_2 rfl ?_
  refine j_istore_4 (n' := 5) F (by decide) jc_i dX8_chainNow_3 rfl ?_
  exact loop 25 1 k (by omega) (by omega) (by omega) (by omega) (by omega) rfl
set_option maxRecDepth 20000 in
theorem c_Mod_chain {l : Launch} {G : jG} {B0 : Nat} {φ : jPhi} {x y : Int} (hc : miOk φ) (hx : -2147483648 ≤ x ∧ x ≤ 2147483647) (hy : -2147483648 ≤ y ∧ y ≤ 2147483647) : jC l G B0 κF 113 yX8_chain cX8_chain 3 (some .int) 2 [rf B0 99, iv x, iv y] φ mkI (fun z φ' => (z, pubM φ') = spChn (pubM φ) x y ∧ miOk φ' ∧ frC (fun a => 99 ≤ a) φ φ') := by
  refine jC_start RX8 [some (rf B0 99), some (iv x), some (iv y)] (by decide) rfl (Nat.le_of_ble_eq_true rfl) rfl (fun X Q F E => ?_)
  have hc0 := hc
  obtain ⟨c1, c2, c3, c5, c6⟩ := hc0
  refine j_aload_0 (n' := 1) F dX8_chain_0 rfl ?_
  refine j_iload_1 (n' := 2) F dX8_chain_1 rfl ?_
  refine j_cV1i (n' := 5) F kl_X8_105 (c_Mod_isPlace c3 hx) kap_99 rfl (by decide) (Nat.le_of_ble_eq_true rfl) dX8_chain_2 rfl (fun z1 φ1 h1 => ?_)
  obtain ⟨rfl, rfl⟩ := h1
  refine j_if_eq (t := 17) (n' := 8) F (by first | omega | (split <;> omega)) dX8_chain_5 (by decide) rfl (fun c5_1 => ?_) (fun c5_1 => ?_)
  · refine j_sipush (n' := 20) F dX8_chain_17 (by decide) rfl ?_
    exact j_ireturn F E dX8_chain_20 (⟨by unfold spChn pubM; dsimp only; first | (rw [if_neg (by split at * <;> omega)]; done) | (rw [if_pos (by split at * <;> omega)]; done), hc, frC.rf⟩)
  · refine j_aload_0 (n' := 9) F dX8_chain_8 rfl ?_
    refine j_iload_1 (n' := 10) F dX8_chain_9 rfl ?_
    refine j_iload_2 (n' := 11) F dX8_chain_10 rfl ?_
    refine j_cV2i (n' := 14) F kl_X8_118 (c_Mod_chainNow hc (by split at * <;> omega) hy) kap_99 rfl (by decide) (Nat.le_of_ble_eq_true rfl) dX8_chain_11 rfl (fun z3 φ3 h3 => ?_)
    obtain ⟨rfl, rfl⟩ := h3
    refine j_goto (t := 20) F dX8_chain_14 (by decide) ?_
    exact j_ireturn F E dX8_chain_20 (⟨by unfold spChn pubM; dsimp only; first | (rw [if_neg (by split at * <;> omega)]; done) | (rw [if_pos (by split at * <;> omega)]; done), hc, frC.rf⟩)
