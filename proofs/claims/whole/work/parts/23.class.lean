set_option maxRecDepth 20000 in
theorem c_Cla_hasText {l : Launch} {G : jG} {B0 : Nat} {φ : jPhi}  (c3 : 0 ≤ φ 7 2 ∧ φ 7 2 ≤ 24) : jC l G B0 κF 113 yX7_hasText cX7_hasText 1 (some .boolean) 1 [rf B0 0] φ mkI (fun z φ' => φ = φ' ∧ z = (if 0 < φ 7 2 then 1 else 0)) := by
  refine jC_start RX7 [some (rf B0 0)] (by decide) rfl (Nat.le_of_ble_eq_true rfl) rfl (fun X Q F E => ?_)
  refine j_aload_0 (n' := 1) F dX7_hasText_0 rfl ?_
  refine j_getR (n' := 4) F fl_X7_26 kap_0 rfl dX7_hasText_1 rfl ?_
  refine j_cV0i (n' := 7) F kl_X7_123 (c_Txt_size) kap_7 rfl (by decide) (Nat.le_of_ble_eq_true rfl) dX7_hasText_4 rfl (fun z1 φ1 h1 => ?_)
  obtain ⟨rfl, rfl⟩ := h1
  refine j_if_le (t := 14) (n' := 10) F (by omega) dX7_hasText_7 (by decide) rfl (fun c7_1 => ?_) (fun c7_1 => ?_)
  · refine j_iconst (n' := 15) F dX7_hasText_14 rfl ?_
    exact j_zreturn F E (by omega) dX7_hasText_15 (⟨rfl, by first | rfl | omega | (simp; omega) | (split <;> omega)⟩)
  · refine j_iconst (n' := 11) F dX7_hasText_10 rfl ?_
    refine j_goto (t := 15) F dX7_hasText_11 (by decide) ?_
    exact j_zreturn F E (by omega) dX7_hasText_15 (⟨rfl, by first | rfl | omega | (simp; omega) | (split <;> omega)⟩)
set_option maxRecDepth 20000 in
theorem c_Cla_forget {l : Launch} {G : jG} {B0 : Nat} {φ : jPhi}   : jC l G B0 κF 113 yX7_forget cX7_forget 1 none 0 [rf B0 0] φ mkV (fun z φ' => φ' = zU (zU φ 0 9 0) 0 10 0) := by
  refine jC_start RX7 [some (rf B0 0)] (by decide) rfl (Nat.le_of_ble_eq_true rfl) rfl (fun X Q F E => ?_)
  refine j_aload_0 (n' := 1) F dX7_forget_0 rfl ?_
  refine j_iconst (n' := 2) F dX7_forget_1 rfl ?_
  refine j_putB (n' := 5) F 9 rfl (by omega) fp_X7_60 kap_0 rfl rfl dX7_forget_2 rfl (fun φ1 e1 => ?_)
  refine j_aload_0 (n' := 6) F dX7_forget_5 rfl ?_
  refine j_iconst (n' := 7) F dX7_forget_6 rfl ?_
  refine j_putB (n' := 10) F 10 rfl (by omega) fp_X7_64 kap_0 rfl rfl dX7_forget_7 rfl (fun φ2 e2 => ?_)
  exact j_return F E dX7_forget_10 (by rw [e2, e1])
set_option maxRecDepth 20000 in
theorem c_Cla_mix {l : Launch} {G : jG} {B0 : Nat} {φ : jPhi} {a b : Int}  : jC l G B0 κF 113 yX7_mix cX7_mix 4 (some .long) 0 [lvv a, lvv b] φ mkL (fun z φ' => φ = φ' ∧ z = 31 * a + b) := by
  refine jC_start RX7 [some (lvv a), none, some (lvv b), none] (by decide) rfl (Nat.le_of_ble_eq_true rfl) rfl (fun X Q F E => ?_)
  refine j_ldc2 (n' := 3) F (z := 31) rfl q_583 dX7_mix_0 rfl ?_
  refine j_lload_n (n' := 4) F (i := 0) rfl dX7_mix_3 rfl ?_
  refine j_lmul (n' := 5) F dX7_mix_4 rfl ?_
  refine j_lload_n (n' := 6) F (i := 2) rfl dX7_mix_5 rfl ?_
  refine j_ladd (n' := 7) F dX7_mix_6 rfl ?_
  exact j_lreturn F E dX7_mix_7 (⟨rfl, by first | rfl | omega | (simp; omega) | (split <;> omega)⟩)
set_option maxRecDepth 20000 in
theorem c_Cla_takeText {l : Launch} {G : jG} {B0 : Nat} {φ : jPhi}  (c3 : 0 ≤ φ 7 2 ∧ φ 7 2 ≤ 24) (c5 : txOk (φ 8) (φ 7 2)) : jC l G B0 κF 113 yX7_takeText cX7_takeText 1 none 2 [rf B0 0] φ mkV (fun z φ' => alOk φ' ∧ φ' 1 1 = 0 ∧ φ' 0 9 = 0 ∧ φ' 0 10 = 0 ∧ (∀ b, b ≠ 9 → b ≠ 10 → φ' 0 b = φ 0 b) ∧ frC (fun a => a = 0 ∨ a = 1 ∨ (10 ≤ a ∧ a < 34)) φ φ') := by
  refine jC_start RX7 [some (rf B0 0)] (by decide) rfl (Nat.le_of_ble_eq_true rfl) rfl (fun X Q F E => ?_)
  refine j_aload_0 (n' := 1) F dX7_takeText_0 rfl ?_
  refine j_getR (n' := 4) F fl_X7_26 kap_0 rfl dX7_takeText_1 rfl ?_
  refine j_cV0v (n' := 7) F kl_X7_234 (c_Txt_compare c3 c5) kap_7 rfl (by decide) (Nat.le_of_ble_eq_true rfl) dX7_takeText_4 rfl (fun z1 φ1 h1 => ?_)
  obtain ⟨hal, hf1⟩ := h1
  refine j_aload_0 (n' := 8) F dX7_takeText_7 rfl ?_
  refine j_getR (n' := 11) F fl_X7_10 kap_0 rfl dX7_takeText_8 rfl ?_
  refine j_cV0v (n' := 14) F kl_X7_98 (c_Pag_clear) kap_1 rfl (by decide) (Nat.le_of_ble_eq_true rfl) dX7_takeText_11 rfl (fun z2 φ2 h2 => ?_)
  have e2 := h2
  refine j_aload_0 (n' := 15) F dX7_takeText_14 rfl ?_
  refine j_cV0v (n' := 18) F kl_X7_152 (c_Cla_forget) kap_0 rfl (by decide) (Nat.le_of_ble_eq_true rfl) dX7_takeText_15 rfl (fun z3 φ3 h3 => ?_)
  have e3 := h3
  refine j_return F E dX7_takeText_18 ?_
  have q7 : φ1 7 2 = φ 7 2 := hf1 7 2 (by omega)
  refine ⟨hal.fr (by omega) (fun a ha b => ?_), ?_, ?_, ?_, fun b q1 q2 => ?_, ?_⟩
  · rw [e3, e2, zU_ne (by omega), zU_ne (by omega), zU_ne (by omega)]
  · rw [e3, e2, zU_ne (by omega), zU_ne (by omega), zU_self]
  · rw [e3, zU_ne (by omega), zU_self]
  · rw [e3, zU_self]
  · rw [e3, e2, zU_ne (by omega), zU_ne (by omega), zU_ne (by omega)]
    exact hf1 0 b (by omega)
  · rw [e3, e2]
    exact ((frC.put (hf1.wk (fun a h => by omega)) (by omega)).put (by omega)).put (by omega)
set_option maxRecDepth 20000 in
theorem c_Cla_letter {l : Launch} {G : jG} {B0 : Nat} {φ : jPhi} {x : Int} (hc : ciOk φ) (hx : -2147483648 ≤ x ∧ x ≤ 2147483647) : jC l G B0 κF 113 yX7_letter cX7_letter 2 (some .int) 2 [rf B0 0, iv x] φ mkI (fun z φ' => (z, pubC φ') = spLet (pubC φ) x ∧ ciOk φ' ∧ frC (fun a => a < 99) φ φ') := by
  refine jC_start RX7 [some (rf B0 0), some (iv x)] (by decide) rfl (Nat.le_of_ble_eq_true rfl) rfl (fun X Q F E => ?_)
  have hc0 := hc
  obtain ⟨⟨c1, c2, c3, c4, c5, c6⟩, ch, rs⟩ := hc0
  refine j_iload_1 (n' := 1) F dX7_letter_0 rfl ?_
  refine j_bipush (n' := 3) F dX7_letter_1 (by decide) rfl ?_
  refine j_icmp_lt (t := 12) (n' := 6) F (by first | omega | (split <;> omega)) (by first | omega | (split <;> omega)) dX7_letter_3 (by decide) rfl (fun c3_0 => ?_) (fun c3_0 => ?_)
  · refine j_sipush (n' := 15) F dX7_letter_12 (by decide) rfl ?_
    exact j_ireturn F E dX7_letter_15 (⟨by unfold spLet pubC; dsimp only; rw [if_pos (by omega)], hc, frC.rf⟩)
  · refine j_iload_1 (n' := 7) F dX7_letter_6 rfl ?_
    refine j_bipush (n' := 9) F dX7_letter_7 (by decide) rfl ?_
    refine j_icmp_le (t := 16) (n' := 12) F (by first | omega | (split <;> omega)) (by first | omega | (split <;> omega)) dX7_letter_9 (by decide) rfl (fun c9_1 => ?_) (fun c9_1 => ?_)
    · refine j_aload_0 (n' := 17) F dX7_letter_16 rfl ?_
      refine j_getR (n' := 20) F fl_X7_10 kap_0 rfl dX7_letter_17 rfl ?_
      refine j_cV0i (n' := 23) F kl_X7_86 (c_Pag_isFull c1) kap_1 rfl (by decide) (Nat.le_of_ble_eq_true rfl) dX7_letter_20 rfl (fun z3 φ3 h3 => ?_)
      obtain ⟨rfl, rfl⟩ := h3
      refine j_if_eq (t := 30) (n' := 26) F (by first | omega | (split <;> omega)) dX7_letter_23 (by decide) rfl (fun c23_3 => ?_) (fun c23_3 => ?_)
      · refine j_aload_0 (n' := 31) F dX7_letter_30 rfl ?_
        refine j_getR (n' := 34) F fl_X7_10 kap_0 rfl dX7_letter_31 rfl ?_
        refine j_iload_1 (n' := 35) F dX7_letter_34 rfl ?_
        refine j_cV1v (n' := 38) F kl_X7_90 (c_Pag_add c1 (by split at * <;> omega)) kap_1 rfl (by decide) (Nat.le_of_ble_eq_true rfl) dX7_letter_35 rfl (fun z5 φ5 h5 => ?_)
        have e5 := h5
        have w1 : φ5 1 1 = φ 1 1 + 1 := by rw [e5, zU_self]
        refine j_aload_0 (n' := 39) F dX7_letter_38 rfl ?_
        refine j_getR (n' := 42) F fl_X7_10 kap_0 rfl dX7_letter_39 rfl ?_
        refine j_cV0i (n' := 45) F kl_X7_94 (c_Pag_size) kap_1 rfl (by decide) (Nat.le_of_ble_eq_true rfl) dX7_letter_42 rfl (fun z6 φ6 h6 => ?_)
        obtain ⟨rfl, rfl⟩ := h6
        refine j_ireturn F E dX7_letter_45 ?_
        have hlt : φ 1 1 < 30 := by split at * <;> omega
        have q2 : φ5 2 = fun k => if k = φ 1 1 then x else φ 2 k := by rw [e5, zU_off (by omega), zU_row]
        have q0 : ∀ a, a ≠ 1 → a ≠ 2 → φ5 a = φ a := fun a q1 q2 => by rw [e5, zU_off q1, zU_off q2]
        refine ⟨?_, ⟨⟨by omega, fun k q1 q3 => ?_, by rw [q0 7 (by omega) (by omega)]; exact c3, c4.fr c3.2 (fun a ha b => by rw [q0 a (by omega) (by omega)]), by rw [q0 8 (by omega) (by omega), q0 7 (by omega) (by omega)]; exact c5, by rw [q0 35 (by omega) (by omega)]; exact c6⟩, ?_, ?_⟩, ?_⟩
        · unfold spLet pubC
          dsimp only
          rw [if_neg (by omega), if_neg (by omega), q2, w1, q0 8 (by omega) (by omega), q0 7 (by omega) (by omega), q0 35 (by omega) (by omega), q0 0 (by omega) (by omega)]
        · rw [q2]
          dsimp only
          split
          · omega
          · exact c2 k q1 (by omega)
        · unfold chOk
          rw [q0 0 (by omega) (by omega), q0 35 (by omega) (by omega), q0 8 (by omega) (by omega), q0 7 (by omega) (by omega)]
          rcases ch with g | g
          · exact Or.inl g
          · exact Or.inr ⟨g.1, g.2.fr (fun b => by rw [q0 90 (by omega) (by omega)]) (fun b => by rw [q0 91 (by omega) (by omega)])⟩
        · unfold rsOk
          rw [q0 0 (by omega) (by omega), q0 35 (by omega) (by omega), q0 8 (by omega) (by omega), q0 7 (by omega) (by omega)]
          exact rs
        · rw [e5]
          exact (frC.put frC.rf (by omega)).put (by omega)
      · refine j_sipush (n' := 29) F dX7_letter_26 (by decide) rfl ?_
        exact j_ireturn F E dX7_letter_29 (⟨by unfold spLet pubC; dsimp only; rw [if_neg (by omega), if_pos (by split at * <;> omega)], hc, frC.rf⟩)
    · refine j_sipush (n' := 15) F dX7_letter_12 (by decide) rfl ?_
      exact j_ireturn F E dX7_letter_15 (⟨by unfold spLet pubC; dsimp only; rw [if_pos (by omega)], hc, frC.rf⟩)
set_option maxRecDepth 20000 in
theorem c_Cla_blank {l : Launch} {G : jG} {B0 : Nat} {φ : jPhi}  (hc : ciOk φ) : jC l G B0 κF 113 yX7_blank cX7_blank 2 (some .int) 1 [rf B0 0] φ mkI (fun z φ' => (z, pubC φ') = spBlank (pubC φ) ∧ ciOk φ' ∧ frC (fun a => a < 99) φ φ') := by
  refine jC_start RX7 [some (rf B0 0), none] (by decide) rfl (Nat.le_of_ble_eq_true rfl) rfl (fun X Q F E => ?_)
  have hc0 := hc
  obtain ⟨⟨c1, c2, c3, c4, c5, c6⟩, ch, rs⟩ := hc0
  refine j_aload_0 (n' := 1) F dX7_blank_0 rfl ?_
  refine j_getR (n' := 4) F fl_X7_10 kap_0 rfl dX7_blank_1 rfl ?_
  refine j_cV0i (n' := 7) F kl_X7_94 (c_Pag_size) kap_1 rfl (by decide) (Nat.le_of_ble_eq_true rfl) dX7_blank_4 rfl (fun z1 φ1 h1 => ?_)
  obtain ⟨rfl, rfl⟩ := h1
  refine j_istore_1 (n' := 8) F (by decide) jc_r dX7_blank_7 rfl ?_
  refine j_aload_0 (n' := 9) F dX7_blank_8 rfl ?_
  refine j_getR (n' := 12) F fl_X7_10 kap_0 rfl dX7_blank_9 rfl ?_
  refine j_cV0v (n' := 15) F kl_X7_98 (c_Pag_clear) kap_1 rfl (by decide) (Nat.le_of_ble_eq_true rfl) dX7_blank_12 rfl (fun z2 φ2 h2 => ?_)
  have e2 := h2
  refine j_iload_1 (n' := 16) F dX7_blank_15 rfl ?_
  refine j_ireturn F E dX7_blank_16 ?_
  have q0 : ∀ a, a ≠ 1 → φ2 a = φ a := fun a q1 => by rw [e2, zU_off q1]
  have w1 : φ2 1 1 = 0 := by rw [e2, zU_self]
  refine ⟨?_, ⟨⟨by omega, fun k q1 q3 => by omega, by rw [q0 7 (by omega)]; exact c3, c4.fr c3.2 (fun a ha b => by rw [q0 a (by omega)]), by rw [q0 8 (by omega), q0 7 (by omega)]; exact c5, by rw [q0 35 (by omega)]; exact c6⟩, ?_, ?_⟩, ?_⟩
  · unfold spBlank pubC
    dsimp only
    rw [q0 2 (by omega), w1, q0 8 (by omega), q0 7 (by omega), q0 35 (by omega), q0 0 (by omega)]
  · unfold chOk
    rw [q0 0 (by omega), q0 35 (by omega), q0 8 (by omega), q0 7 (by omega)]
    rcases ch with g | g
    · exact Or.inl g
    · exact Or.inr ⟨g.1, g.2.fr (fun b => by rw [q0 90 (by omega)]) (fun b => by rw [q0 91 (by omega)])⟩
  · unfold rsOk
    rw [q0 0 (by omega), q0 35 (by omega), q0 8 (by omega), q0 7 (by omega)]
    exact rs
  · rw [e2]
    exact frC.put frC.rf (by omega)
set_option maxRecDepth 20000 in
theorem c_Cla_fault {l : Launch} {G : jG} {B0 : Nat} {φ : jPhi} {x : Int} (hc : ciOk φ) (hx : x = 0 ∨ x = 1) : jC l G B0 κF 113 yX7_fault cX7_fault 2 (some .int) 5 [rf B0 0, iv x] φ mkI (fun z φ' => (z, pubC φ') = spFault (pubC φ) x ∧ ciOk φ' ∧ frC (fun a => a < 99) φ φ') := by
  refine jC_start RX7 [some (rf B0 0), some (iv x)] (by decide) rfl (Nat.le_of_ble_eq_true rfl) rfl (fun X Q F E => ?_)
  have hc0 := hc
  obtain ⟨⟨c1, c2, c3, c4, c5, c6⟩, ch, rs⟩ := hc0
  refine j_iload_1 (n' := 1) F dX7_fault_0 rfl ?_
  refine j_if_ne (t := 12) (n' := 4) F (by omega) dX7_fault_1 (by decide) rfl (fun c1_0 => ?_) (fun c1_0 => ?_)
  · refine j_aload_0 (n' := 13) F dX7_fault_12 rfl ?_
    refine j_getR (n' := 16) F fl_X7_19 kap_0 rfl dX7_fault_13 rfl ?_
    refine j_aload_0 (n' := 17) F dX7_fault_16 rfl ?_
    refine j_getR (n' := 20) F fl_X7_10 kap_0 rfl dX7_fault_17 rfl ?_
    refine j_cV1v (n' := 23) F kl_X7_104 (c_Rea_read c1 c2) kap_3 rfl (by decide) (Nat.le_of_ble_eq_true rfl) dX7_fault_20 rfl (fun z2 φ2 h2 => ?_)
    obtain ⟨r1, r2, r3, r4, r5, r6, r7, r8⟩ := h2
    refine j_aload_0 (n' := 24) F dX7_fault_23 rfl ?_
    refine j_getR (n' := 27) F fl_X7_19 kap_0 rfl dX7_fault_24 rfl ?_
    refine j_cV0i (n' := 30) F kl_X7_108 (c_Rea_faultPlace) kap_3 rfl (by decide) (Nat.le_of_ble_eq_true rfl) dX7_fault_27 rfl (fun z3 φ3 h3 => ?_)
    obtain ⟨rfl, rfl⟩ := h3
    refine j_ireturn F E dX7_fault_30 ?_
    refine ⟨?_, hc.fr (fun a ha b => r8 a b (by omega)), r8.wk (fun a h => by omega)⟩
    rw [pubC_fr (φ := φ) (fun a ha b => r8 a b (by omega)) (fun b hb => r8 0 b (by omega))]
    unfold spFault pubC
    dsimp only
    rw [if_neg (by omega), r2]
  · refine j_aload_0 (n' := 5) F dX7_fault_4 rfl ?_
    refine j_getR (n' := 8) F fl_X7_10 kap_0 rfl dX7_fault_5 rfl ?_
    refine j_cV0i (n' := 11) F kl_X7_101 (c_Pag_textFault c1 c2) kap_1 rfl (by decide) (Nat.le_of_ble_eq_true rfl) dX7_fault_8 rfl (fun z4 φ4 h4 => ?_)
    obtain ⟨rfl, rfl⟩ := h4
    exact j_ireturn F E dX7_fault_11 (⟨by unfold spFault pubC; dsimp only; rw [if_pos (by omega)], hc, frC.rf⟩)
set_option maxRecDepth 20000 in
theorem c_Cla_priced {l : Launch} {G : jG} {B0 : Nat} {φ : jPhi}  (hc : ciOk φ) : jC l G B0 κF 113 yX7_priced cX7_priced 1 (some .int) 5 [rf B0 0] φ mkI (fun z φ' => (z, pubC φ') = spPriced (pubC φ) ∧ ciOk φ' ∧ frC (fun a => a < 99) φ φ') := by
  refine jC_start RX7 [some (rf B0 0)] (by decide) rfl (Nat.le_of_ble_eq_true rfl) rfl (fun X Q F E => ?_)
  have hc0 := hc
  obtain ⟨⟨c1, c2, c3, c4, c5, c6⟩, ch, rs⟩ := hc0
  have rk := rdR_ok (φ 2) (φ 1 1)
  refine j_aload_0 (n' := 1) F dX7_priced_0 rfl ?_
  refine j_getR (n' := 4) F fl_X7_19 kap_0 rfl dX7_priced_1 rfl ?_
  refine j_aload_0 (n' := 5) F dX7_priced_4 rfl ?_
  refine j_getR (n' := 8) F fl_X7_10 kap_0 rfl dX7_priced_5 rfl ?_
  refine j_cV1v (n' := 11) F kl_X7_104 (c_Rea_read c1 c2) kap_3 rfl (by decide) (Nat.le_of_ble_eq_true rfl) dX7_priced_8 rfl (fun z1 φ1 h1 => ?_)
  obtain ⟨r1, r2, r3, r4, r5, r6, r7, r8⟩ := h1
  have p35 : φ1 35 = φ 35 := funext fun b => r8 35 b (by omega)
  refine j_aload_0 (n' := 12) F dX7_priced_11 rfl ?_
  refine j_getR (n' := 15) F fl_X7_19 kap_0 rfl dX7_priced_12 rfl ?_
  refine j_cV0i (n' := 18) F kl_X7_124 (c_Rea_isCode r3 r4 r5) kap_3 rfl (by decide) (Nat.le_of_ble_eq_true rfl) dX7_priced_15 rfl (fun z2 φ2 h2 => ?_)
  obtain ⟨rfl, rfl⟩ := h2
  rw [r1]
  have rk5 := rk.2.2.2.2.1
  refine j_if_ne (t := 25) (n' := 21) F (by omega) dX7_priced_18 (by decide) rfl (fun c18_2 => ?_) (fun c18_2 => ?_)
  · refine j_aload_0 (n' := 26) F dX7_priced_25 rfl ?_
    refine j_getR (n' := 29) F fl_X7_33 kap_0 rfl dX7_priced_26 rfl ?_
    refine j_aload_0 (n' := 30) F dX7_priced_29 rfl ?_
    refine j_getR (n' := 33) F fl_X7_19 kap_0 rfl dX7_priced_30 rfl ?_
    refine j_cV0r (n' := 36) F kl_X7_133 (c_Rea_tokens) kap_3 rfl (by decide) (Nat.le_of_ble_eq_true rfl) dX7_priced_33 rfl (fun z4 φ4 h4 => ?_)
    obtain ⟨rfl, rfl⟩ := h4
    refine j_cV1i (n' := 39) F kl_X7_137 (c_Pri_ofRow kap_34 kap_35 (by rw [p35]; exact c6) kap_5 kap_6 r7 (by have := rk.2.2.1; have := rk.2.2.2.1; omega) rk.1) kap_34 rfl (by decide) (Nat.le_of_ble_eq_true rfl) dX7_priced_36 rfl (fun z5 φ5 h5 => ?_)
    obtain ⟨rfl, rfl⟩ := h5
    refine j_ireturn F E dX7_priced_39 ?_
    refine ⟨?_, hc.fr (fun a ha b => r8 a b (by omega)), r8.wk (fun a h => by omega)⟩
    rw [pubC_fr (φ := φ) (fun a ha b => r8 a b (by omega)) (fun b hb => r8 0 b (by omega))]
    unfold spPriced pubC
    dsimp only
    rw [if_pos (by omega), p35]
  · refine j_sipush (n' := 24) F dX7_priced_21 (by decide) rfl ?_
    refine j_ireturn F E dX7_priced_24 ?_
    refine ⟨?_, hc.fr (fun a ha b => r8 a b (by omega)), r8.wk (fun a h => by omega)⟩
    rw [pubC_fr (φ := φ) (fun a ha b => r8 a b (by omega)) (fun b hb => r8 0 b (by omega))]
    unfold spPriced pubC
    dsimp only
    rw [if_neg (by omega)]
set_option maxRecDepth 20000 in
theorem c_Cla_priceOf {l : Launch} {G : jG} {B0 : Nat} {φ : jPhi} {x : Int} (hc : ciOk φ) (hx : -2147483648 ≤ x ∧ x ≤ 2147483647) : jC l G B0 κF 113 yX7_priceOf cX7_priceOf 2 (some .int) 1 [rf B0 0, iv x] φ mkI (fun z φ' => (z, pubC φ') = spPriceOf (pubC φ) x ∧ ciOk φ' ∧ frC (fun a => a < 99) φ φ') := by
  refine jC_start RX7 [some (rf B0 0), some (iv x)] (by decide) rfl (Nat.le_of_ble_eq_true rfl) rfl (fun X Q F E => ?_)
  have hc0 := hc
  obtain ⟨⟨c1, c2, c3, c4, c5, c6⟩, ch, rs⟩ := hc0
  refine j_iload_1 (n' := 1) F dX7_priceOf_0 rfl ?_
  refine j_cS1i (n' := 4) F kl_X7_141 (c_Cla_isPrice hx) (by decide) (Nat.le_of_ble_eq_true rfl) dX7_priceOf_1 rfl (fun z1 φ1 h1 => ?_)
  obtain ⟨rfl, rfl⟩ := h1
  refine j_if_eq (t := 18) (n' := 7) F (by first | omega | (split <;> omega)) dX7_priceOf_4 (by decide) rfl (fun c4_1 => ?_) (fun c4_1 => ?_)
  · refine j_sipush (n' := 21) F dX7_priceOf_18 (by decide) rfl ?_
    exact j_ireturn F E dX7_priceOf_21 (⟨by unfold spPriceOf pubC; dsimp only; first | (rw [if_neg (by split at * <;> omega)]; done) | (rw [pget]; done) | (rw [pget, if_pos (by split at * <;> omega), if_pos (by split at * <;> omega)]; done), hc, frC.rf⟩)
  · refine j_aload_0 (n' := 8) F dX7_priceOf_7 rfl ?_
    refine j_getR (n' := 11) F fl_X7_33 kap_0 rfl dX7_priceOf_8 rfl ?_
    refine j_iload_1 (n' := 12) F dX7_priceOf_11 rfl ?_
    refine j_cV1i (n' := 15) F kl_X7_145 (c_Pri_get kap_34 kap_35 hx) kap_34 rfl (by decide) (Nat.le_of_ble_eq_true rfl) dX7_priceOf_12 rfl (fun z3 φ3 h3 => ?_)
    obtain ⟨rfl, rfl⟩ := h3
    refine j_goto (t := 21) F dX7_priceOf_15 (by decide) ?_
    exact j_ireturn F E dX7_priceOf_21 (⟨by unfold spPriceOf pubC; dsimp only; first | (rw [if_neg (by split at * <;> omega)]; done) | (rw [pget]; done) | (rw [pget, if_pos (by split at * <;> omega), if_pos (by split at * <;> omega)]; done), hc, frC.rf⟩)
set_option maxRecDepth 20000 in
theorem c_Cla_price {l : Launch} {G : jG} {B0 : Nat} {φ : jPhi} {x y : Int} (hc : ciOk φ) (hx : -2147483648 ≤ x ∧ x ≤ 2147483647) (hy : -2147483648 ≤ y ∧ y ≤ 2147483647) : jC l G B0 κF 113 yX7_price cX7_price 4 (some .int) 2 [rf B0 0, iv x, iv y] φ mkI (fun z φ' => (z, pubC φ') = spPrice (pubC φ) x y ∧ ciOk φ' ∧ frC (fun a => a < 99) φ φ') := by
  refine jC_start RX7 [some (rf B0 0), some (iv x), some (iv y), none] (by decide) rfl (Nat.le_of_ble_eq_true rfl) rfl (fun X Q F E => ?_)
  have hc0 := hc
  obtain ⟨⟨c1, c2, c3, c4, c5, c6⟩, ch, rs⟩ := hc0
  refine j_iload_1 (n' := 1) F dX7_price_0 rfl ?_
  refine j_cS1i (n' := 4) F kl_X7_141 (c_Cla_isPrice hx) (by decide) (Nat.le_of_ble_eq_true rfl) dX7_price_1 rfl (fun z1 φ1 h1 => ?_)
  obtain ⟨rfl, rfl⟩ := h1
  refine j_if_ne (t := 11) (n' := 7) F (by first | omega | (split <;> omega)) dX7_price_4 (by decide) rfl (fun c4_1 => ?_) (fun c4_1 => ?_)
  · refine j_iload_2 (n' := 12) F dX7_price_11 rfl ?_
    refine j_iconst (n' := 13) F dX7_price_12 rfl ?_
    refine j_icmp_lt (t := 22) (n' := 16) F (by first | omega | (split <;> omega)) (by first | omega | (split <;> omega)) dX7_price_13 (by decide) rfl (fun c13_2 => ?_) (fun c13_2 => ?_)
    · refine j_sipush (n' := 25) F dX7_price_22 (by decide) rfl ?_
      exact j_ireturn F E dX7_price_25 (⟨by unfold spPrice pubC; dsimp only; rw [if_neg (by split at * <;> omega), if_pos (by omega)], hc, frC.rf⟩)
    · refine j_iload_2 (n' := 17) F dX7_price_16 rfl ?_
      refine j_bipush (n' := 19) F dX7_price_17 (by decide) rfl ?_
      refine j_icmp_le (t := 26) (n' := 22) F (by first | omega | (split <;> omega)) (by first | omega | (split <;> omega)) dX7_price_19 (by decide) rfl (fun c19_3 => ?_) (fun c19_3 => ?_)
      · refine j_aload_0 (n' := 27) F dX7_price_26 rfl ?_
        refine j_getR (n' := 30) F fl_X7_33 kap_0 rfl dX7_price_27 rfl ?_
        refine j_iload_1 (n' := 31) F dX7_price_30 rfl ?_
        refine j_cV1i (n' := 34) F kl_X7_145 (c_Pri_get kap_34 kap_35 hx) kap_34 rfl (by decide) (Nat.le_of_ble_eq_true rfl) dX7_price_31 rfl (fun z5 φ5 h5 => ?_)
        obtain ⟨rfl, rfl⟩ := h5
        refine j_istore_3 (n' := 35) F (by decide) jc_i dX7_price_34 rfl ?_
        refine j_aload_0 (n' := 36) F dX7_price_35 rfl ?_
        refine j_getR (n' := 39) F fl_X7_33 kap_0 rfl dX7_price_36 rfl ?_
        refine j_iload_1 (n' := 40) F dX7_price_39 rfl ?_
        refine j_iload_2 (n' := 41) F dX7_price_40 rfl ?_
        refine j_cV2v (n' := 44) F kl_X7_148 (c_Pri_set kap_34 kap_35 (by split at * <;> omega)) kap_34 rfl (by decide) (Nat.le_of_ble_eq_true rfl) dX7_price_41 rfl (fun z6 φ6 h6 => ?_)
        have e6 := h6
        refine j_aload_0 (n' := 45) F dX7_price_44 rfl ?_
        refine j_cV0v (n' := 48) F kl_X7_152 (c_Cla_forget) kap_0 rfl (by decide) (Nat.le_of_ble_eq_true rfl) dX7_price_45 rfl (fun z7 φ7 h7 => ?_)
        have e7 := h7
        refine j_iload_3 (n' := 49) F dX7_price_48 rfl ?_
        refine j_ireturn F E dX7_price_49 ?_
        have hin : 0 ≤ x ∧ x < 18 := by split at * <;> omega
        have q35 : φ7 35 = fun k => if k = x then y else φ 35 k := by rw [e7, zU_off (by omega), zU_off (by omega), e6, zU_row]
        have q0 : ∀ a, a ≠ 0 → a ≠ 35 → φ7 a = φ a := fun a q1 q2 => by rw [e7, zU_off q1, zU_off q1, e6, zU_off q2]
        have k9 : φ7 0 9 = 0 := by rw [e7, zU_ne (by omega), zU_self]
        have k10 : φ7 0 10 = 0 := by rw [e7, zU_self]
        have kk : ∀ b, b ≠ 9 → b ≠ 10 → φ7 0 b = φ 0 b := fun b q1 q2 => by rw [e7, zU_ne (by omega), zU_ne (by omega), e6, zU_ne (by omega)]
        refine ⟨?_, ⟨⟨by rw [q0 1 (by omega) (by omega)]; exact c1, by rw [q0 1 (by omega) (by omega), q0 2 (by omega) (by omega)]; exact c2, by rw [q0 7 (by omega) (by omega)]; exact c3, c4.fr c3.2 (fun a ha b => by rw [q0 a (by omega) (by omega)]), by rw [q0 8 (by omega) (by omega), q0 7 (by omega) (by omega)]; exact c5, fun k q1 q2 => ?_⟩, Or.inl k9, Or.inl k10⟩, ?_⟩
        · unfold spPrice pubC
          dsimp only
          rw [if_neg (by omega), if_neg (by omega), q35, q0 1 (by omega) (by omega), q0 2 (by omega) (by omega), q0 8 (by omega) (by omega), q0 7 (by omega) (by omega), kk 14 (by omega) (by omega), kk 15 (by omega) (by omega), kk 16 (by omega) (by omega), pget, if_pos hin]
        · rw [q35]
          dsimp only
          split
          · omega
          · exact c6 k q1 q2
        · rw [e7, e6]
          exact ((frC.put frC.rf (by omega)).put (by omega)).put (by omega)
      · refine j_sipush (n' := 25) F dX7_price_22 (by decide) rfl ?_
        exact j_ireturn F E dX7_price_25 (⟨by unfold spPrice pubC; dsimp only; rw [if_neg (by split at * <;> omega), if_pos (by omega)], hc, frC.rf⟩)
  · refine j_sipush (n' := 10) F dX7_price_7 (by decide) rfl ?_
    exact j_ireturn F E dX7_price_10 (⟨by unfold spPrice pubC; dsimp only; rw [if_pos (by split at * <;> omega)], hc, frC.rf⟩)
set_option maxRecDepth 20000 in
theorem c_Cla_at {l : Launch} {G : jG} {B0 : Nat} {φ : jPhi} {x : Int} (hc : ciOk φ) (hx : -2147483648 ≤ x ∧ x ≤ 2147483647) : jC l G B0 κF 113 yX7_at cX7_at 2 (some .int) 2 [rf B0 0, iv x] φ mkI (fun z φ' => (z, pubC φ') = spAt (pubC φ) x ∧ ciOk φ' ∧ frC (fun a => a < 99) φ φ') := by
  refine jC_start RX7 [some (rf B0 0), some (iv x)] (by decide) rfl (Nat.le_of_ble_eq_true rfl) rfl (fun X Q F E => ?_)
  have hc0 := hc
  obtain ⟨⟨c1, c2, c3, c4, c5, c6⟩, ch, rs⟩ := hc0
  refine j_aload_0 (n' := 1) F dX7_at_0 rfl ?_
  refine j_getR (n' := 4) F fl_X7_26 kap_0 rfl dX7_at_1 rfl ?_
  refine j_iload_1 (n' := 5) F dX7_at_4 rfl ?_
  refine j_cV1i (n' := 8) F kl_X7_167 (c_Txt_has c3 hx) kap_7 rfl (by decide) (Nat.le_of_ble_eq_true rfl) dX7_at_5 rfl (fun z1 φ1 h1 => ?_)
  obtain ⟨rfl, rfl⟩ := h1
  refine j_if_eq (t := 22) (n' := 11) F (by first | omega | (split <;> omega)) dX7_at_8 (by decide) rfl (fun c8_1 => ?_) (fun c8_1 => ?_)
  · refine j_sipush (n' := 25) F dX7_at_22 (by decide) rfl ?_
    exact j_ireturn F E dX7_at_25 (⟨by unfold spAt pubC; dsimp only; first | (rw [if_neg (by split at * <;> omega)]; done) | (rw [if_pos (by split at * <;> omega), if_pos (by split at * <;> omega)]; done), hc, frC.rf⟩)
  · refine j_aload_0 (n' := 12) F dX7_at_11 rfl ?_
    refine j_getR (n' := 15) F fl_X7_26 kap_0 rfl dX7_at_12 rfl ?_
    refine j_iload_1 (n' := 16) F dX7_at_15 rfl ?_
    refine j_cV1i (n' := 19) F kl_X7_170 (c_Txt_letterAt c3 hx) kap_7 rfl (by decide) (Nat.le_of_ble_eq_true rfl) dX7_at_16 rfl (fun z3 φ3 h3 => ?_)
    obtain ⟨rfl, rfl⟩ := h3
    refine j_goto (t := 25) F dX7_at_19 (by decide) ?_
    exact j_ireturn F E dX7_at_25 (⟨by unfold spAt pubC; dsimp only; first | (rw [if_neg (by split at * <;> omega)]; done) | (rw [if_pos (by split at * <;> omega), if_pos (by split at * <;> omega)]; done), hc, frC.rf⟩)
theorem far_bd {f : Int → Int} {p : Int} (hp : 0 ≤ p) (hf : ∀ d, 0 ≤ f d ∧ f d ≤ 8) : 0 ≤ (farOf' f p).1 ∧ (farOf' f p).1 ≤ p ∧ ((farOf' f p).1 ≠ 0 → 2 ≤ f (farOf' f p).1) := by
  unfold farOf'
  have h := lpI_inv (f := farS f) (lo := 1) (hi := p + 1) (a := ((0 : Int), (1 : Int))) (fun i (b : Int × Int) => 0 ≤ b.1 ∧ b.1 < i ∧ 1 ≤ b.2 ∧ (b.1 ≠ 0 → 2 ≤ f b.1)) (by omega) ⟨by omega, by omega, by omega, fun q => absurd rfl q⟩ (fun j b h1 h2 h3 => by
    unfold farS
    split
    · simp only
      omega
    · exact ⟨h3.1, by omega, h3.2.2.1, h3.2.2.2⟩)
  exact ⟨h.1, by omega, h.2.2.2⟩
set_option maxRecDepth 20000 in
theorem c_Cla_longest {l : Launch} {G : jG} {B0 : Nat} {φ : jPhi} {x y : Int} (hc : ciOk φ) (hx : -2147483648 ≤ x ∧ x ≤ 2147483647) (hy : -2147483648 ≤ y ∧ y ≤ 2147483647) : jC l G B0 κF 113 yX7_longest cX7_longest 4 (some .int) 2 [rf B0 0, iv x, iv y] φ mkI (fun z φ' => (z, pubC φ') = spLon (pubC φ) x y ∧ ciOk φ' ∧ frC (fun a => a < 99) φ φ') := by
  refine jC_start RX7 [some (rf B0 0), some (iv x), some (iv y), none] (by decide) rfl (Nat.le_of_ble_eq_true rfl) rfl (fun X Q F E => ?_)
  have hc0 := hc
  obtain ⟨⟨c1, c2, c3, c4, c5, c6⟩, ch, rs⟩ := hc0
  refine j_aload_0 (n' := 1) F dX7_longest_0 rfl ?_
  refine j_getR (n' := 4) F fl_X7_26 kap_0 rfl dX7_longest_1 rfl ?_
  refine j_iload_1 (n' := 5) F dX7_longest_4 rfl ?_
  refine j_cV1i (n' := 8) F kl_X7_167 (c_Txt_has c3 hx) kap_7 rfl (by decide) (Nat.le_of_ble_eq_true rfl) dX7_longest_5 rfl (fun z1 φ1 h1 => ?_)
  obtain ⟨rfl, rfl⟩ := h1
  refine j_if_ne (t := 15) (n' := 11) F (by first | omega | (split <;> omega)) dX7_longest_8 (by decide) rfl (fun c8_1 => ?_) (fun c8_1 => ?_)
  · refine j_iload_2 (n' := 16) F dX7_longest_15 rfl ?_
    refine j_if_lt (t := 24) (n' := 19) F (by first | omega | (split <;> omega)) dX7_longest_16 (by decide) rfl (fun c16_2 => ?_) (fun c16_2 => ?_)
    · refine j_sipush (n' := 27) F dX7_longest_24 (by decide) rfl ?_
      exact j_ireturn F E dX7_longest_27 (⟨by unfold spLon pubC; dsimp only; rw [if_neg (by split at * <;> omega), if_pos (by omega)], hc, frC.rf⟩)
    · refine j_iload_2 (n' := 20) F dX7_longest_19 rfl ?_
      refine j_iconst (n' := 21) F dX7_longest_20 rfl ?_
      refine j_icmp_le (t := 28) (n' := 24) F (by first | omega | (split <;> omega)) (by first | omega | (split <;> omega)) dX7_longest_21 (by decide) rfl (fun c21_3 => ?_) (fun c21_3 => ?_)
      · refine j_aload_0 (n' := 29) F dX7_longest_28 rfl ?_
        refine j_getR (n' := 32) F fl_X7_26 kap_0 rfl dX7_longest_29 rfl ?_
        refine j_iload_1 (n' := 33) F dX7_longest_32 rfl ?_
        refine j_cV1i (n' := 36) F kl_X7_173 (c_Txt_longestDistance c3 c4 (by split at * <;> omega)) kap_7 rfl (by decide) (Nat.le_of_ble_eq_true rfl) dX7_longest_33 rfl (fun z5 φ5 h5 => ?_)
        obtain ⟨rfl, rfl⟩ := h5
        have hin : 0 ≤ x ∧ x < φ 7 2 := by split at * <;> omega
        have hfb := far_bd (f := lik (φ 8) (φ 7 2) 8 x) (p := x) (by omega) (fun d => ⟨(lik_bd (φ 8) (φ 7 2) 8 x d).1, (lik_bd (φ 8) (φ 7 2) 8 x d).2.1⟩)
        refine j_istore_3 (n' := 37) F (by decide) jc_i dX7_longest_36 rfl ?_
        refine j_iload_2 (n' := 38) F dX7_longest_37 rfl ?_
        refine j_if_ne (t := 53) (n' := 41) F (by first | omega | (split <;> omega)) dX7_longest_38 (by decide) rfl (fun c38_5 => ?_) (fun c38_5 => ?_)
        · refine j_iload_3 (n' := 54) F dX7_longest_53 rfl ?_
          refine j_ireturn F E dX7_longest_54 ?_
          refine ⟨?_, hc, frC.rf⟩
          unfold spLon pubC
          dsimp only
          rw [if_neg (by omega), if_neg (by omega), lonV]
          rw [if_neg (by omega)]
        · refine j_aload_0 (n' := 42) F dX7_longest_41 rfl ?_
          refine j_getR (n' := 45) F fl_X7_26 kap_0 rfl dX7_longest_42 rfl ?_
          refine j_iload_1 (n' := 46) F dX7_longest_45 rfl ?_
          refine j_iload_3 (n' := 47) F dX7_longest_46 rfl ?_
          refine j_cV2i (n' := 50) F kl_X7_176 (c_Txt_likeness c3 hx (by omega)) kap_7 rfl (by decide) (Nat.le_of_ble_eq_true rfl) dX7_longest_47 rfl (fun z7 φ7 h7 => ?_)
          obtain ⟨rfl, rfl⟩ := h7
          refine j_goto (t := 54) F dX7_longest_50 (by decide) ?_
          refine j_ireturn F E dX7_longest_54 ?_
          refine ⟨?_, hc, frC.rf⟩
          unfold spLon pubC
          dsimp only
          rw [if_neg (c := ¬ (0 ≤ x ∧ x < φ 7 2)) (by omega), if_neg (c := ¬ (0 ≤ y ∧ y ≤ 1)) (by omega), lonV, if_pos (c := y = 0) (by omega)]
          by_cases hz : (farOf' (lik (φ 8) (φ 7 2) 8 x) x).1 = 0
          · rw [if_neg (by omega), if_pos hz]
          · rw [if_pos (by omega), if_neg hz, c4 x _ (by omega) (by omega) (by omega)]
      · refine j_sipush (n' := 27) F dX7_longest_24 (by decide) rfl ?_
        exact j_ireturn F E dX7_longest_27 (⟨by unfold spLon pubC; dsimp only; rw [if_neg (by split at * <;> omega), if_pos (by omega)], hc, frC.rf⟩)
  · refine j_sipush (n' := 14) F dX7_longest_11 (by decide) rfl ?_
    exact j_ireturn F E dX7_longest_14 (⟨by unfold spLon pubC; dsimp only; rw [if_pos (by split at * <;> omega)], hc, frC.rf⟩)
set_option maxRecDepth 20000 in
theorem c_Cla_chain {l : Launch} {G : jG} {B0 : Nat} {φ : jPhi} {x y : Int} (hc : ciOk φ) (hx : -2147483648 ≤ x ∧ x ≤ 2147483647) (hy : -2147483648 ≤ y ∧ y ≤ 2147483647) : jC l G B0 κF 113 yX7_chain cX7_chain 3 (some .int) 2 [rf B0 0, iv x, iv y] φ mkI (fun z φ' => (z, pubC φ') = spChn (pubC φ) x y ∧ ciOk φ' ∧ frC (fun a => a < 99) φ φ') := by
  refine jC_start RX7 [some (rf B0 0), some (iv x), some (iv y)] (by decide) rfl (Nat.le_of_ble_eq_true rfl) rfl (fun X Q F E => ?_)
  have hc0 := hc
  obtain ⟨⟨c1, c2, c3, c4, c5, c6⟩, ch, rs⟩ := hc0
  refine j_aload_0 (n' := 1) F dX7_chain_0 rfl ?_
  refine j_getR (n' := 4) F fl_X7_26 kap_0 rfl dX7_chain_1 rfl ?_
  refine j_iload_1 (n' := 5) F dX7_chain_4 rfl ?_
  refine j_cV1i (n' := 8) F kl_X7_167 (c_Txt_has c3 hx) kap_7 rfl (by decide) (Nat.le_of_ble_eq_true rfl) dX7_chain_5 rfl (fun z1 φ1 h1 => ?_)
  obtain ⟨rfl, rfl⟩ := h1
  refine j_if_eq (t := 23) (n' := 11) F (by first | omega | (split <;> omega)) dX7_chain_8 (by decide) rfl (fun c8_1 => ?_) (fun c8_1 => ?_)
  · refine j_sipush (n' := 26) F dX7_chain_23 (by decide) rfl ?_
    exact j_ireturn F E dX7_chain_26 (⟨by unfold spChn pubC; dsimp only; first | (rw [if_neg (by split at * <;> omega)]; done) | (rw [if_pos (by split at * <;> omega)]; rfl), hc, frC.rf⟩)
  · refine j_aload_0 (n' := 12) F dX7_chain_11 rfl ?_
    refine j_getR (n' := 15) F fl_X7_26 kap_0 rfl dX7_chain_12 rfl ?_
    refine j_iload_1 (n' := 16) F dX7_chain_15 rfl ?_
    refine j_iload_2 (n' := 17) F dX7_chain_16 rfl ?_
    refine j_cV2i (n' := 20) F kl_X7_180 (c_Txt_chainPlace c3 c4 (by split at * <;> omega) hy) kap_7 rfl (by decide) (Nat.le_of_ble_eq_true rfl) dX7_chain_17 rfl (fun z3 φ3 h3 => ?_)
    obtain ⟨rfl, rfl⟩ := h3
    refine j_goto (t := 26) F dX7_chain_20 (by decide) ?_
    exact j_ireturn F E dX7_chain_26 (⟨by unfold spChn pubC; dsimp only; first | (rw [if_neg (by split at * <;> omega)]; done) | (rw [if_pos (by split at * <;> omega)]; rfl), hc, frC.rf⟩)
